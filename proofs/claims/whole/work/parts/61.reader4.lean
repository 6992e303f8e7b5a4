def clr (σ : Sg) : Sg := flI (flI (sI (flI (sI (sI (sI (sI (sI (sI (sI (sI σ 23 0 20) 23 1 0) 23 2 0) 23 3 0) 23 4 0) 23 5 (-1)) 23 6 0) 23 7 0) 33 16 0) 34 4 0) 36 3 0) 37 3 0
def d0 (σ : Sg) : Dl := fun a => if 18 ≤ a ∧ a ≤ 37 then (sI (sI (clr σ) 18 3 0) 18 4 0).1 a else fun _ => 0

theorem c_X9_clear {G : Gx} {σ : Sg}  : Con G 3 mX9_clear [.ref (G.2.2.2 + 23)] σ (pV (fun σ' => σ' = clr σ)) := by
  refine e_entry om_X9_clear (Nat.le_of_ble_eq_true rfl) (L := [some (.ref (G.2.2.2 + 23))]) rfl ?_
  refine e_aload_n (q := 1) (i := 0) dX9_clear_0 rfl rfl rfl ?_
  refine e_bipush (q := 3) dX9_clear_1 rfl (by decide) ?_
  refine e_putI (q := 6) (jz := 0) dX9_clear_3 rfl fp_X9_9 rfl (by first | assumption | rfl) rfl ?_
  refine e_aload_n (q := 7) (i := 0) dX9_clear_6 rfl rfl rfl ?_
  refine e_iconst (q := 8) dX9_clear_7 rfl ?_
  refine e_putI (q := 11) (jz := 1) dX9_clear_8 rfl fp_X9_56 rfl (by first | assumption | rfl) rfl ?_
  refine e_aload_n (q := 12) (i := 0) dX9_clear_11 rfl rfl rfl ?_
  refine e_iconst (q := 13) dX9_clear_12 rfl ?_
  refine e_putI (q := 16) (jz := 2) dX9_clear_13 rfl fp_X9_59 rfl (by first | assumption | rfl) rfl ?_
  refine e_aload_n (q := 17) (i := 0) dX9_clear_16 rfl rfl rfl ?_
  refine e_iconst (q := 18) dX9_clear_17 rfl ?_
  refine e_putI (q := 21) (jz := 3) dX9_clear_18 rfl fp_X9_62 rfl (by first | assumption | rfl) rfl ?_
  refine e_aload_n (q := 22) (i := 0) dX9_clear_21 rfl rfl rfl ?_
  refine e_iconst (q := 23) dX9_clear_22 rfl ?_
  refine e_putI (q := 26) (jz := 4) dX9_clear_23 rfl fp_X9_65 rfl (by first | assumption | rfl) rfl ?_
  refine e_aload_n (q := 27) (i := 0) dX9_clear_26 rfl rfl rfl ?_
  refine e_iconst (q := 28) dX9_clear_27 rfl ?_
  refine e_putI (q := 31) (jz := 5) dX9_clear_28 rfl fp_X9_15 rfl (by first | assumption | rfl) rfl ?_
  refine e_aload_n (q := 32) (i := 0) dX9_clear_31 rfl rfl rfl ?_
  refine e_iconst (q := 33) dX9_clear_32 rfl ?_
  refine e_putI (q := 36) (jz := 6) dX9_clear_33 rfl fp_X9_68 rfl (by first | assumption | rfl) rfl ?_
  refine e_aload_n (q := 37) (i := 0) dX9_clear_36 rfl rfl rfl ?_
  refine e_iconst (q := 38) dX9_clear_37 rfl ?_
  refine e_putI (q := 41) (jz := 7) dX9_clear_38 rfl fp_X9_71 rfl (by first | assumption | rfl) rfl ?_
  refine e_aload_n (q := 42) (i := 0) dX9_clear_41 rfl rfl rfl ?_
  refine e_getR (q := 45) dX9_clear_42 rfl fg_X9_46 (by first | assumption | rfl) rfl ?_
  refine e_iconst (q := 46) dX9_clear_45 rfl ?_
  refine e_Sv (q := 49) (vs := [_, _]) ok_J7_fill_53178 ml_X9_74 dX9_clear_46 rfl rfl rfl (Nat.le_of_ble_eq_true rfl) (by decide) (c_fill (k := 33) (m := 16) rfl rfl (by decide)) (fun s46 h46 => ?_)
  subst h46
  refine e_aload_n (q := 50) (i := 0) dX9_clear_49 rfl rfl rfl ?_
  refine e_getR (q := 53) dX9_clear_50 rfl fg_X9_52 (by first | assumption | rfl) rfl ?_
  refine e_Vv (q := 56) (vs := []) ok_X3_clear ml_X9_80 dX9_clear_53 rfl ⟨_, _, rfl⟩ (by first | assumption | rfl) rfl rfl (Nat.le_of_ble_eq_true rfl) (by decide) (c_X3_clear) (fun s53 h53 => ?_)
  subst h53
  exact r_v dX9_clear_56 rfl rfl

def tkn (σ : Sg) : Sg := (cpI (cpI (cpI (sI (cpI (cpI (cpI (cpI (cpI (cpI (cpI (cpI (cpI (cpI (sI (sI (sI (sI (sI (sI (sI (sI σ 2 0 (σ.1 23 0)) 2 1 (σ.1 23 1)) 2 2 (σ.1 23 2)) 2 3 (σ.1 23 3)) 2 4 (σ.1 23 4)) 2 5 (σ.1 23 5)) 2 6 (σ.1 23 6)) 2 7 (σ.1 23 7)) 24 3 4) 25 4 4) 26 5 4) 27 6 6) 28 7 6) 29 8 6) 30 9 12) 31 10 12) 32 11 12) 33 12 16) 13 4 (σ.1 34 4)) 35 14 64) 36 15 3) 37 16 3)

set_option maxHeartbeats 8000000 in
theorem c_X9_take {G : Gx} {σ : Sg}  : Con G 3 mX9_take [.ref (G.2.2.2 + 2), .ref (G.2.2.2 + 23)] σ (pV (fun σ' => σ' = tkn σ)) := by
  refine e_entry om_X9_take (Nat.le_of_ble_eq_true rfl) (L := [some (.ref (G.2.2.2 + 2)), some (.ref (G.2.2.2 + 23))]) rfl ?_
  refine e_aload_n (q := 1) (i := 0) dX9_take_0 rfl rfl rfl ?_
  refine e_aload_n (q := 2) (i := 1) dX9_take_1 rfl rfl rfl ?_
  refine e_getI (q := 5) (jz := 0) dX9_take_2 rfl fg_X9_9 rfl (by first | assumption | rfl) rfl ?_
  refine e_putI (q := 8) (jz := 0) dX9_take_5 rfl fp_X9_9 rfl (by first | assumption | rfl) rfl ?_
  refine e_aload_n (q := 9) (i := 0) dX9_take_8 rfl rfl rfl ?_
  refine e_aload_n (q := 10) (i := 1) dX9_take_9 rfl rfl rfl ?_
  refine e_getI (q := 13) (jz := 1) dX9_take_10 rfl fg_X9_56 rfl (by first | assumption | rfl) rfl ?_
  refine e_putI (q := 16) (jz := 1) dX9_take_13 rfl fp_X9_56 rfl (by first | assumption | rfl) rfl ?_
  refine e_aload_n (q := 17) (i := 0) dX9_take_16 rfl rfl rfl ?_
  refine e_aload_n (q := 18) (i := 1) dX9_take_17 rfl rfl rfl ?_
  refine e_getI (q := 21) (jz := 2) dX9_take_18 rfl fg_X9_59 rfl (by first | assumption | rfl) rfl ?_
  refine e_putI (q := 24) (jz := 2) dX9_take_21 rfl fp_X9_59 rfl (by first | assumption | rfl) rfl ?_
  refine e_aload_n (q := 25) (i := 0) dX9_take_24 rfl rfl rfl ?_
  refine e_aload_n (q := 26) (i := 1) dX9_take_25 rfl rfl rfl ?_
  refine e_getI (q := 29) (jz := 3) dX9_take_26 rfl fg_X9_62 rfl (by first | assumption | rfl) rfl ?_
  refine e_putI (q := 32) (jz := 3) dX9_take_29 rfl fp_X9_62 rfl (by first | assumption | rfl) rfl ?_
  refine e_aload_n (q := 33) (i := 0) dX9_take_32 rfl rfl rfl ?_
  refine e_aload_n (q := 34) (i := 1) dX9_take_33 rfl rfl rfl ?_
  refine e_getI (q := 37) (jz := 4) dX9_take_34 rfl fg_X9_65 rfl (by first | assumption | rfl) rfl ?_
  refine e_putI (q := 40) (jz := 4) dX9_take_37 rfl fp_X9_65 rfl (by first | assumption | rfl) rfl ?_
  refine e_aload_n (q := 41) (i := 0) dX9_take_40 rfl rfl rfl ?_
  refine e_aload_n (q := 42) (i := 1) dX9_take_41 rfl rfl rfl ?_
  refine e_getI (q := 45) (jz := 5) dX9_take_42 rfl fg_X9_15 rfl (by first | assumption | rfl) rfl ?_
  refine e_putI (q := 48) (jz := 5) dX9_take_45 rfl fp_X9_15 rfl (by first | assumption | rfl) rfl ?_
  refine e_aload_n (q := 49) (i := 0) dX9_take_48 rfl rfl rfl ?_
  refine e_aload_n (q := 50) (i := 1) dX9_take_49 rfl rfl rfl ?_
  refine e_getI (q := 53) (jz := 6) dX9_take_50 rfl fg_X9_68 rfl (by first | assumption | rfl) rfl ?_
  refine e_putI (q := 56) (jz := 6) dX9_take_53 rfl fp_X9_68 rfl (by first | assumption | rfl) rfl ?_
  refine e_aload_n (q := 57) (i := 0) dX9_take_56 rfl rfl rfl ?_
  refine e_aload_n (q := 58) (i := 1) dX9_take_57 rfl rfl rfl ?_
  refine e_getI (q := 61) (jz := 7) dX9_take_58 rfl fg_X9_71 rfl (by first | assumption | rfl) rfl ?_
  refine e_putI (q := 64) (jz := 7) dX9_take_61 rfl fp_X9_71 rfl (by first | assumption | rfl) rfl ?_
  refine e_aload_n (q := 65) (i := 1) dX9_take_64 rfl rfl rfl ?_
  refine e_getR (q := 68) dX9_take_65 rfl fg_X9_18 (by first | assumption | rfl) rfl ?_
  refine e_iconst (q := 69) dX9_take_68 rfl ?_
  refine e_aload_n (q := 70) (i := 0) dX9_take_69 rfl rfl rfl ?_
  refine e_getR (q := 73) dX9_take_70 rfl fg_X9_18 (by first | assumption | rfl) rfl ?_
  refine e_iconst (q := 74) dX9_take_73 rfl ?_
  refine e_iconst (q := 75) dX9_take_74 rfl ?_
  refine e_copyI (q := 78) dX9_take_75 rfl mlac_X9_83 mw_ac_n mw_ac_s mw_ac_i (by first | assumption | rfl) (by first | assumption | rfl) (Nat.le_of_ble_eq_true rfl) (by decide) ?_
  refine e_aload_n (q := 79) (i := 1) dX9_take_78 rfl rfl rfl ?_
  refine e_getR (q := 82) dX9_take_79 rfl fg_X9_22 (by first | assumption | rfl) rfl ?_
  refine e_iconst (q := 83) dX9_take_82 rfl ?_
  refine e_aload_n (q := 84) (i := 0) dX9_take_83 rfl rfl rfl ?_
  refine e_getR (q := 87) dX9_take_84 rfl fg_X9_22 (by first | assumption | rfl) rfl ?_
  refine e_iconst (q := 88) dX9_take_87 rfl ?_
  refine e_iconst (q := 89) dX9_take_88 rfl ?_
  refine e_copyI (q := 92) dX9_take_89 rfl mlac_X9_83 mw_ac_n mw_ac_s mw_ac_i (by first | assumption | rfl) (by first | assumption | rfl) (Nat.le_of_ble_eq_true rfl) (by decide) ?_
  refine e_aload_n (q := 93) (i := 1) dX9_take_92 rfl rfl rfl ?_
  refine e_getR (q := 96) dX9_take_93 rfl fg_X9_25 (by first | assumption | rfl) rfl ?_
  refine e_iconst (q := 97) dX9_take_96 rfl ?_
  refine e_aload_n (q := 98) (i := 0) dX9_take_97 rfl rfl rfl ?_
  refine e_getR (q := 101) dX9_take_98 rfl fg_X9_25 (by first | assumption | rfl) rfl ?_
  refine e_iconst (q := 102) dX9_take_101 rfl ?_
  refine e_iconst (q := 103) dX9_take_102 rfl ?_
  refine e_copyI (q := 106) dX9_take_103 rfl mlac_X9_83 mw_ac_n mw_ac_s mw_ac_i (by first | assumption | rfl) (by first | assumption | rfl) (Nat.le_of_ble_eq_true rfl) (by decide) ?_
  refine e_aload_n (q := 107) (i := 1) dX9_take_106 rfl rfl rfl ?_
  refine e_getR (q := 110) dX9_take_107 rfl fg_X9_28 (by first | assumption | rfl) rfl ?_
  refine e_iconst (q := 111) dX9_take_110 rfl ?_
  refine e_aload_n (q := 112) (i := 0) dX9_take_111 rfl rfl rfl ?_
  refine e_getR (q := 115) dX9_take_112 rfl fg_X9_28 (by first | assumption | rfl) rfl ?_
  refine e_iconst (q := 116) dX9_take_115 rfl ?_
  refine e_bipush (q := 118) dX9_take_116 rfl (by decide) ?_
  refine e_copyI (q := 121) dX9_take_118 rfl mlac_X9_83 mw_ac_n mw_ac_s mw_ac_i (by first | assumption | rfl) (by first | assumption | rfl) (Nat.le_of_ble_eq_true rfl) (by decide) ?_
  refine e_aload_n (q := 122) (i := 1) dX9_take_121 rfl rfl rfl ?_
  refine e_getR (q := 125) dX9_take_122 rfl fg_X9_31 (by first | assumption | rfl) rfl ?_
  refine e_iconst (q := 126) dX9_take_125 rfl ?_
  refine e_aload_n (q := 127) (i := 0) dX9_take_126 rfl rfl rfl ?_
  refine e_getR (q := 130) dX9_take_127 rfl fg_X9_31 (by first | assumption | rfl) rfl ?_
  refine e_iconst (q := 131) dX9_take_130 rfl ?_
  refine e_bipush (q := 133) dX9_take_131 rfl (by decide) ?_
  refine e_copyI (q := 136) dX9_take_133 rfl mlac_X9_83 mw_ac_n mw_ac_s mw_ac_i (by first | assumption | rfl) (by first | assumption | rfl) (Nat.le_of_ble_eq_true rfl) (by decide) ?_
  refine e_aload_n (q := 137) (i := 1) dX9_take_136 rfl rfl rfl ?_
  refine e_getR (q := 140) dX9_take_137 rfl fg_X9_34 (by first | assumption | rfl) rfl ?_
  refine e_iconst (q := 141) dX9_take_140 rfl ?_
  refine e_aload_n (q := 142) (i := 0) dX9_take_141 rfl rfl rfl ?_
  refine e_getR (q := 145) dX9_take_142 rfl fg_X9_34 (by first | assumption | rfl) rfl ?_
  refine e_iconst (q := 146) dX9_take_145 rfl ?_
  refine e_bipush (q := 148) dX9_take_146 rfl (by decide) ?_
  refine e_copyI (q := 151) dX9_take_148 rfl mlac_X9_83 mw_ac_n mw_ac_s mw_ac_i (by first | assumption | rfl) (by first | assumption | rfl) (Nat.le_of_ble_eq_true rfl) (by decide) ?_
  refine e_aload_n (q := 152) (i := 1) dX9_take_151 rfl rfl rfl ?_
  refine e_getR (q := 155) dX9_take_152 rfl fg_X9_37 (by first | assumption | rfl) rfl ?_
  refine e_iconst (q := 156) dX9_take_155 rfl ?_
  refine e_aload_n (q := 157) (i := 0) dX9_take_156 rfl rfl rfl ?_
  refine e_getR (q := 160) dX9_take_157 rfl fg_X9_37 (by first | assumption | rfl) rfl ?_
  refine e_iconst (q := 161) dX9_take_160 rfl ?_
  refine e_bipush (q := 163) dX9_take_161 rfl (by decide) ?_
  refine e_copyI (q := 166) dX9_take_163 rfl mlac_X9_83 mw_ac_n mw_ac_s mw_ac_i (by first | assumption | rfl) (by first | assumption | rfl) (Nat.le_of_ble_eq_true rfl) (by decide) ?_
  refine e_aload_n (q := 167) (i := 1) dX9_take_166 rfl rfl rfl ?_
  refine e_getR (q := 170) dX9_take_167 rfl fg_X9_40 (by first | assumption | rfl) rfl ?_
  refine e_iconst (q := 171) dX9_take_170 rfl ?_
  refine e_aload_n (q := 172) (i := 0) dX9_take_171 rfl rfl rfl ?_
  refine e_getR (q := 175) dX9_take_172 rfl fg_X9_40 (by first | assumption | rfl) rfl ?_
  refine e_iconst (q := 176) dX9_take_175 rfl ?_
  refine e_bipush (q := 178) dX9_take_176 rfl (by decide) ?_
  refine e_copyI (q := 181) dX9_take_178 rfl mlac_X9_83 mw_ac_n mw_ac_s mw_ac_i (by first | assumption | rfl) (by first | assumption | rfl) (Nat.le_of_ble_eq_true rfl) (by decide) ?_
  refine e_aload_n (q := 182) (i := 1) dX9_take_181 rfl rfl rfl ?_
  refine e_getR (q := 185) dX9_take_182 rfl fg_X9_43 (by first | assumption | rfl) rfl ?_
  refine e_iconst (q := 186) dX9_take_185 rfl ?_
  refine e_aload_n (q := 187) (i := 0) dX9_take_186 rfl rfl rfl ?_
  refine e_getR (q := 190) dX9_take_187 rfl fg_X9_43 (by first | assumption | rfl) rfl ?_
  refine e_iconst (q := 191) dX9_take_190 rfl ?_
  refine e_bipush (q := 193) dX9_take_191 rfl (by decide) ?_
  refine e_copyI (q := 196) dX9_take_193 rfl mlac_X9_83 mw_ac_n mw_ac_s mw_ac_i (by first | assumption | rfl) (by first | assumption | rfl) (Nat.le_of_ble_eq_true rfl) (by decide) ?_
  refine e_aload_n (q := 197) (i := 1) dX9_take_196 rfl rfl rfl ?_
  refine e_getR (q := 200) dX9_take_197 rfl fg_X9_46 (by first | assumption | rfl) rfl ?_
  refine e_iconst (q := 201) dX9_take_200 rfl ?_
  refine e_aload_n (q := 202) (i := 0) dX9_take_201 rfl rfl rfl ?_
  refine e_getR (q := 205) dX9_take_202 rfl fg_X9_46 (by first | assumption | rfl) rfl ?_
  refine e_iconst (q := 206) dX9_take_205 rfl ?_
  refine e_bipush (q := 208) dX9_take_206 rfl (by decide) ?_
  refine e_copyI (q := 211) dX9_take_208 rfl mlac_X9_83 mw_ac_n mw_ac_s mw_ac_i (by first | assumption | rfl) (by first | assumption | rfl) (Nat.le_of_ble_eq_true rfl) (by decide) ?_
  refine e_aload_n (q := 212) (i := 0) dX9_take_211 rfl rfl rfl ?_
  refine e_getR (q := 215) dX9_take_212 rfl fg_X9_52 (by first | assumption | rfl) rfl ?_
  refine e_aload_n (q := 216) (i := 1) dX9_take_215 rfl rfl rfl ?_
  refine e_getR (q := 219) dX9_take_216 rfl fg_X9_52 (by first | assumption | rfl) rfl ?_
  refine e_Vv (q := 222) (vs := [_]) ok_X3_take ml_X9_89 dX9_take_219 rfl ⟨_, _, rfl⟩ (by first | assumption | rfl) rfl rfl (Nat.le_of_ble_eq_true rfl) (by decide) (c_X3_take) (fun s219 h219 => ?_)
  subst h219
  exact r_v dX9_take_222 rfl (by unfold tkn; rfl)

/-- a told text out of a draft -/
def TkR (σ : Sg) (δ : Dl) : Prop := (∀ j, 0 ≤ j → j < 8 → σ.1 2 j = δ 23 j) ∧ (∀ i, 0 ≤ i → i < 4 → σ.1 3 i = δ 24 i ∧ σ.1 4 i = δ 25 i ∧ σ.1 5 i = δ 26 i) ∧ (∀ i, 0 ≤ i → i < 6 → σ.1 6 i = δ 27 i ∧ σ.1 7 i = δ 28 i ∧ σ.1 8 i = δ 29 i) ∧ (∀ i, 0 ≤ i → i < 12 → σ.1 9 i = δ 30 i ∧ σ.1 10 i = δ 31 i ∧ σ.1 11 i = δ 32 i) ∧ (∀ i, 0 ≤ i → i < 16 → σ.1 12 i = δ 33 i) ∧ (∀ i, 0 ≤ i → i < 64 → σ.1 14 i = δ 35 i) ∧ (∀ i, 0 ≤ i → i < 3 → σ.1 15 i = δ 36 i ∧ σ.1 16 i = δ 37 i) ∧ σ.1 13 4 = δ 34 4
def FTK : List Nat := [2, 3, 4, 5, 6, 7, 8, 9, 10, 11, 12, 13, 14, 15, 16]
theorem tkn_Fr (σ : Sg) : Fr FTK σ (tkn σ) := by
  unfold tkn
  repeat' first | exact Fr.rf _ _ | refine Fr.cpI ?_ (by decide) _ _ | refine Fr.sI ?_ (by decide) _ _
theorem tkn_R (σ : Sg) {δ : Dl} (hD : DR σ δ) : TkR (tkn σ) δ := by
  have e : ∀ a : Nat, (24 ≤ a ∧ a ≤ 33) ∨ (35 ≤ a ∧ a ≤ 37) → δ a = σ.1 a := fun a ha => (hD.c (by omega)).symm
  unfold TkR
  rw [e 24 (by decide), e 25 (by decide), e 26 (by decide), e 27 (by decide), e 28 (by decide), e 29 (by decide), e 30 (by decide), e 31 (by decide), e 32 (by decide), e 33 (by decide), e 35 (by decide), e 36 (by decide), e 37 (by decide), show δ 23 = σ.1 23 from (hD.c (by decide)).symm]
  unfold tkn
  refine ⟨?_, ?_, ?_, ?_, ?_, ?_, ?_, (by simp only [cpI_1, sI_1, Nat.reduceEqDiff, false_and, true_and, if_false, reduceIte]; exact hD.2)⟩
  · intro j a b
    simp only [cpI_1, sI_1, Nat.reduceEqDiff, false_and, true_and, if_false, reduceIte]
    rcases (show j = 0 ∨ j = 1 ∨ j = 2 ∨ j = 3 ∨ j = 4 ∨ j = 5 ∨ j = 6 ∨ j = 7 by omega) with rfl | rfl | rfl | rfl | rfl | rfl | rfl | rfl <;> rfl
  all_goals
    intro i a b
    simp only [cpI_1, sI_1, Nat.reduceEqDiff, false_and, true_and, if_false, reduceIte, a, b, and_self, if_true]
theorem TkR_TI {σ : Sg} {δ : Dl} (hR : TkR σ δ) (hO : DOk δ) : TI σ ∧ TB σ ∧ LW σ ∧ (∀ i, 0 ≤ i → i < σ.1 2 4 → σ.1 11 i ≤ σ.1 2 5) := by
  obtain ⟨r1, r2, r3, r4, r5, r6, r7, -⟩ := hR
  obtain ⟨o0, o1, o2, o3, o4, o5, o6, o7, o8, o9, oc, ob, ok, og, ou, ow, ox, ot, oz, oy⟩ := hO
  have f0 := r1 0 (by decide) (by decide)
  have f1 := r1 1 (by decide) (by decide)
  have f2 := r1 2 (by decide) (by decide)
  have f3 := r1 3 (by decide) (by decide)
  have f4 := r1 4 (by decide) (by decide)
  have f5 := r1 5 (by decide) (by decide)
  have f6 := r1 6 (by decide) (by decide)
  have f7 := r1 7 (by decide) (by decide)
  refine ⟨?_, ?_, ?_, ?_⟩
  · unfold TI
    rw [f0, f1, f2, f3, f4, f5, f6, f7]
    refine ⟨o0, o1, o2, o3, o4, o5, o6, o7, fun i a b => ?_, fun i a b => ?_, fun i a b => ?_, fun i a b => ?_, fun i a b => ?_⟩
    · rw [(r2 i a b).1, (r2 i a b).2.1, (r2 i a b).2.2]; exact o8 i a b
    · rw [(r2 i a (by omega)).1, (r2 i a (by omega)).2.1]; exact o9 i a b
    · rw [(r3 i a b).1, (r3 i a b).2.1, (r3 i a b).2.2]; exact oc i a b
    · rw [(r4 i a b).1, (r4 i a b).2.1, (r4 i a b).2.2]; exact ob i a b
    · rw [r5 i a b]; exact ok i a b
  · intro i a b
    rw [f4] at b
    rw [f2, f3, (r4 i a (by omega)).1, (r4 i a (by omega)).2.1]
    exact og i a b
  · intro r a b
    have h := ow r a b
    rw [(r7 r a b).1, (r7 r a b).2]
    refine ⟨h.1, h.2.1, by omega, fun k c d => ?_⟩
    rw [r6 k (by omega) (by omega)]
    exact ox k (by omega) (by omega)
  · intro i a b
    rw [f4] at b
    rw [f5, (r4 i a (by omega)).2.2]
    exact oy i a b
/-- the draft's rows keep to their bounds, also where nothing is told -/
def DG (σ : Sg) : Prop := (∀ i, 0 ≤ i → i < 4 → 0 ≤ σ.1 24 i ∧ σ.1 24 i ≤ 39 ∧ 0 ≤ σ.1 25 i ∧ σ.1 25 i ≤ 39 ∧ R32 (σ.1 26 i)) ∧ (∀ i, 0 ≤ i → i < 6 → 0 ≤ σ.1 27 i ∧ σ.1 27 i ≤ 30 ∧ 0 ≤ σ.1 28 i ∧ σ.1 28 i ≤ 9 ∧ R32 (σ.1 29 i)) ∧ (∀ i, 0 ≤ i → i < 12 → 0 ≤ σ.1 30 i ∧ σ.1 30 i ≤ 15 ∧ 0 ≤ σ.1 31 i ∧ σ.1 31 i ≤ 5 ∧ 0 ≤ σ.1 32 i ∧ σ.1 32 i ≤ 99)
theorem DG.fr {C : List Nat} {σ τ : Sg} (h : DG σ) (hF : Fr C σ τ) (hC : ∀ a, 24 ≤ a → a ≤ 32 → a ∉ C) : DG τ := by
  unfold DG
  rw [(hF 24 (hC 24 (by decide) (by decide))).1, (hF 25 (hC 25 (by decide) (by decide))).1, (hF 26 (hC 26 (by decide) (by decide))).1, (hF 27 (hC 27 (by decide) (by decide))).1, (hF 28 (hC 28 (by decide) (by decide))).1, (hF 29 (hC 29 (by decide) (by decide))).1, (hF 30 (hC 30 (by decide) (by decide))).1, (hF 31 (hC 31 (by decide) (by decide))).1, (hF 32 (hC 32 (by decide) (by decide))).1]
  exact h
theorem DG_of {σ : Sg} {δ : Dl} (hD : DR σ δ) (hO : DOk δ) : DG σ := by
  obtain ⟨o0, o1, o2, o3, o4, o5, o6, o7, o8, o9, oc, ob, ok, og, ou, ow, ox, ot, oz, oy⟩ := hO
  unfold DG
  rw [hD.c (a := 24) (by decide), hD.c (a := 25) (by decide), hD.c (a := 26) (by decide), hD.c (a := 27) (by decide), hD.c (a := 28) (by decide), hD.c (a := 29) (by decide), hD.c (a := 30) (by decide), hD.c (a := 31) (by decide), hD.c (a := 32) (by decide)]
  exact ⟨o8, oc, ob⟩
theorem DG_of1 {σ : Sg} {δ : Dl} {v : Int} (hD : DR σ δ) (hO : DOk (u2 δ 23 1 v)) : DG σ :=
  (DG_of (hD.s 23 1 v) hO).fr (C := [23]) (fun a ha => ⟨(sI_ne σ (fun q => ha (by rw [q]; exact List.mem_singleton.mpr rfl)) 1 v).symm, rfl⟩) (fun a h1 h2 => by simp only [List.mem_cons, List.not_mem_nil, or_false]; omega)
theorem d0_ok {σ : Sg} (h : DG σ) : DOk (d0 σ) := by
  obtain ⟨h1, h2, h3⟩ := h
  unfold DOk d0 clr
  simp only [Nat.reduceLeDiff, flI_1, sI_1, Nat.reduceEqDiff, Int.reduceEq, false_and, true_and, and_true, and_false, and_self, if_false, if_true, reduceIte]
  refine ⟨⟨by decide, by decide⟩, ⟨by decide, by decide⟩, ⟨by decide, by decide⟩, ⟨by decide, by decide⟩, ⟨by decide, by decide⟩, ⟨by decide, by decide⟩, ⟨by decide, by decide⟩, ⟨by decide, by decide⟩, h1, fun i a b => by omega, h2, h3, fun i a b => by rw [if_pos ⟨a, b⟩]; exact ⟨by decide, by decide⟩, fun i a b => by omega, ⟨by decide, by decide⟩, fun i a b => by rw [if_pos ⟨a, b⟩, if_pos ⟨a, b⟩]; exact ⟨by decide, by decide, by decide⟩, fun i a b => by omega, ?_, ?_, fun i a b => by omega⟩
  · simp
  · simp
theorem lEnds_ok {δ : Dl} {ts : List Tk} {q : Dl × List Tk} (h : lEnds δ ts = .inr q) : q.1 = u2 δ 23 1 (δ 23 1 + 1) ∧ ∃ t, ts = t :: q.2 ∧ t.1 = 23 := by
  match ts, h with
  | t :: r, h =>
    simp only [lEnds] at h
    by_cases e : t.1 ≠ 23
    · rw [if_pos e] at h; cases h
    rw [if_neg e] at h
    cases h
    exact ⟨rfl, t, rfl, by omega⟩
theorem lText_ok : ∀ (k : Nat) (δ : Dl) (ts : List Tk) (q : Dl × List Tk), DOk δ → (∀ t ∈ ts, tkG t) → δ 23 1 + ts.length ≤ 701 → lText k δ ts = .inr q → DOk q.1
  | 0, _, _, _, _, _, _, h => by cases h
  | k + 1, δ, ts, q, hO, hG, hl, h => by
    simp only [lText] at h
    by_cases e : hkd ts = 37
    · rw [if_pos e] at h; cases h; exact hO
    rw [if_neg e] at h
    match ts, hG, hl, e, h with
    | [], hG, hl, e, h => exact absurd rfl e
    | t :: r, hG, hl, e, h =>
      simp only [List.length_cons] at hl
      cases h1 : lLine δ (t :: r) with
      | inl f => rw [h1] at h; cases h
      | inr q1 =>
        rw [h1] at h
        obtain ⟨g1, g2, p, g3⟩ := lLine_ok hO hG (by omega) h1
        have h : (match lEnds q1.1 q1.2 with
          | .inl e => .inl e
          | .inr q' => lText k q'.1 q'.2) = Sum.inr q := h
        cases h2 : lEnds q1.1 q1.2 with
        | inl f => rw [h2] at h; cases h
        | inr q2 =>
          rw [h2] at h
          obtain ⟨g4, t', g5, g6⟩ := lEnds_ok h2
          have hlen : (r.length : Int) = p.length + (q2.2.length + 1) := by rw [g3, g5, List.length_append, List.length_cons]; omega
          refine lText_ok k q2.1 q2.2 q (by rw [g4, g2]; exact g1) (fun x hx => hG x (List.mem_cons_of_mem _ (by rw [g3, g5]; exact List.mem_append_right _ (List.mem_cons_of_mem _ hx)))) ?_ h
          rw [g4, u2_1, if_pos ⟨rfl, rfl⟩]
          omega

/-- what reading a text does to the class -/
def RdT (σ σ' : Sg) (z : Int) (R : Rs) : Prop := Fr [18, 19, 21, 22, 23, 24, 25, 26, 27, 28, 29, 30, 31, 32, 33, 34, 35, 36, 37] σ σ' ∧ DG σ' ∧ (0 ≤ σ'.1 19 2 ∧ σ'.1 19 2 ≤ 700) ∧ match R with
  | .inl fp => z = 0 ∧ σ'.1 19 7 = fp.1 ∧ σ'.1 19 8 = fp.2
  | .inr q => z = 1 ∧ DR σ' q.1 ∧ DOk q.1 ∧ σ'.1 19 7 = 0 ∧ σ'.1 19 8 = -1

set_option maxHeartbeats 8000000 in
theorem c_X5_reads {G : Gx} {σ : Sg} {m : Int} (hCW : ∀ i, 0 ≤ i → i < 21 → σ.1 20 i = wv i) (hG0 : DG σ) (hm0 : 0 ≤ m) (hm1 : m ≤ 700) : Con G 9 mX5_reads [.ref (G.2.2.2 + 18), .int (iZ m)] σ (pI (fun z σ' => RdT σ σ' z (lText 701 (d0 σ) (tkl (cB σ) m 0)))) := by
  obtain ⟨R0, hR0⟩ : ∃ R, R = lText 701 (d0 σ) (tkl (cB σ) m 0) := ⟨_, rfl⟩
  rw [← hR0]
  have hlen := tkl_len (b := cB σ) (n := m) (a := 0) (Int.le_refl 0) hm1
  have cw20 : (sI (sI (clr σ) 18 3 0) 18 4 0).1 20 = σ.1 20 := rfl
  have cw1 : (sI (sI (clr σ) 18 3 0) 18 4 0).1 1 = σ.1 1 := rfl
  have lp : ∀ (n : Nat) (τ : Sg) (ts : List Tk) (δ : Dl) (i : Int), ts.length ≤ n → i = δ 23 1 → 0 ≤ i → i + ts.length ≤ 701 → lText n δ ts = R0 → DR τ δ → DOk δ → CK τ ts → (∀ x ∈ ts, tkG x) → Fr [18, 19, 21, 22, 23, 24, 25, 26, 27, 28, 29, 30, 31, 32, 33, 34, 35, 36, 37] σ τ → τ.1 19 7 = 0 → τ.1 19 8 = -1 → J G 9 mX5_reads (pI (fun z σ' => RdT σ σ' z R0)) τ 27 [some (.ref (G.2.2.2 + 18)), some (.int (iZ m)), some (.int (iZ i))] [] := by
    intro n
    induction n with
    | zero =>
      intro τ ts δ i hn hid h0 hi hE hD hO hC hG hF e7 e8
      obtain ⟨t, rest, ets⟩ := hC.ne
      subst ets
      exact absurd hn (by simp)
    | succ n ih =>
      intro τ ts δ i hn hid h0 hi hE hD hO hC hG hF e7 e8
      obtain ⟨t, r, ets⟩ := hC.ne
      subst ets
      obtain ⟨k4, k5, kv, kr, kp⟩ := hC.hd
      simp only [List.length_cons] at hn hi
      have hn701 : (t :: r).length ≤ 701 := by simp only [List.length_cons]; omega
      have hnn := hC.n
      refine e_iload_n (q := 28) (i := 2) dX5_reads_27 rfl rfl rfl ?_
      refine e_sipush (q := 31) dX5_reads_28 rfl (by decide) ?_
      refine e_icmp_gt (q := 34) (tgt := 81) dX5_reads_31 rfl (by decide) (fun c31 => by exfalso; omega) (fun c31 => ?_)
      refine e_aload_n (q := 35) (i := 0) dX5_reads_34 rfl rfl rfl ?_
      refine e_getR (q := 38) dX5_reads_35 rfl fg_X5_14 (by first | assumption | rfl) rfl ?_
      refine e_getI (q := 41) (jz := 4) dX5_reads_38 rfl fg_X5_50 rfl (by first | assumption | rfl) rfl ?_
      rw [k4]
      refine e_bipush (q := 43) dX5_reads_41 rfl (by decide) ?_
      refine e_icmp_eq (q := 46) (tgt := 81) dX5_reads_43 rfl (by decide) (fun c43 => ?_) (fun c43 => ?_)
      · refine e_iconst (q := 82) dX5_reads_81 rfl ?_
        have hE2 : lText (n + 1) δ (t :: r) = .inr (δ, t :: r) := if_pos c43
        rw [hE2] at hE
        exact r_z dX5_reads_82 rfl (Or.inr rfl) (by rw [← hE]; exact ⟨hF, DG_of hD hO, hnn, rfl, hD, hO, e7, e8⟩)
      · refine e_aload_n (q := 47) (i := 0) dX5_reads_46 rfl rfl rfl ?_
        refine e_Vi (q := 50) (vs := []) ok_X5_line ml_X5_54 dX5_reads_47 rfl ⟨_, _, rfl⟩ (by first | assumption | rfl) rfl rfl (Nat.le_of_ble_eq_true rfl) (by decide) (c_X5_line hC hD hO hG hn701) (fun z1 s1 h1 => ?_)
        obtain ⟨⟨hf1, hl1⟩, hm1⟩ := h1
        have F1 : Fr [18, 19, 21, 22, 23, 24, 25, 26, 27, 28, 29, 30, 31, 32, 33, 34, 35, 36, 37] σ s1 := hF.tr hf1
        have hE2 : lText (n + 1) δ (t :: r) = match lLine δ (t :: r) with
            | .inl e => .inl e
            | .inr q => match lEnds q.1 q.2 with
              | .inl e => .inl e
              | .inr q' => lText n q'.1 q'.2 := if_neg c43
        cases hr : lLine δ (t :: r) with
        | inl e =>
          rw [hr] at hm1 hE2
          have hE2 : lText (n + 1) δ (t :: r) = .inl e := hE2
          obtain ⟨m1, m2, m3, m4⟩ := hm1
          subst m1
          rw [hE2] at hE
          refine e_if_eq (q := 53) (tgt := 60) dX5_reads_50 rfl (by decide) (fun c50 => ?_) (fun c50 => by exfalso; omega)
          refine e_iconst (q := 61) dX5_reads_60 rfl ?_
          exact r_z dX5_reads_61 rfl (Or.inl rfl) (by rw [← hE]; exact ⟨F1, (DG_of hD hO).fr m4 (fun a h1 h2 => by simp only [List.mem_cons, List.not_mem_nil, or_false]; omega), by rw [hl1]; exact hnn, rfl, m2, m3⟩)
        | inr q =>
          rw [hr] at hm1 hE2
          have hE2 : lText (n + 1) δ (t :: r) = match lEnds q.1 q.2 with
              | .inl e => .inl e
              | .inr q' => lText n q'.1 q'.2 := hE2
          obtain ⟨m1, D1, ck1, m7, m8⟩ := hm1
          subst m1
          obtain ⟨g1, g2, p, g3⟩ := lLine_ok hO hG (by omega) hr
          obtain ⟨t1, r1, e1⟩ := ck1.ne
          have n1 : s1.1 23 1 = q.1 23 1 := by rw [D1.c (by decide)]
          refine e_if_eq (q := 53) (tgt := 60) dX5_reads_50 rfl (by decide) (fun c50 => by exfalso; omega) (fun c50 => ?_)
          refine e_aload_n (q := 54) (i := 0) dX5_reads_53 rfl rfl rfl ?_
          refine e_Vi (q := 57) (vs := []) ok_X5_ends ml_X5_58 dX5_reads_54 rfl ⟨_, _, rfl⟩ (by first | assumption | rfl) rfl rfl (Nat.le_of_ble_eq_true rfl) (by decide) (c_X5_ends (t := t1) (r := r1) (e1 ▸ ck1)) (fun z2 s2 h2 => ?_)
          have k51 := (e1 ▸ ck1 : CK s1 (t1 :: r1)).hd.2.1
          rcases h2 with ⟨a1, a2, a3⟩ | ⟨a1, a2, a3, a4⟩
          · subst a2 a3
            have hE3 : lEnds q.1 q.2 = .inl (1, t1.2.1) := by rw [e1]; exact if_pos a1
            rw [hE3] at hE2
            have hE2 : lText (n + 1) δ (t :: r) = .inl (1, t1.2.1) := hE2
            rw [hE2] at hE
            refine e_if_ne (q := 60) (tgt := 62) dX5_reads_57 rfl (by decide) (fun c57 => by exfalso; omega) (fun c57 => ?_)
            refine e_iconst (q := 61) dX5_reads_60 rfl ?_
            exact r_z dX5_reads_61 rfl (Or.inl rfl) (by rw [← hE]; exact ⟨(F1.sI (by decide) _ _).sI (by decide) _ _, (DG_of1 D1 g1).fr (((Fr.rf [19] s1).sI (by decide) _ _).sI (by decide) _ _) (fun a h1 h2 => by simp only [List.mem_cons, List.not_mem_nil, or_false]; omega), by rw [sI_1, if_neg (by decide), sI_1, if_neg (by decide), hl1]; exact hnn, rfl, by rw [sI_1, if_neg (by decide), sI_1, if_pos ⟨rfl, rfl⟩], by rw [sI_1, if_pos ⟨rfl, rfl⟩]; exact k51⟩)
          · subst a2
            have hE3 : lEnds q.1 q.2 = .inr (u2 q.1 23 1 (q.1 23 1 + 1), r1) := by rw [e1]; exact if_neg (by omega)
            rw [hE3] at hE2
            have hE2 : lText (n + 1) δ (t :: r) = lText n (u2 q.1 23 1 (q.1 23 1 + 1)) r1 := hE2
            rw [hE2] at hE
            have D2 : DR s2 q.1 := D1.fr a3.1
            have n2 : s2.1 23 1 = δ 23 1 := by rw [D2.c (by decide)]; exact g2
            have g3l : r = p ++ t1 :: r1 := by rw [g3, e1]
            have g3n : r.length = p.length + (r1.length + 1) := by rw [g3l, List.length_append, List.length_cons]
            refine e_if_ne (q := 60) (tgt := 62) dX5_reads_57 rfl (by decide) (fun c57 => ?_) (fun c57 => by exfalso; omega)
            refine e_aload_n (q := 63) (i := 0) dX5_reads_62 rfl rfl rfl ?_
            refine e_getR (q := 66) dX5_reads_63 rfl fg_X5_32 (by first | assumption | rfl) rfl ?_
            refine e_dup (q := 67) dX5_reads_66 rfl rfl ?_
            refine e_getI (q := 70) (jz := 1) dX5_reads_67 rfl fg_X5_61 rfl (by first | assumption | rfl) rfl ?_
            refine e_iconst (q := 71) dX5_reads_70 rfl ?_
            refine e_iadd (q := 72) dX5_reads_71 rfl ?_
            refine e_putI (q := 75) (jz := 1) dX5_reads_72 rfl fp_X5_61 rfl (by first | assumption | rfl) rfl ?_
            refine e_iinc (q := 78) (L' := [_, _, _]) dX5_reads_75 rfl rfl (by decide) rfl rfl ?_
            refine e_goto (tgt := 27) dX5_reads_78 (by decide) ?_
            refine ih _ r1 _ _ (by omega) (by rw [u2_1, if_pos ⟨rfl, rfl⟩]; omega) (by omega) (by omega) hE (by rw [n2, ← g2]; exact D2.s 23 1 _) (by rw [g2]; exact g1) (a4.fr (C := [23]) ((Fr.rf [23] s2).sI (by decide) _ _) (by decide) (by decide) (fun j _ _ => by rw [sI_ne _ (by decide)])) (fun x hx => hG x (List.mem_cons_of_mem _ (by rw [g3l]; exact List.mem_append_right _ (List.mem_cons_of_mem _ hx)))) ((F1.tr (a3.1.mono (by decide))).sI (by decide) _ _) ?_ ?_
            · rw [sI_ne _ (by decide), a3.2 7 (by decide) (by decide) (by decide) (by decide), m7]; exact e7
            · rw [sI_ne _ (by decide), a3.2 8 (by decide) (by decide) (by decide) (by decide), m8]; exact e8
  refine e_entry om_X5_reads (Nat.le_of_ble_eq_true rfl) (L := [some (.ref (G.2.2.2 + 18)), some (.int (iZ m)), none]) rfl ?_
  refine e_aload_n (q := 1) (i := 0) dX5_reads_0 rfl rfl rfl ?_
  refine e_getR (q := 4) dX5_reads_1 rfl fg_X5_32 (by first | assumption | rfl) rfl ?_
  refine e_Vv (q := 7) (vs := []) ok_X9_clear ml_X5_36 dX5_reads_4 rfl ⟨_, _, rfl⟩ (by first | assumption | rfl) rfl rfl (Nat.le_of_ble_eq_true rfl) (by decide) (c_X9_clear) (fun s4 h4 => ?_)
  subst h4
  refine e_aload_n (q := 8) (i := 0) dX5_reads_7 rfl rfl rfl ?_
  refine e_iconst (q := 9) dX5_reads_8 rfl ?_
  refine e_putZ (q := 12) (jz := 3) dX5_reads_9 rfl fp_X5_39 rfl (by first | assumption | rfl) rfl (by first | exact Or.inl rfl | exact Or.inr rfl | omega) ?_
  refine e_aload_n (q := 13) (i := 0) dX5_reads_12 rfl rfl rfl ?_
  refine e_iconst (q := 14) dX5_reads_13 rfl ?_
  refine e_putZ (q := 17) (jz := 4) dX5_reads_14 rfl fp_X5_43 rfl (by first | assumption | rfl) rfl (by first | exact Or.inl rfl | exact Or.inr rfl | omega) ?_
  refine e_aload_n (q := 18) (i := 0) dX5_reads_17 rfl rfl rfl ?_
  refine e_getR (q := 21) dX5_reads_18 rfl fg_X5_14 (by first | assumption | rfl) rfl ?_
  refine e_iload_n (q := 22) (i := 1) dX5_reads_21 rfl rfl rfl ?_
  refine e_Vv (q := 25) (vs := [_]) ok_X8_start ml_X5_46 dX5_reads_22 rfl ⟨_, _, rfl⟩ (by first | assumption | rfl) rfl rfl (Nat.le_of_ble_eq_true rfl) (by decide) (c_X8_start (m := m) (by intro i a b; rw [cw20]; exact hCW i a b) hm0 hm1) (fun s22 h22 => ?_)
  refine e_iconst (q := 26) dX5_reads_25 rfl ?_
  refine e_istore_n (q := 27) (i := 2) (L' := [_, _, _]) dX5_reads_26 rfl rfl (by decide) rfl rfl ?_
  obtain ⟨hf, hl2, h7, h8, hck⟩ := h22
  have hb : cB (sI (sI (clr σ) 18 3 0) 18 4 0) = cB σ := by unfold cB; rw [cw1]
  rw [hb] at hck
  refine lp 701 s22 (tkl (cB σ) m 0) (d0 σ) 0 hlen ?_ (by decide) (by omega) hR0.symm ?_ (d0_ok hG0) hck (tkl_good (Int.le_refl 0) hm0) ?_ h7 h8
  · rfl
  · exact (show DR (sI (sI (clr σ) 18 3 0) 18 4 0) (d0 σ) from ⟨fun a ha => (if_pos (by omega)).symm, rfl⟩).fr hf
  · refine Fr.tr ?_ (hf.mono (by decide))
    unfold clr
    repeat' first | exact Fr.rf _ _ | refine Fr.flI ?_ (by decide) _ _ | refine Fr.sI ?_ (by decide) _ _

/-- what the call text does to the class -/
def TxO (σ σ' : Sg) (m z : Int) : Prop := (¬ (0 ≤ m ∧ m ≤ σ.1 0 1) ∧ z = -2 ∧ σ' = σ) ∨ ((0 ≤ m ∧ m ≤ σ.1 0 1) ∧ Fr [0, 2, 3, 4, 5, 6, 7, 8, 9, 10, 11, 12, 13, 14, 15, 16, 18, 19, 21, 22, 23, 24, 25, 26, 27, 28, 29, 30, 31, 32, 33, 34, 35, 36, 37, 39, 40, 41, 42, 43, 56, 62] σ σ' ∧ DG σ' ∧ (0 ≤ σ'.1 19 2 ∧ σ'.1 19 2 ≤ 700) ∧ σ'.1 0 1 = 0 ∧ match lText 701 (d0 σ) (tkl (cB σ) m 0) with
  | .inl e => z = -1 ∧ Fr (0 :: [18, 19, 21, 22, 23, 24, 25, 26, 27, 28, 29, 30, 31, 32, 33, 34, 35, 36, 37]) σ σ' ∧ (∀ j, j ≠ 1 → σ'.1 0 j = σ.1 0 j) ∧ σ'.1 19 7 = e.1 ∧ σ'.1 19 8 = e.2
  | .inr q => z = q.1 23 1 ∧ DOk q.1 ∧ TkR σ' q.1 ∧ (∀ i, 0 ≤ i → i < 16 → σ'.1 40 i = 0 ∧ σ'.1 41 i = q.1 33 i) ∧ (∀ i, 0 ≤ i → i < 6 → σ'.1 42 i = q.1 27 i ∧ σ'.1 43 i = 0) ∧ σ'.1 39 5 = 0 ∧ σ'.1 39 6 = 0 ∧ σ'.2 39 7 = q.1 23 7 ∧ σ'.1 39 8 = -1 ∧ σ'.1 39 9 = 0 ∧ σ'.1 39 10 = 0 ∧ σ'.1 62 7 = 0 ∧ σ'.1 62 8 = -1 ∧ (∀ j, j ≠ 7 → j ≠ 8 → σ'.1 62 j = σ.1 62 j) ∧ σ'.1 56 6 = 0 ∧ (∀ j, j ≠ 6 → σ'.1 56 j = σ.1 56 j) ∧ σ'.1 0 7 = 0 ∧ (∀ j, j ≠ 1 → j ≠ 7 → σ'.1 0 j = σ.1 0 j) ∧ σ'.1 19 7 = 0 ∧ σ'.1 19 8 = -1)

theorem lText_d0 (σ : Sg) (m : Int) : lText 701 (d0 (sI σ 0 1 0)) (tkl (cB (sI σ 0 1 0)) m 0) = lText 701 (d0 σ) (tkl (cB σ) m 0) := by
  rw [show cB (sI σ 0 1 0) = cB σ from rfl, show d0 (sI σ 0 1 0) = d0 σ from ?_]
  funext a
  unfold d0
  by_cases h : 18 ≤ a ∧ a ≤ 37
  · rw [if_pos h, if_pos h]
    funext i
    simp only [clr, flI_1, sI_1, if_neg (show ¬ (a = 0 ∧ i = 1) from fun q => by omega)]
  · rw [if_neg h, if_neg h]

set_option maxHeartbeats 8000000 in
theorem c_X11_text {G : Gx} {σ : Sg} {m : Int} (hm : R32 m) (hTp : 0 ≤ σ.1 0 1 ∧ σ.1 0 1 ≤ 700) (hCW : ∀ i, 0 ≤ i → i < 21 → σ.1 20 i = wv i) (hG0 : DG σ) : Con G 10 mX11_text [.ref (G.2.2.2 + 0), .int (iZ m)] σ (pI (fun z σ' => TxO σ σ' m z)) := by
  refine e_entry om_X11_text (Nat.le_of_ble_eq_true rfl) (L := [some (.ref (G.2.2.2 + 0)), some (.int (iZ m))]) rfl ?_
  refine e_iload_n (q := 1) (i := 1) dX11_text_0 rfl rfl rfl ?_
  refine e_if_lt (q := 4) (tgt := 12) dX11_text_1 rfl (by decide) (fun c1 => ?_) (fun c1 => ?_) (hx := hm)
  · refine e_bipush (q := 14) dX11_text_12 rfl (by decide) ?_
    exact r_i dX11_text_14 rfl (Or.inl ⟨by omega, rfl, rfl⟩)
  · refine e_iload_n (q := 5) (i := 1) dX11_text_4 rfl rfl rfl ?_
    refine e_aload_n (q := 6) (i := 0) dX11_text_5 rfl rfl rfl ?_
    refine e_getI (q := 9) (jz := 1) dX11_text_6 rfl fg_X11_85 rfl (by first | assumption | rfl) rfl ?_
    refine e_icmp_le (q := 12) (tgt := 15) dX11_text_9 rfl (by decide) (fun c9 => ?_) (fun c9 => ?_) (hx := hm) (hy := ⟨by omega, by omega⟩)
    · refine e_aload_n (q := 16) (i := 0) dX11_text_15 rfl rfl rfl ?_
      refine e_iconst (q := 17) dX11_text_16 rfl ?_
      refine e_putI (q := 20) (jz := 1) dX11_text_17 rfl fp_X11_85 rfl (by first | assumption | rfl) rfl ?_
      refine e_aload_n (q := 21) (i := 0) dX11_text_20 rfl rfl rfl ?_
      refine e_getR (q := 24) dX11_text_21 rfl fg_X11_27 (by first | assumption | rfl) rfl ?_
      refine e_iload_n (q := 25) (i := 1) dX11_text_24 rfl rfl rfl ?_
      refine e_Vi (q := 28) (vs := [_]) ok_X5_reads ml_X11_93 dX11_text_25 rfl ⟨_, _, rfl⟩ (by first | assumption | rfl) rfl rfl (Nat.le_of_ble_eq_true rfl) (by decide) (c_X5_reads (m := m) (σ := (sI σ 0 1 0)) (fun i a b => hCW i a b) hG0 (by omega) (by omega)) (fun z1 s1 h1 => ?_)
      obtain ⟨hf1, hg1, hl1, hm1⟩ := h1
      have hd : lText 701 (d0 (sI σ 0 1 0)) (tkl (cB (sI σ 0 1 0)) m 0) = lText 701 (d0 σ) (tkl (cB σ) m 0) := lText_d0 σ m
      rw [hd] at hm1
      have F1 : Fr (0 :: [18, 19, 21, 22, 23, 24, 25, 26, 27, 28, 29, 30, 31, 32, 33, 34, 35, 36, 37]) σ s1 := ((Fr.rf _ σ).sI (by decide) _ _).tr (hf1.mono (by decide))
      have c0 : s1.1 0 = (sI σ 0 1 0).1 0 := (hf1 0 (by decide)).1
      have c01 : ∀ j, j ≠ 1 → s1.1 0 j = σ.1 0 j := fun j hj => by rw [c0, sI_1, if_neg (fun q => hj q.2)]
      have c02 : s1.1 0 1 = 0 := by rw [c0, sI_1, if_pos ⟨rfl, rfl⟩]
      cases hr : lText 701 (d0 σ) (tkl (cB σ) m 0) with
      | inl e =>
        rw [hr] at hm1
        obtain ⟨m1, m2, m3⟩ := hm1
        subst m1
        refine e_if_ne (q := 31) (tgt := 33) dX11_text_28 rfl (by decide) (fun c28 => by exfalso; omega) (fun c28 => ?_)
        refine e_iconst (q := 32) dX11_text_31 rfl ?_
        exact r_i dX11_text_32 rfl (Or.inr ⟨⟨by omega, by omega⟩, F1.mono (by decide), hg1, hl1, c02, by rw [hr]; exact ⟨rfl, F1, c01, m2, m3⟩⟩)
      | inr q =>
        rw [hr] at hm1
        obtain ⟨m1, m2, m3, m4, m5⟩ := hm1
        subst m1
        have hR := tkn_R s1 m2
        have hTI := (TkR_TI hR m3).1
        have hFt := tkn_Fr s1
        refine e_if_ne (q := 31) (tgt := 33) dX11_text_28 rfl (by decide) (fun c28 => ?_) (fun c28 => by exfalso; omega)
        refine e_aload_n (q := 34) (i := 0) dX11_text_33 rfl rfl rfl ?_
        refine e_getR (q := 37) dX11_text_34 rfl fg_X11_18 (by first | assumption | rfl) rfl ?_
        refine e_aload_n (q := 38) (i := 0) dX11_text_37 rfl rfl rfl ?_
        refine e_getR (q := 41) dX11_text_38 rfl fg_X11_27 (by first | assumption | rfl) rfl ?_
        refine e_getR (q := 44) dX11_text_41 rfl fg_X11_97 (by first | assumption | rfl) rfl ?_
        refine e_Vv (q := 47) (vs := [_]) ok_X9_take ml_X11_100 dX11_text_44 rfl ⟨_, _, rfl⟩ (by first | assumption | rfl) rfl rfl (Nat.le_of_ble_eq_true rfl) (by decide) (c_X9_take) (fun s2 h2 => ?_)
        subst h2
        refine e_aload_n (q := 48) (i := 0) dX11_text_47 rfl rfl rfl ?_
        refine e_getR (q := 51) dX11_text_48 rfl fg_X11_36 (by first | assumption | rfl) rfl ?_
        refine e_Vv (q := 54) (vs := []) ok_X2_begin ml_X11_103 dX11_text_51 rfl ⟨_, _, rfl⟩ (by first | assumption | rfl) rfl rfl (Nat.le_of_ble_eq_true rfl) (by decide) (c_X2_begin (L := 39) hTI (by unfold isLand; decide)) (fun s3 h3 => ?_)
        obtain ⟨b1, b2, b3, b4, b5, b6, b7, b8, b9⟩ := h3
        refine e_aload_n (q := 55) (i := 0) dX11_text_54 rfl rfl rfl ?_
        refine e_getR (q := 58) dX11_text_55 rfl fg_X11_63 (by first | assumption | rfl) rfl ?_
        refine e_Vv (q := 61) (vs := []) ok_X6_forget ml_X11_106 dX11_text_58 rfl ⟨_, _, rfl⟩ (by first | assumption | rfl) rfl rfl (Nat.le_of_ble_eq_true rfl) (by decide) (c_X6_forget) (fun s4 h4 => ?_)
        subst h4
        refine e_aload_n (q := 62) (i := 0) dX11_text_61 rfl rfl rfl ?_
        refine e_getR (q := 65) dX11_text_62 rfl fg_X11_56 (by first | assumption | rfl) rfl ?_
        refine e_Vv (q := 68) (vs := []) ok_X0_forget ml_X11_109 dX11_text_65 rfl ⟨_, _, rfl⟩ (by first | assumption | rfl) rfl rfl (Nat.le_of_ble_eq_true rfl) (by decide) (c_X0_forget) (fun s5 h5 => ?_)
        subst h5
        refine e_aload_n (q := 69) (i := 0) dX11_text_68 rfl rfl rfl ?_
        refine e_iconst (q := 70) dX11_text_69 rfl ?_
        refine e_putZ (q := 73) (jz := 7) dX11_text_70 rfl fp_X11_110 rfl (by first | assumption | rfl) rfl (by first | exact Or.inl rfl | exact Or.inr rfl | omega) ?_
        refine e_aload_n (q := 74) (i := 0) dX11_text_73 rfl rfl rfl ?_
        refine e_getR (q := 77) dX11_text_74 rfl fg_X11_18 (by first | assumption | rfl) rfl ?_
        refine e_getI (q := 80) (jz := 1) dX11_text_77 rfl fg_X11_114 rfl (by first | assumption | rfl) rfl ?_
        have F3 : Fr [0, 2, 3, 4, 5, 6, 7, 8, 9, 10, 11, 12, 13, 14, 15, 16, 18, 19, 21, 22, 23, 24, 25, 26, 27, 28, 29, 30, 31, 32, 33, 34, 35, 36, 37, 39, 40, 41, 42, 43, 56, 62] σ s3 := ((F1.mono (by decide)).tr (hFt.mono (by decide))).tr (b1.mono (by decide))
        have cz : ∀ a : Nat, a = 0 ∨ a = 19 ∨ a = 56 ∨ a = 62 → s3.1 a = s1.1 a := fun a ha => by rw [(b1 a (by rcases ha with rfl | rfl | rfl | rfl <;> decide)).1, (hFt a (by rcases ha with rfl | rfl | rfl | rfl <;> decide)).1]
        have cw : ∀ a : Nat, a = 56 ∨ a = 62 → s3.1 a = σ.1 a := fun a ha => by rw [cz a (by omega), (F1 a (by rcases ha with rfl | rfl <;> decide)).1]
        have ct : ∀ a : Nat, a ≠ 0 → a ≠ 56 → a ≠ 62 → (sI (sI (sI (sI s3 62 7 0) 62 8 (-1)) 56 6 0) 0 7 0).1 a = s3.1 a := fun a h1 h2 h3 => by rw [sI_ne _ h1, sI_ne _ h2, sI_ne _ h3, sI_ne _ h3]
        have cb : ∀ a : Nat, 2 ≤ a → a ≤ 16 → (sI (sI (sI (sI s3 62 7 0) 62 8 (-1)) 56 6 0) 0 7 0).1 a = (tkn s1).1 a := fun a h1 h2 => by rw [ct a (by omega) (by omega) (by omega), (b1 a (by simp only [List.mem_cons, List.not_mem_nil, or_false]; omega)).1]
        have hR2 : TkR (sI (sI (sI (sI s3 62 7 0) 62 8 (-1)) 56 6 0) 0 7 0) q.1 := by
          unfold TkR
          rw [cb 2 (by decide) (by decide), cb 3 (by decide) (by decide), cb 4 (by decide) (by decide), cb 5 (by decide) (by decide), cb 6 (by decide) (by decide), cb 7 (by decide) (by decide), cb 8 (by decide) (by decide), cb 9 (by decide) (by decide), cb 10 (by decide) (by decide), cb 11 (by decide) (by decide), cb 12 (by decide) (by decide), cb 13 (by decide) (by decide), cb 14 (by decide) (by decide), cb 15 (by decide) (by decide), cb 16 (by decide) (by decide)]
          exact hR
        have hz := hR2.1 1 (by decide) (by decide)
        refine r_i dX11_text_80 rfl (Or.inr ⟨⟨by omega, by omega⟩, (((F3.sI (by decide) _ _).sI (by decide) _ _).sI (by decide) _ _).sI (by decide) _ _, ?_, ?_, ?_, ?_⟩)
        · refine hg1.fr (C := [0, 2, 3, 4, 5, 6, 7, 8, 9, 10, 11, 12, 13, 14, 15, 16, 39, 40, 41, 42, 43, 56, 62]) ((((((hFt.mono (by decide)).tr (b1.mono (by decide))).sI (by decide) _ _).sI (by decide) _ _).sI (by decide) _ _).sI (by decide) _ _) (fun a h1 h2 => by simp only [List.mem_cons, List.not_mem_nil, or_false]; omega)
        · rw [ct 19 (by decide) (by decide) (by decide), cz 19 (by decide)]; exact hl1
        · rw [sI_1, if_neg (by decide), sI_ne _ (by decide), sI_ne _ (by decide), sI_ne _ (by decide), cz 0 (by decide)]; exact c02
        · rw [hr]
          refine ⟨hz, m3, hR2, ?_, ?_, ?_, ?_, ?_, ?_, ?_, ?_, ?_, ?_, ?_, ?_, ?_, ?_, ?_, ?_, ?_⟩
          · intro i a b
            rw [ct 40 (by decide) (by decide) (by decide), ct 41 (by decide) (by decide) (by decide), ← hR.2.2.2.2.1 i a b]
            exact b2 i a b
          · intro i a b
            rw [ct 42 (by decide) (by decide) (by decide), ct 43 (by decide) (by decide) (by decide), ← (hR.2.2.1 i a b).1]
            exact b3 i a b
          · rw [ct 39 (by decide) (by decide) (by decide)]; exact b4
          · rw [ct 39 (by decide) (by decide) (by decide)]; exact b5
          · show s3.2 39 7 = _
            rw [b6, hR.1 7 (by decide) (by decide)]
          · rw [ct 39 (by decide) (by decide) (by decide)]; exact b7
          · rw [ct 39 (by decide) (by decide) (by decide)]; exact b8
          · rw [ct 39 (by decide) (by decide) (by decide)]; exact b9
          · rw [sI_ne _ (by decide), sI_ne _ (by decide), sI_1, if_neg (by decide), sI_1, if_pos ⟨rfl, rfl⟩]
          · rw [sI_ne _ (by decide), sI_ne _ (by decide), sI_1, if_pos ⟨rfl, rfl⟩]
          · intro j h7 h8
            rw [sI_ne _ (by decide), sI_ne _ (by decide), sI_1, if_neg (fun q => h8 q.2), sI_1, if_neg (fun q => h7 q.2), cw 62 (by decide)]
          · rw [sI_ne _ (by decide), sI_1, if_pos ⟨rfl, rfl⟩]
          · intro j h6
            rw [sI_ne _ (by decide), sI_1, if_neg (fun q => h6 q.2), sI_ne _ (by decide), sI_ne _ (by decide), cw 56 (by decide)]
          · rw [sI_1, if_pos ⟨rfl, rfl⟩]
          · intro j h1 h7
            rw [sI_1, if_neg (fun q => h7 q.2), sI_ne _ (by decide), sI_ne _ (by decide), sI_ne _ (by decide), cz 0 (by decide)]
            exact c01 j h1
          · rw [ct 19 (by decide) (by decide) (by decide), cz 19 (by decide)]; exact m4
          · rw [ct 19 (by decide) (by decide) (by decide), cz 19 (by decide)]; exact m5
    · refine e_bipush (q := 14) dX11_text_12 rfl (by decide) ?_
      exact r_i dX11_text_14 rfl (Or.inl ⟨by omega, rfl, rfl⟩)

