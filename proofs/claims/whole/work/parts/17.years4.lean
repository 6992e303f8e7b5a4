theorem yBeats_ye (lv : Int → (Int → Int) → Int) (mo ck ed bs bc by_ : Int → Int) (un tl wet : Int) : ∀ (k : Nat) (y : Yd), (yBeats lv mo ck ed bs bc by_ un tl wet k y).2.2.2.2 = y.2.2.2.2
  | 0, _ => rfl
  | k + 1, y => by
    simp only [yBeats]
    split
    · exact yBeats_ye lv mo ck ed bs bc by_ un tl wet k y
    · exact yBeats_ye lv mo ck ed bs bc by_ un tl wet k y
theorem yGrow_ye (lv : Int → (Int → Int) → Int) (mo : Int → Int) (wet : Int) : ∀ (k : Nat) (y : Yd), (yGrow lv mo wet k y).2.2.2.2 = y.2.2.2.2 ∧ (yGrow lv mo wet k y).1 = y.1
  | 0, _ => ⟨rfl, rfl⟩
  | k + 1, y => yGrow_ye lv mo wet k y

set_option maxHeartbeats 8000000 in
theorem c_X10_passOne {G : Gx} {σ : Sg} {L : Nat} {wt : Int} (hT : TI σ) (hB : TB σ) (hW : LW σ) (hI : LI σ L) (hL : isLand L) (hwt : wt = 0 ∨ wt = 1) (hY : σ.1 L 6 < 100000) : Con G 6 mX10_passOne [.ref (G.2.2.2 + 54), .ref (G.2.2.2 + L), .int (iZ wt)] σ (pV (fun σ' => Lp σ σ' L (yYear (lawV σ) (σ.1 7) (σ.1 (L + 2)) (edS σ) (σ.1 9) (σ.1 10) (σ.1 11) (gOv (σ.1 3) (σ.1 4)) (σ.1 2 4) (σ.1 2 2) (σ.1 2 3) (σ.1 L 8) (σ.1 L 9) (σ.1 L 10) (σ.1 2 5) wt (ydv σ L)))) := by
  have y0 := ly0 hL
  have y1 := ly1 hL
  have y2 := ly2 hL
  have y3 := ly3 hL
  have y4 := ly4 hL
  obtain ⟨hzz, -, hnp, hnc, hnb, hlb, hrn, hsd, hrw, hrq, hch, hbt, hck⟩ := id hT
  have hY0 := hI.2.2.2.1
  have hso := hI.2.2.2.2.2.2.2
  refine e_entry om_X10_passOne (Nat.le_of_ble_eq_true rfl) (L := [some (.ref (G.2.2.2 + 54)), some (.ref (G.2.2.2 + L)), some (.int (iZ wt)), none, none, none]) rfl ?_
  refine e_aload_n (q := 1) (i := 1) dX10_passOne_0 rfl rfl rfl ?_
  refine e_getI (q := 4) (jz := 10) dX10_passOne_1 rfl fg_X10_59 rfl (by first | assumption | rfl) rfl ?_
  refine e_if_eq (q := 7) (tgt := 32) dX10_passOne_4 rfl (by decide) (fun c4 => ?_) (fun c4 => ?_) (hx := ⟨by omega, by omega⟩)
  · refine e_iconst (q := 33) dX10_passOne_32 rfl ?_
    refine e_istore_n (q := 34) (i := 3) (L' := [_, _, _, _, _, _]) dX10_passOne_33 rfl rfl (by decide) rfl rfl ?_
    have hbr : ¬ (σ.1 L 10 ≠ 0 ∧ σ.1 2 5 < (ydv σ L).2.2.2.2) := fun q => q.1 c4
    have lb : ∀ (n : Nat) (τ : Sg) (x4 x5 : Option Value) (i : Int), 0 ≤ i → i + n = (σ.1 2 4) → Lp σ τ L (yBeats (lawV σ) (σ.1 7) (σ.1 (L + 2)) (edS σ) (σ.1 9) (σ.1 10) (σ.1 11) (σ.1 L 8) (σ.1 L 9) wt i.toNat (ydv σ L)) → J G 6 mX10_passOne (pV (fun σ' => Lp σ σ' L (yYear (lawV σ) (σ.1 7) (σ.1 (L + 2)) (edS σ) (σ.1 9) (σ.1 10) (σ.1 11) (gOv (σ.1 3) (σ.1 4)) (σ.1 2 4) (σ.1 2 2) (σ.1 2 3) (σ.1 L 8) (σ.1 L 9) (σ.1 L 10) (σ.1 2 5) wt (ydv σ L)))) τ 34 [some (.ref (G.2.2.2 + 54)), some (.ref (G.2.2.2 + L)), some (.int (iZ wt)), some (.int (iZ i)), x4, x5] [] := by
      intro n
      induction n with
      | zero =>
        intro τ x4 x5 i h0 hn hlp
        have hT' := hlp.TI hL hT
        have hB' := hlp.TB hL hB
        have hW' := hlp.LW hL hW
        have hI' := hlp.2.2.2.2
        have n4 : τ.1 2 4 = (σ.1 2 4) := by rw [hlp.c hL (by decide) (by decide)]
        have n2 : τ.1 2 2 = σ.1 2 2 := by rw [hlp.c hL (by decide) (by decide)]
        have e9 : τ.1 9 = σ.1 9 := hlp.c hL (by decide) (by decide)
        have e10 : τ.1 10 = σ.1 10 := hlp.c hL (by decide) (by decide)
        have e11 : τ.1 11 = σ.1 11 := hlp.c hL (by decide) (by decide)
        have e8 : τ.1 L 8 = σ.1 L 8 := hlp.2.2.1 8 (by decide) (by decide)
        have eL9 : τ.1 L 9 = σ.1 L 9 := hlp.2.2.1 9 (by decide) (by decide)
        have eL10 : τ.1 L 10 = σ.1 L 10 := hlp.2.2.1 10 (by decide) (by decide)
        have eY : τ.1 L 6 = (yBeats (lawV σ) (σ.1 7) (σ.1 (L + 2)) (edS σ) (σ.1 9) (σ.1 10) (σ.1 11) (σ.1 L 8) (σ.1 L 9) wt i.toNat (ydv σ L)).2.2.2.2 := congrArg (fun y : Yd => y.2.2.2.2) hlp.2.1
        have h8 := hI.2.2.2.2.2.1
        have h10 := hI.2.2.2.2.2.2.2
        have hyr := hI'.2.2.2.1
        refine e_iload_n (q := 35) (i := 3) dX10_passOne_34 rfl rfl rfl ?_
        refine e_aload_n (q := 36) (i := 0) dX10_passOne_35 rfl rfl rfl ?_
        refine e_getR (q := 39) dX10_passOne_36 rfl fg_X10_9 (by first | assumption | rfl) rfl ?_
        refine e_getI (q := 42) (jz := 4) dX10_passOne_39 rfl fg_X10_69 rfl (by first | assumption | rfl) rfl ?_
        refine e_icmp_ge (q := 45) (tgt := 104) dX10_passOne_42 rfl (by decide) (fun c42 => ?_) (fun c42 => absurd (by omega) c42)
        have ei : i = (σ.1 2 4) := by omega
        subst ei
        refine e_aload_n (q := 105) (i := 1) dX10_passOne_104 rfl rfl rfl ?_
        refine e_getI (q := 108) (jz := 10) dX10_passOne_105 rfl fg_X10_59 rfl (by first | assumption | rfl) rfl ?_
        refine e_if_ne (q := 111) (tgt := 117) dX10_passOne_108 rfl (by decide) (fun c108 => ?_) (fun c108 => ?_) (hx := ⟨by rw [eL10]; omega, by rw [eL10]; omega⟩)
        · refine e_iconst (q := 118) dX10_passOne_117 rfl ?_
          refine e_istore_n (q := 119) (i := 3) (L' := [_, _, _, _, _, _]) dX10_passOne_118 rfl rfl (by decide) rfl rfl ?_
          rw [eL10] at c108
          obtain ⟨b, eb⟩ : ∃ b : Yd, b = yBeats (lawV σ) (σ.1 7) (σ.1 (L + 2)) (edS σ) (σ.1 9) (σ.1 10) (σ.1 11) (σ.1 L 8) (σ.1 L 9) wt ((σ.1 2 4)).toNat (ydv σ L) := ⟨_, rfl⟩
          have hbY : b.2.2.2.2 = σ.1 L 6 := by rw [eb]; exact yBeats_ye _ _ _ _ _ _ _ _ _ _ _ _
          have hres : yYear (lawV σ) (σ.1 7) (σ.1 (L + 2)) (edS σ) (σ.1 9) (σ.1 10) (σ.1 11) (gOv (σ.1 3) (σ.1 4)) (σ.1 2 4) (σ.1 2 2) (σ.1 2 3) (σ.1 L 8) (σ.1 L 9) (σ.1 L 10) (σ.1 2 5) wt (ydv σ L) = ((yGrow (lawV σ) (σ.1 7) wt ((σ.1 2 3)).toNat b).1, (yGrow (lawV σ) (σ.1 7) wt ((σ.1 2 3)).toNat b).2.1, (yGrow (lawV σ) (σ.1 7) wt ((σ.1 2 3)).toNat b).2.2.1, (yGrow (lawV σ) (σ.1 7) wt ((σ.1 2 3)).toNat b).2.2.2.1, (yGrow (lawV σ) (σ.1 7) wt ((σ.1 2 3)).toNat b).2.2.2.2 + 1) := by
            unfold yYear
            rw [if_neg hbr]
            dsimp only
            rw [if_neg c108, eb]
          have lg : ∀ (n : Nat) (τ : Sg) (x4 x5 : Option Value) (i : Int), 0 ≤ i → i + n = (σ.1 2 3) → Lp σ τ L (yGrow (lawV σ) (σ.1 7) wt i.toNat b) → J G 6 mX10_passOne (pV (fun σ' => Lp σ σ' L (yYear (lawV σ) (σ.1 7) (σ.1 (L + 2)) (edS σ) (σ.1 9) (σ.1 10) (σ.1 11) (gOv (σ.1 3) (σ.1 4)) (σ.1 2 4) (σ.1 2 2) (σ.1 2 3) (σ.1 L 8) (σ.1 L 9) (σ.1 L 10) (σ.1 2 5) wt (ydv σ L)))) τ 119 [some (.ref (G.2.2.2 + 54)), some (.ref (G.2.2.2 + L)), some (.int (iZ wt)), some (.int (iZ i)), x4, x5] [] := by
            intro n
            induction n with
            | zero =>
              intro τ x4 x5 i h0 hn hlp
              have hT' := hlp.TI hL hT
              have hW' := hlp.LW hL hW
              have hI' := hlp.2.2.2.2
              have n3 : τ.1 2 3 = (σ.1 2 3) := by rw [hlp.c hL (by decide) (by decide)]
              refine e_iload_n (q := 120) (i := 3) dX10_passOne_119 rfl rfl rfl ?_
              refine e_aload_n (q := 121) (i := 0) dX10_passOne_120 rfl rfl rfl ?_
              refine e_getR (q := 124) dX10_passOne_121 rfl fg_X10_9 (by first | assumption | rfl) rfl ?_
              refine e_getI (q := 127) (jz := 3) dX10_passOne_124 rfl fg_X10_92 rfl (by first | assumption | rfl) rfl ?_
              refine e_icmp_ge (q := 130) (tgt := 201) dX10_passOne_127 rfl (by decide) (fun c127 => ?_) (fun c127 => absurd (by omega) c127)
              have ei : i = (σ.1 2 3) := by omega
              subst ei
              have hyr := hI'.2.2.2.1
              have eY : τ.1 L 6 = (yGrow (lawV σ) (σ.1 7) wt ((σ.1 2 3)).toNat b).2.2.2.2 := congrArg (fun y : Yd => y.2.2.2.2) hlp.2.1
              have hY1 : τ.1 L 6 < 100000 := by rw [eY, (yGrow_ye _ _ _ _ _).1, hbY]; exact hY
              refine e_aload_n (q := 202) (i := 1) dX10_passOne_201 rfl rfl rfl ?_
              refine e_dup (q := 203) dX10_passOne_202 rfl rfl ?_
              refine e_getI (q := 206) (jz := 6) dX10_passOne_203 rfl fg_X10_63 rfl (by first | assumption | rfl) rfl ?_
              refine e_iconst (q := 207) dX10_passOne_206 rfl ?_
              refine e_iadd (q := 208) dX10_passOne_207 rfl ?_
              refine e_putI (q := 211) (jz := 6) dX10_passOne_208 rfl fp_X10_63 rfl (by first | assumption | rfl) rfl ?_
              exact r_v dX10_passOne_211 rfl (by rw [hres]; have q := hlp.year (V := τ.1 L 6 + 1) ⟨by omega, by omega⟩; rw [eY] at q ⊢; exact q)
            | succ n ih =>
              intro τ x4 x5 i h0 hn hlp
              have hT' := hlp.TI hL hT
              have hW' := hlp.LW hL hW
              have hI' := hlp.2.2.2.2
              have n3 : τ.1 2 3 = (σ.1 2 3) := by rw [hlp.c hL (by decide) (by decide)]
              refine e_iload_n (q := 120) (i := 3) dX10_passOne_119 rfl rfl rfl ?_
              refine e_aload_n (q := 121) (i := 0) dX10_passOne_120 rfl rfl rfl ?_
              refine e_getR (q := 124) dX10_passOne_121 rfl fg_X10_9 (by first | assumption | rfl) rfl ?_
              refine e_getI (q := 127) (jz := 3) dX10_passOne_124 rfl fg_X10_92 rfl (by first | assumption | rfl) rfl ?_
              refine e_icmp_ge (q := 130) (tgt := 201) dX10_passOne_127 rfl (by decide) (fun c127 => absurd c127 (by omega)) (fun c127 => ?_)
              have hb := hI'.2.1 i h0 (by omega)
              have hm := hch i h0 (by omega)
              refine e_aload_n (q := 131) (i := 1) dX10_passOne_130 rfl rfl rfl ?_
              refine e_getR (q := 134) dX10_passOne_131 rfl fg_X10_95 (by first | assumption | rfl) rfl ?_
              refine e_iload_n (q := 135) (i := 3) dX10_passOne_134 rfl rfl rfl ?_
              refine e_aload_n (q := 136) (i := 1) dX10_passOne_135 rfl rfl rfl ?_
              refine e_getR (q := 139) dX10_passOne_136 rfl fg_X10_95 (by first | assumption | rfl) rfl ?_
              refine e_iload_n (q := 140) (i := 3) dX10_passOne_139 rfl rfl rfl ?_
              refine e_iald (q := 141) dX10_passOne_140 rfl (by first | assumption | rfl) ?_
              refine e_iconst (q := 142) dX10_passOne_141 rfl ?_
              refine e_isub (q := 143) dX10_passOne_142 rfl ?_
              refine e_iconst (q := 144) dX10_passOne_143 rfl ?_
              refine e_mmax (q := 147) dX10_passOne_144 rfl ml_X10_98 mw_max_s mw_max_c mw_init (Nat.le_of_ble_eq_true rfl) (by decide) ?_ (hx := ⟨by omega, by omega⟩)
              refine e_iast (q := 148) dX10_passOne_147 rfl (by first | assumption | rfl) ?_
              have hlp2 := hlp.tired (V := max (τ.1 (L + 4) i - 1) 0) i ⟨by omega, by omega⟩
              have eL3 : τ.1 (L + 3) = (yGrow (lawV σ) (σ.1 7) wt i.toNat b).2.1 := congrArg (fun y : Yd => y.2.1) hlp.2.1
              have eL4 : τ.1 (L + 4) = (yGrow (lawV σ) (σ.1 7) wt i.toNat b).2.2.1 := congrArg (fun y : Yd => y.2.2.1) hlp.2.1
              have eY : τ.1 L 6 = (yGrow (lawV σ) (σ.1 7) wt i.toNat b).2.2.2.2 := congrArg (fun y : Yd => y.2.2.2.2) hlp.2.1
              have hyr := hI'.2.2.2.1
              refine e_aload_n (q := 149) (i := 0) dX10_passOne_148 rfl rfl rfl ?_
              refine e_aload_n (q := 150) (i := 1) dX10_passOne_149 rfl rfl rfl ?_
              refine e_iload_n (q := 151) (i := 3) dX10_passOne_150 rfl rfl rfl ?_
              refine e_iload_n (q := 152) (i := 2) dX10_passOne_151 rfl rfl rfl ?_
              refine e_Vl (q := 155) (vs := [_, _, _]) ok_X10_grow ml_X10_104 dX10_passOne_152 rfl ⟨_, _, rfl⟩ (by first | assumption | rfl) rfl rfl (Nat.le_of_ble_eq_true rfl) (by decide) (c_X10_grow (hlp2.TI hL hT) (hlp2.LW hL hW) hlp2.2.2.2.2 hL h0 (by omega) hwt) (fun z152 s152 h152 => ?_)
              have ez : z152 = lawV σ 2 (nmF ((yGrow (lawV σ) (σ.1 7) wt i.toNat b).2.1 i) (σ.1 7 i) (max ((yGrow (lawV σ) (σ.1 7) wt i.toNat b).2.2.1 i - 1) 0) 0 wt 0 (yGrow (lawV σ) (σ.1 7) wt i.toNat b).2.2.2.2) := by
                rw [h152.1, hlp2.lawV hL]
                have q3 : (sI τ (L + 4) i (max (τ.1 (L + 4) i - 1) 0)).1 (L + 3) = τ.1 (L + 3) := sI_ne _ (by omega) _ _
                have q0 : (sI τ (L + 4) i (max (τ.1 (L + 4) i - 1) 0)).1 L = τ.1 L := sI_ne _ (by omega) _ _
                rw [q3, q0, sI_uf, hlp2.c hL (a := 7) (by decide) (by decide), eL3, eY]
                unfold uf
                rw [if_pos rfl, eL4]
              rw [eL3, eL4] at hb
              rw [eY] at hyr
              have hll := law_lim hW (r := 2) (by decide) (by decide) (nm := nmF ((yGrow (lawV σ) (σ.1 7) wt i.toNat b).2.1 i) (σ.1 7 i) (max ((yGrow (lawV σ) (σ.1 7) wt i.toNat b).2.2.1 i - 1) 0) 0 wt 0 (yGrow (lawV σ) (σ.1 7) wt i.toNat b).2.2.2.2) (by refine nmF_lim ⟨⟨?_, ?_⟩, ⟨?_, ?_⟩, ⟨?_, ?_⟩, ⟨?_, ?_⟩, ⟨?_, ?_⟩, ⟨?_, ?_⟩, ⟨?_, ?_⟩⟩ <;> omega)
              rw [← ez] at hll
              have hzR : R64 z152 := ⟨by omega, by omega⟩
              have hlp3 := hlp2.aside hL h152.2
              have e33 : s152.1 (L + 3) = (yGrow (lawV σ) (σ.1 7) wt i.toNat b).2.1 := congrArg (fun y : Yd => y.2.1) hlp3.2.1
              have e33i : s152.1 (L + 3) i = (yGrow (lawV σ) (σ.1 7) wt i.toNat b).2.1 i := by rw [e33]
              refine e_lstore (q := 157) (L' := [_, _, _, _, _, _]) dX10_passOne_155 rfl (by decide) rfl rfl ?_
              refine e_lload (q := 159) dX10_passOne_157 rfl rfl ?_
              refine e_ldc2 (q := 162) (z := -9223372036854775808) dX10_passOne_159 rfl kw_X10_108 (by decide) ?_
              refine e_lcmp (q := 163) dX10_passOne_162 rfl hzR ⟨by omega, by omega⟩ ?_
              refine e_if_eq (q := 166) (tgt := 195) dX10_passOne_163 rfl (by decide) (fun c163 => ?_) (fun c163 => ?_)
              · refine e_iinc (q := 198) (L' := [_, _, _, _, _, _]) dX10_passOne_195 rfl rfl (by decide) rfl rfl ?_
                refine e_goto (tgt := 119) dX10_passOne_198 (by decide) ?_
                refine ih _ _ _ _ (by omega) (by omega) ?_
                rw [yGrow_succ _ _ _ h0]
                unfold yGrow1
                rw [if_pos (by rw [← ez]; omega)]
                rw [eL4] at hlp3
                exact hlp3
              · refine e_aload_n (q := 167) (i := 1) dX10_passOne_166 rfl rfl rfl ?_
                refine e_getR (q := 170) dX10_passOne_167 rfl fg_X10_110 (by first | assumption | rfl) rfl ?_
                refine e_iload_n (q := 171) (i := 3) dX10_passOne_170 rfl rfl rfl ?_
                refine e_aload_n (q := 172) (i := 1) dX10_passOne_171 rfl rfl rfl ?_
                refine e_getR (q := 175) dX10_passOne_172 rfl fg_X10_110 (by first | assumption | rfl) rfl ?_
                refine e_iload_n (q := 176) (i := 3) dX10_passOne_175 rfl rfl rfl ?_
                refine e_iald (q := 177) dX10_passOne_176 rfl (by first | assumption | rfl) ?_
                refine e_lload (q := 179) dX10_passOne_177 rfl rfl ?_
                refine e_bipush (q := 181) dX10_passOne_179 rfl (by decide) ?_
                refine e_bipush (q := 183) dX10_passOne_181 rfl (by decide) ?_
                refine e_Sip (q := 186) (vs := [_, _, _]) ok_X10_within ml_X10_113 dX10_passOne_183 rfl rfl rfl (Nat.le_of_ble_eq_true rfl) (by decide) (c_X10_within hzR ⟨by omega, by omega⟩ ⟨by omega, by omega⟩) ?_
                refine e_iadd (q := 187) dX10_passOne_186 rfl ?_
                have hg9 : -9 ≤ gWi z152 (-9) 9 ∧ gWi z152 (-9) 9 ≤ 9 := by unfold gWi; omega
                rw [e33i]
                refine e_i2l (q := 188) dX10_passOne_187 rfl ⟨by omega, by omega⟩ ?_
                refine e_iconst (q := 189) dX10_passOne_188 rfl ?_
                refine e_bipush (q := 191) dX10_passOne_189 rfl (by decide) ?_
                refine e_Sip (q := 194) (vs := [_, _, _]) ok_X10_within ml_X10_113 dX10_passOne_191 rfl rfl rfl (Nat.le_of_ble_eq_true rfl) (by decide) (c_X10_within ⟨by omega, by omega⟩ ⟨by omega, by omega⟩ ⟨by omega, by omega⟩) ?_
                refine e_iast (q := 195) dX10_passOne_194 rfl (by first | assumption | rfl) ?_
                refine e_iinc (q := 198) (L' := [_, _, _, _, _, _]) dX10_passOne_195 rfl rfl (by decide) rfl rfl ?_
                refine e_goto (tgt := 119) dX10_passOne_198 (by decide) ?_
                refine ih _ _ _ _ (by omega) (by omega) ?_
                rw [yGrow_succ _ _ _ h0]
                unfold yGrow1
                rw [if_neg (by rw [← ez]; omega), ← ez]
                rw [eL4] at hlp3
                exact hlp3.legs i (by unfold gWi; omega)
          refine lg ((σ.1 2 3)).toNat _ _ _ 0 (by omega) (by omega) ?_
          rw [eb]
          exact hlp
        · refine e_aload_n (q := 112) (i := 0) dX10_passOne_111 rfl rfl rfl ?_
          refine e_aload_n (q := 113) (i := 1) dX10_passOne_112 rfl rfl rfl ?_
          refine e_iload_n (q := 114) (i := 2) dX10_passOne_113 rfl rfl rfl ?_
          refine e_Vv (q := 117) (vs := [_, _]) ok_X10_quarrelAll ml_X10_89 dX10_passOne_114 rfl ⟨_, _, rfl⟩ (by first | assumption | rfl) rfl rfl (Nat.le_of_ble_eq_true rfl) (by decide) (c_X10_quarrelAll hT' hW' hI' hL hwt) (fun s114 h114 => ?_)
          refine e_iconst (q := 118) dX10_passOne_117 rfl ?_
          refine e_istore_n (q := 119) (i := 3) (L' := [_, _, _, _, _, _]) dX10_passOne_118 rfl rfl (by decide) rfl rfl ?_
          rw [eL10] at c108
          obtain ⟨b, eb⟩ : ∃ b : Yd, b = ((yBeats (lawV σ) (σ.1 7) (σ.1 (L + 2)) (edS σ) (σ.1 9) (σ.1 10) (σ.1 11) (σ.1 L 8) (σ.1 L 9) wt ((σ.1 2 4)).toNat (ydv σ L)).1, (yBeats (lawV σ) (σ.1 7) (σ.1 (L + 2)) (edS σ) (σ.1 9) (σ.1 10) (σ.1 11) (σ.1 L 8) (σ.1 L 9) wt ((σ.1 2 4)).toNat (ydv σ L)).2.1, (yBeats (lawV σ) (σ.1 7) (σ.1 (L + 2)) (edS σ) (σ.1 9) (σ.1 10) (σ.1 11) (σ.1 L 8) (σ.1 L 9) wt ((σ.1 2 4)).toNat (ydv σ L)).2.2.1, qOut (lawV σ) (gOv (σ.1 3) (σ.1 4) (yBeats (lawV σ) (σ.1 7) (σ.1 (L + 2)) (edS σ) (σ.1 9) (σ.1 10) (σ.1 11) (σ.1 L 8) (σ.1 L 9) wt ((σ.1 2 4)).toNat (ydv σ L)).1) wt (yBeats (lawV σ) (σ.1 7) (σ.1 (L + 2)) (edS σ) (σ.1 9) (σ.1 10) (σ.1 11) (σ.1 L 8) (σ.1 L 9) wt ((σ.1 2 4)).toNat (ydv σ L)).2.2.2.2 (σ.1 2 2) (σ.1 2 2).toNat (yBeats (lawV σ) (σ.1 7) (σ.1 (L + 2)) (edS σ) (σ.1 9) (σ.1 10) (σ.1 11) (σ.1 L 8) (σ.1 L 9) wt ((σ.1 2 4)).toNat (ydv σ L)).2.2.2.1, (yBeats (lawV σ) (σ.1 7) (σ.1 (L + 2)) (edS σ) (σ.1 9) (σ.1 10) (σ.1 11) (σ.1 L 8) (σ.1 L 9) wt ((σ.1 2 4)).toNat (ydv σ L)).2.2.2.2) := ⟨_, rfl⟩
          have hbY : b.2.2.2.2 = σ.1 L 6 := by rw [eb]; exact yBeats_ye _ _ _ _ _ _ _ _ _ _ _ _
          have hres : yYear (lawV σ) (σ.1 7) (σ.1 (L + 2)) (edS σ) (σ.1 9) (σ.1 10) (σ.1 11) (gOv (σ.1 3) (σ.1 4)) (σ.1 2 4) (σ.1 2 2) (σ.1 2 3) (σ.1 L 8) (σ.1 L 9) (σ.1 L 10) (σ.1 2 5) wt (ydv σ L) = ((yGrow (lawV σ) (σ.1 7) wt ((σ.1 2 3)).toNat b).1, (yGrow (lawV σ) (σ.1 7) wt ((σ.1 2 3)).toNat b).2.1, (yGrow (lawV σ) (σ.1 7) wt ((σ.1 2 3)).toNat b).2.2.1, (yGrow (lawV σ) (σ.1 7) wt ((σ.1 2 3)).toNat b).2.2.2.1, (yGrow (lawV σ) (σ.1 7) wt ((σ.1 2 3)).toNat b).2.2.2.2 + 1) := by
            unfold yYear
            rw [if_neg hbr]
            dsimp only
            rw [if_pos c108, eb]
          have lg : ∀ (n : Nat) (τ : Sg) (x4 x5 : Option Value) (i : Int), 0 ≤ i → i + n = (σ.1 2 3) → Lp σ τ L (yGrow (lawV σ) (σ.1 7) wt i.toNat b) → J G 6 mX10_passOne (pV (fun σ' => Lp σ σ' L (yYear (lawV σ) (σ.1 7) (σ.1 (L + 2)) (edS σ) (σ.1 9) (σ.1 10) (σ.1 11) (gOv (σ.1 3) (σ.1 4)) (σ.1 2 4) (σ.1 2 2) (σ.1 2 3) (σ.1 L 8) (σ.1 L 9) (σ.1 L 10) (σ.1 2 5) wt (ydv σ L)))) τ 119 [some (.ref (G.2.2.2 + 54)), some (.ref (G.2.2.2 + L)), some (.int (iZ wt)), some (.int (iZ i)), x4, x5] [] := by
            intro n
            induction n with
            | zero =>
              intro τ x4 x5 i h0 hn hlp
              have hT' := hlp.TI hL hT
              have hW' := hlp.LW hL hW
              have hI' := hlp.2.2.2.2
              have n3 : τ.1 2 3 = (σ.1 2 3) := by rw [hlp.c hL (by decide) (by decide)]
              refine e_iload_n (q := 120) (i := 3) dX10_passOne_119 rfl rfl rfl ?_
              refine e_aload_n (q := 121) (i := 0) dX10_passOne_120 rfl rfl rfl ?_
              refine e_getR (q := 124) dX10_passOne_121 rfl fg_X10_9 (by first | assumption | rfl) rfl ?_
              refine e_getI (q := 127) (jz := 3) dX10_passOne_124 rfl fg_X10_92 rfl (by first | assumption | rfl) rfl ?_
              refine e_icmp_ge (q := 130) (tgt := 201) dX10_passOne_127 rfl (by decide) (fun c127 => ?_) (fun c127 => absurd (by omega) c127)
              have ei : i = (σ.1 2 3) := by omega
              subst ei
              have hyr := hI'.2.2.2.1
              have eY : τ.1 L 6 = (yGrow (lawV σ) (σ.1 7) wt ((σ.1 2 3)).toNat b).2.2.2.2 := congrArg (fun y : Yd => y.2.2.2.2) hlp.2.1
              have hY1 : τ.1 L 6 < 100000 := by rw [eY, (yGrow_ye _ _ _ _ _).1, hbY]; exact hY
              refine e_aload_n (q := 202) (i := 1) dX10_passOne_201 rfl rfl rfl ?_
              refine e_dup (q := 203) dX10_passOne_202 rfl rfl ?_
              refine e_getI (q := 206) (jz := 6) dX10_passOne_203 rfl fg_X10_63 rfl (by first | assumption | rfl) rfl ?_
              refine e_iconst (q := 207) dX10_passOne_206 rfl ?_
              refine e_iadd (q := 208) dX10_passOne_207 rfl ?_
              refine e_putI (q := 211) (jz := 6) dX10_passOne_208 rfl fp_X10_63 rfl (by first | assumption | rfl) rfl ?_
              exact r_v dX10_passOne_211 rfl (by rw [hres]; have q := hlp.year (V := τ.1 L 6 + 1) ⟨by omega, by omega⟩; rw [eY] at q ⊢; exact q)
            | succ n ih =>
              intro τ x4 x5 i h0 hn hlp
              have hT' := hlp.TI hL hT
              have hW' := hlp.LW hL hW
              have hI' := hlp.2.2.2.2
              have n3 : τ.1 2 3 = (σ.1 2 3) := by rw [hlp.c hL (by decide) (by decide)]
              refine e_iload_n (q := 120) (i := 3) dX10_passOne_119 rfl rfl rfl ?_
              refine e_aload_n (q := 121) (i := 0) dX10_passOne_120 rfl rfl rfl ?_
              refine e_getR (q := 124) dX10_passOne_121 rfl fg_X10_9 (by first | assumption | rfl) rfl ?_
              refine e_getI (q := 127) (jz := 3) dX10_passOne_124 rfl fg_X10_92 rfl (by first | assumption | rfl) rfl ?_
              refine e_icmp_ge (q := 130) (tgt := 201) dX10_passOne_127 rfl (by decide) (fun c127 => absurd c127 (by omega)) (fun c127 => ?_)
              have hb := hI'.2.1 i h0 (by omega)
              have hm := hch i h0 (by omega)
              refine e_aload_n (q := 131) (i := 1) dX10_passOne_130 rfl rfl rfl ?_
              refine e_getR (q := 134) dX10_passOne_131 rfl fg_X10_95 (by first | assumption | rfl) rfl ?_
              refine e_iload_n (q := 135) (i := 3) dX10_passOne_134 rfl rfl rfl ?_
              refine e_aload_n (q := 136) (i := 1) dX10_passOne_135 rfl rfl rfl ?_
              refine e_getR (q := 139) dX10_passOne_136 rfl fg_X10_95 (by first | assumption | rfl) rfl ?_
              refine e_iload_n (q := 140) (i := 3) dX10_passOne_139 rfl rfl rfl ?_
              refine e_iald (q := 141) dX10_passOne_140 rfl (by first | assumption | rfl) ?_
              refine e_iconst (q := 142) dX10_passOne_141 rfl ?_
              refine e_isub (q := 143) dX10_passOne_142 rfl ?_
              refine e_iconst (q := 144) dX10_passOne_143 rfl ?_
              refine e_mmax (q := 147) dX10_passOne_144 rfl ml_X10_98 mw_max_s mw_max_c mw_init (Nat.le_of_ble_eq_true rfl) (by decide) ?_ (hx := ⟨by omega, by omega⟩)
              refine e_iast (q := 148) dX10_passOne_147 rfl (by first | assumption | rfl) ?_
              have hlp2 := hlp.tired (V := max (τ.1 (L + 4) i - 1) 0) i ⟨by omega, by omega⟩
              have eL3 : τ.1 (L + 3) = (yGrow (lawV σ) (σ.1 7) wt i.toNat b).2.1 := congrArg (fun y : Yd => y.2.1) hlp.2.1
              have eL4 : τ.1 (L + 4) = (yGrow (lawV σ) (σ.1 7) wt i.toNat b).2.2.1 := congrArg (fun y : Yd => y.2.2.1) hlp.2.1
              have eY : τ.1 L 6 = (yGrow (lawV σ) (σ.1 7) wt i.toNat b).2.2.2.2 := congrArg (fun y : Yd => y.2.2.2.2) hlp.2.1
              have hyr := hI'.2.2.2.1
              refine e_aload_n (q := 149) (i := 0) dX10_passOne_148 rfl rfl rfl ?_
              refine e_aload_n (q := 150) (i := 1) dX10_passOne_149 rfl rfl rfl ?_
              refine e_iload_n (q := 151) (i := 3) dX10_passOne_150 rfl rfl rfl ?_
              refine e_iload_n (q := 152) (i := 2) dX10_passOne_151 rfl rfl rfl ?_
              refine e_Vl (q := 155) (vs := [_, _, _]) ok_X10_grow ml_X10_104 dX10_passOne_152 rfl ⟨_, _, rfl⟩ (by first | assumption | rfl) rfl rfl (Nat.le_of_ble_eq_true rfl) (by decide) (c_X10_grow (hlp2.TI hL hT) (hlp2.LW hL hW) hlp2.2.2.2.2 hL h0 (by omega) hwt) (fun z152 s152 h152 => ?_)
              have ez : z152 = lawV σ 2 (nmF ((yGrow (lawV σ) (σ.1 7) wt i.toNat b).2.1 i) (σ.1 7 i) (max ((yGrow (lawV σ) (σ.1 7) wt i.toNat b).2.2.1 i - 1) 0) 0 wt 0 (yGrow (lawV σ) (σ.1 7) wt i.toNat b).2.2.2.2) := by
                rw [h152.1, hlp2.lawV hL]
                have q3 : (sI τ (L + 4) i (max (τ.1 (L + 4) i - 1) 0)).1 (L + 3) = τ.1 (L + 3) := sI_ne _ (by omega) _ _
                have q0 : (sI τ (L + 4) i (max (τ.1 (L + 4) i - 1) 0)).1 L = τ.1 L := sI_ne _ (by omega) _ _
                rw [q3, q0, sI_uf, hlp2.c hL (a := 7) (by decide) (by decide), eL3, eY]
                unfold uf
                rw [if_pos rfl, eL4]
              rw [eL3, eL4] at hb
              rw [eY] at hyr
              have hll := law_lim hW (r := 2) (by decide) (by decide) (nm := nmF ((yGrow (lawV σ) (σ.1 7) wt i.toNat b).2.1 i) (σ.1 7 i) (max ((yGrow (lawV σ) (σ.1 7) wt i.toNat b).2.2.1 i - 1) 0) 0 wt 0 (yGrow (lawV σ) (σ.1 7) wt i.toNat b).2.2.2.2) (by refine nmF_lim ⟨⟨?_, ?_⟩, ⟨?_, ?_⟩, ⟨?_, ?_⟩, ⟨?_, ?_⟩, ⟨?_, ?_⟩, ⟨?_, ?_⟩, ⟨?_, ?_⟩⟩ <;> omega)
              rw [← ez] at hll
              have hzR : R64 z152 := ⟨by omega, by omega⟩
              have hlp3 := hlp2.aside hL h152.2
              have e33 : s152.1 (L + 3) = (yGrow (lawV σ) (σ.1 7) wt i.toNat b).2.1 := congrArg (fun y : Yd => y.2.1) hlp3.2.1
              have e33i : s152.1 (L + 3) i = (yGrow (lawV σ) (σ.1 7) wt i.toNat b).2.1 i := by rw [e33]
              refine e_lstore (q := 157) (L' := [_, _, _, _, _, _]) dX10_passOne_155 rfl (by decide) rfl rfl ?_
              refine e_lload (q := 159) dX10_passOne_157 rfl rfl ?_
              refine e_ldc2 (q := 162) (z := -9223372036854775808) dX10_passOne_159 rfl kw_X10_108 (by decide) ?_
              refine e_lcmp (q := 163) dX10_passOne_162 rfl hzR ⟨by omega, by omega⟩ ?_
              refine e_if_eq (q := 166) (tgt := 195) dX10_passOne_163 rfl (by decide) (fun c163 => ?_) (fun c163 => ?_)
              · refine e_iinc (q := 198) (L' := [_, _, _, _, _, _]) dX10_passOne_195 rfl rfl (by decide) rfl rfl ?_
                refine e_goto (tgt := 119) dX10_passOne_198 (by decide) ?_
                refine ih _ _ _ _ (by omega) (by omega) ?_
                rw [yGrow_succ _ _ _ h0]
                unfold yGrow1
                rw [if_pos (by rw [← ez]; omega)]
                rw [eL4] at hlp3
                exact hlp3
              · refine e_aload_n (q := 167) (i := 1) dX10_passOne_166 rfl rfl rfl ?_
                refine e_getR (q := 170) dX10_passOne_167 rfl fg_X10_110 (by first | assumption | rfl) rfl ?_
                refine e_iload_n (q := 171) (i := 3) dX10_passOne_170 rfl rfl rfl ?_
                refine e_aload_n (q := 172) (i := 1) dX10_passOne_171 rfl rfl rfl ?_
                refine e_getR (q := 175) dX10_passOne_172 rfl fg_X10_110 (by first | assumption | rfl) rfl ?_
                refine e_iload_n (q := 176) (i := 3) dX10_passOne_175 rfl rfl rfl ?_
                refine e_iald (q := 177) dX10_passOne_176 rfl (by first | assumption | rfl) ?_
                refine e_lload (q := 179) dX10_passOne_177 rfl rfl ?_
                refine e_bipush (q := 181) dX10_passOne_179 rfl (by decide) ?_
                refine e_bipush (q := 183) dX10_passOne_181 rfl (by decide) ?_
                refine e_Sip (q := 186) (vs := [_, _, _]) ok_X10_within ml_X10_113 dX10_passOne_183 rfl rfl rfl (Nat.le_of_ble_eq_true rfl) (by decide) (c_X10_within hzR ⟨by omega, by omega⟩ ⟨by omega, by omega⟩) ?_
                refine e_iadd (q := 187) dX10_passOne_186 rfl ?_
                have hg9 : -9 ≤ gWi z152 (-9) 9 ∧ gWi z152 (-9) 9 ≤ 9 := by unfold gWi; omega
                rw [e33i]
                refine e_i2l (q := 188) dX10_passOne_187 rfl ⟨by omega, by omega⟩ ?_
                refine e_iconst (q := 189) dX10_passOne_188 rfl ?_
                refine e_bipush (q := 191) dX10_passOne_189 rfl (by decide) ?_
                refine e_Sip (q := 194) (vs := [_, _, _]) ok_X10_within ml_X10_113 dX10_passOne_191 rfl rfl rfl (Nat.le_of_ble_eq_true rfl) (by decide) (c_X10_within ⟨by omega, by omega⟩ ⟨by omega, by omega⟩ ⟨by omega, by omega⟩) ?_
                refine e_iast (q := 195) dX10_passOne_194 rfl (by first | assumption | rfl) ?_
                refine e_iinc (q := 198) (L' := [_, _, _, _, _, _]) dX10_passOne_195 rfl rfl (by decide) rfl rfl ?_
                refine e_goto (tgt := 119) dX10_passOne_198 (by decide) ?_
                refine ih _ _ _ _ (by omega) (by omega) ?_
                rw [yGrow_succ _ _ _ h0]
                unfold yGrow1
                rw [if_neg (by rw [← ez]; omega), ← ez]
                rw [eL4] at hlp3
                exact hlp3.legs i (by unfold gWi; omega)
          refine lg ((σ.1 2 3)).toNat _ _ _ 0 (by omega) (by omega) ?_
          rw [eb]
          have q := hlp.tr h114
          rw [hlp.lawV hL, hlp.c hL (a := 3) (by decide) (by decide), hlp.c hL (a := 4) (by decide) (by decide), n2] at q
          have f1 : τ.1 (L + 1) = (yBeats (lawV σ) (σ.1 7) (σ.1 (L + 2)) (edS σ) (σ.1 9) (σ.1 10) (σ.1 11) (σ.1 L 8) (σ.1 L 9) wt ((σ.1 2 4)).toNat (ydv σ L)).1 := congrArg (fun y : Yd => y.1) hlp.2.1
          have f3 : τ.1 (L + 3) = (yBeats (lawV σ) (σ.1 7) (σ.1 (L + 2)) (edS σ) (σ.1 9) (σ.1 10) (σ.1 11) (σ.1 L 8) (σ.1 L 9) wt ((σ.1 2 4)).toNat (ydv σ L)).2.1 := congrArg (fun y : Yd => y.2.1) hlp.2.1
          have f4 : τ.1 (L + 4) = (yBeats (lawV σ) (σ.1 7) (σ.1 (L + 2)) (edS σ) (σ.1 9) (σ.1 10) (σ.1 11) (σ.1 L 8) (σ.1 L 9) wt ((σ.1 2 4)).toNat (ydv σ L)).2.2.1 := congrArg (fun y : Yd => y.2.2.1) hlp.2.1
          have f5 : τ.1 L 5 = (yBeats (lawV σ) (σ.1 7) (σ.1 (L + 2)) (edS σ) (σ.1 9) (σ.1 10) (σ.1 11) (σ.1 L 8) (σ.1 L 9) wt ((σ.1 2 4)).toNat (ydv σ L)).2.2.2.1 := congrArg (fun y : Yd => y.2.2.2.1) hlp.2.1
          rw [f1, f3, f4, f5, eY] at q
          exact q
      | succ n ih =>
        intro τ x4 x5 i h0 hn hlp
        have hT' := hlp.TI hL hT
        have hB' := hlp.TB hL hB
        have hW' := hlp.LW hL hW
        have hI' := hlp.2.2.2.2
        have n4 : τ.1 2 4 = (σ.1 2 4) := by rw [hlp.c hL (by decide) (by decide)]
        have n2 : τ.1 2 2 = σ.1 2 2 := by rw [hlp.c hL (by decide) (by decide)]
        have e9 : τ.1 9 = σ.1 9 := hlp.c hL (by decide) (by decide)
        have e10 : τ.1 10 = σ.1 10 := hlp.c hL (by decide) (by decide)
        have e11 : τ.1 11 = σ.1 11 := hlp.c hL (by decide) (by decide)
        have e8 : τ.1 L 8 = σ.1 L 8 := hlp.2.2.1 8 (by decide) (by decide)
        have eL9 : τ.1 L 9 = σ.1 L 9 := hlp.2.2.1 9 (by decide) (by decide)
        have eL10 : τ.1 L 10 = σ.1 L 10 := hlp.2.2.1 10 (by decide) (by decide)
        have eY : τ.1 L 6 = (yBeats (lawV σ) (σ.1 7) (σ.1 (L + 2)) (edS σ) (σ.1 9) (σ.1 10) (σ.1 11) (σ.1 L 8) (σ.1 L 9) wt i.toNat (ydv σ L)).2.2.2.2 := congrArg (fun y : Yd => y.2.2.2.2) hlp.2.1
        have h8 := hI.2.2.2.2.2.1
        have h10 := hI.2.2.2.2.2.2.2
        have hyr := hI'.2.2.2.1
        refine e_iload_n (q := 35) (i := 3) dX10_passOne_34 rfl rfl rfl ?_
        refine e_aload_n (q := 36) (i := 0) dX10_passOne_35 rfl rfl rfl ?_
        refine e_getR (q := 39) dX10_passOne_36 rfl fg_X10_9 (by first | assumption | rfl) rfl ?_
        refine e_getI (q := 42) (jz := 4) dX10_passOne_39 rfl fg_X10_69 rfl (by first | assumption | rfl) rfl ?_
        refine e_icmp_ge (q := 45) (tgt := 104) dX10_passOne_42 rfl (by decide) (fun c42 => absurd c42 (by omega)) (fun c42 => ?_)
        refine e_aload_n (q := 46) (i := 0) dX10_passOne_45 rfl rfl rfl ?_
        refine e_getR (q := 49) dX10_passOne_46 rfl fg_X10_9 (by first | assumption | rfl) rfl ?_
        refine e_getR (q := 52) dX10_passOne_49 rfl fg_X10_72 (by first | assumption | rfl) rfl ?_
        refine e_iload_n (q := 53) (i := 3) dX10_passOne_52 rfl rfl rfl ?_
        refine e_iald (q := 54) dX10_passOne_53 rfl (by first | assumption | rfl) ?_
        refine e_istore (q := 56) (L' := [_, _, _, _, _, _]) dX10_passOne_54 rfl (by decide) rfl rfl ?_
        have hbi := hbt i h0 (by omega)
        have hBi := hB i h0 (by omega)
        rw [e10]
        refine e_aload_n (q := 57) (i := 0) dX10_passOne_56 rfl rfl rfl ?_
        refine e_getR (q := 60) dX10_passOne_57 rfl fg_X10_9 (by first | assumption | rfl) rfl ?_
        refine e_getR (q := 63) dX10_passOne_60 rfl fg_X10_76 (by first | assumption | rfl) rfl ?_
        refine e_iload_n (q := 64) (i := 3) dX10_passOne_63 rfl rfl rfl ?_
        refine e_iald (q := 65) dX10_passOne_64 rfl (by first | assumption | rfl) ?_
        refine e_aload_n (q := 66) (i := 1) dX10_passOne_65 rfl rfl rfl ?_
        refine e_getI (q := 69) (jz := 6) dX10_passOne_66 rfl fg_X10_63 rfl (by first | assumption | rfl) rfl ?_
        rw [e11]
        refine e_icmp_ne (q := 72) (tgt := 98) dX10_passOne_69 rfl (by decide) (fun c69 => ?_) (fun c69 => ?_) (hx := ⟨by omega, by omega⟩) (hy := ⟨by omega, by omega⟩)
        · refine e_iinc (q := 101) (L' := [_, _, _, _, _, _]) dX10_passOne_98 rfl rfl (by decide) rfl rfl ?_
          refine e_goto (tgt := 34) dX10_passOne_101 (by decide) ?_
          refine ih _ _ _ _ (by omega) (by omega) ?_
          rw [yBeats_succ _ _ _ _ _ _ _ _ _ _ h0, if_neg (fun q => c69 (by rw [eY]; exact q.1))]
          exact hlp
        · refine e_iload (q := 74) dX10_passOne_72 rfl rfl ?_
          refine e_aload_n (q := 75) (i := 1) dX10_passOne_74 rfl rfl rfl ?_
          refine e_getI (q := 78) (jz := 8) dX10_passOne_75 rfl fg_X10_79 rfl (by first | assumption | rfl) rfl ?_
          rw [e8]
          refine e_icmp_eq (q := 81) (tgt := 98) dX10_passOne_78 rfl (by decide) (fun c78 => ?_) (fun c78 => ?_) (hx := ⟨by omega, by omega⟩) (hy := ⟨by omega, by omega⟩)
          · refine e_iinc (q := 101) (L' := [_, _, _, _, _, _]) dX10_passOne_98 rfl rfl (by decide) rfl rfl ?_
            refine e_goto (tgt := 34) dX10_passOne_101 (by decide) ?_
            refine ih _ _ _ _ (by omega) (by omega) ?_
            rw [yBeats_succ _ _ _ _ _ _ _ _ _ _ h0, if_neg (fun q => q.2 c78)]
            exact hlp
          · refine e_aload_n (q := 82) (i := 0) dX10_passOne_81 rfl rfl rfl ?_
            refine e_aload_n (q := 83) (i := 1) dX10_passOne_82 rfl rfl rfl ?_
            refine e_iload (q := 85) dX10_passOne_83 rfl rfl ?_
            refine e_aload_n (q := 86) (i := 0) dX10_passOne_85 rfl rfl rfl ?_
            refine e_getR (q := 89) dX10_passOne_86 rfl fg_X10_9 (by first | assumption | rfl) rfl ?_
            refine e_getR (q := 92) dX10_passOne_89 rfl fg_X10_82 (by first | assumption | rfl) rfl ?_
            refine e_iload_n (q := 93) (i := 3) dX10_passOne_92 rfl rfl rfl ?_
            refine e_iald (q := 94) dX10_passOne_93 rfl (by first | assumption | rfl) ?_
            refine e_iload_n (q := 95) (i := 2) dX10_passOne_94 rfl rfl rfl ?_
            rw [e9]
            refine e_Vv (q := 98) (vs := [_, _, _, _]) ok_X10_lead ml_X10_85 dX10_passOne_95 rfl ⟨_, _, rfl⟩ (by first | assumption | rfl) rfl rfl (Nat.le_of_ble_eq_true rfl) (by decide) (c_X10_lead hT' hW' hI' hL (c := σ.1 10 i) (s := σ.1 9 i) (by omega) (by omega) (by omega) (by omega) hwt) (fun s95 h95 => ?_)
            refine e_iinc (q := 101) (L' := [_, _, _, _, _, _]) dX10_passOne_98 rfl rfl (by decide) rfl rfl ?_
            refine e_goto (tgt := 34) dX10_passOne_101 (by decide) ?_
            refine ih _ _ _ _ (by omega) (by omega) ?_
            rw [yBeats_succ _ _ _ _ _ _ _ _ _ _ h0, if_pos ⟨by rw [← eY]; exact c69, c78⟩]
            have q := hlp.tr h95
            rw [hlp.lawV hL, hlp.edS hL, hlp.ck hL, hlp.c hL (a := 7) (by decide) (by decide), eL9, hlp.2.1] at q
            exact q
    exact lb ((σ.1 2 4)).toNat _ _ _ 0 (by omega) (by omega) (Lp.rf hI)
  · refine e_aload_n (q := 8) (i := 1) dX10_passOne_7 rfl rfl rfl ?_
    refine e_getI (q := 11) (jz := 6) dX10_passOne_8 rfl fg_X10_63 rfl (by first | assumption | rfl) rfl ?_
    refine e_aload_n (q := 12) (i := 0) dX10_passOne_11 rfl rfl rfl ?_
    refine e_getR (q := 15) dX10_passOne_12 rfl fg_X10_9 (by first | assumption | rfl) rfl ?_
    refine e_getI (q := 18) (jz := 5) dX10_passOne_15 rfl fg_X10_66 rfl (by first | assumption | rfl) rfl ?_
    refine e_icmp_le (q := 21) (tgt := 32) dX10_passOne_18 rfl (by decide) (fun c18 => ?_) (fun c18 => ?_)
    · refine e_iconst (q := 33) dX10_passOne_32 rfl ?_
      refine e_istore_n (q := 34) (i := 3) (L' := [_, _, _, _, _, _]) dX10_passOne_33 rfl rfl (by decide) rfl rfl ?_
      have hbr : ¬ (σ.1 L 10 ≠ 0 ∧ σ.1 2 5 < (ydv σ L).2.2.2.2) := fun q => by have := q.2; have e : (ydv σ L).2.2.2.2 = σ.1 L 6 := rfl; omega
      have lb : ∀ (n : Nat) (τ : Sg) (x4 x5 : Option Value) (i : Int), 0 ≤ i → i + n = (σ.1 2 4) → Lp σ τ L (yBeats (lawV σ) (σ.1 7) (σ.1 (L + 2)) (edS σ) (σ.1 9) (σ.1 10) (σ.1 11) (σ.1 L 8) (σ.1 L 9) wt i.toNat (ydv σ L)) → J G 6 mX10_passOne (pV (fun σ' => Lp σ σ' L (yYear (lawV σ) (σ.1 7) (σ.1 (L + 2)) (edS σ) (σ.1 9) (σ.1 10) (σ.1 11) (gOv (σ.1 3) (σ.1 4)) (σ.1 2 4) (σ.1 2 2) (σ.1 2 3) (σ.1 L 8) (σ.1 L 9) (σ.1 L 10) (σ.1 2 5) wt (ydv σ L)))) τ 34 [some (.ref (G.2.2.2 + 54)), some (.ref (G.2.2.2 + L)), some (.int (iZ wt)), some (.int (iZ i)), x4, x5] [] := by
        intro n
        induction n with
        | zero =>
          intro τ x4 x5 i h0 hn hlp
          have hT' := hlp.TI hL hT
          have hB' := hlp.TB hL hB
          have hW' := hlp.LW hL hW
          have hI' := hlp.2.2.2.2
          have n4 : τ.1 2 4 = (σ.1 2 4) := by rw [hlp.c hL (by decide) (by decide)]
          have n2 : τ.1 2 2 = σ.1 2 2 := by rw [hlp.c hL (by decide) (by decide)]
          have e9 : τ.1 9 = σ.1 9 := hlp.c hL (by decide) (by decide)
          have e10 : τ.1 10 = σ.1 10 := hlp.c hL (by decide) (by decide)
          have e11 : τ.1 11 = σ.1 11 := hlp.c hL (by decide) (by decide)
          have e8 : τ.1 L 8 = σ.1 L 8 := hlp.2.2.1 8 (by decide) (by decide)
          have eL9 : τ.1 L 9 = σ.1 L 9 := hlp.2.2.1 9 (by decide) (by decide)
          have eL10 : τ.1 L 10 = σ.1 L 10 := hlp.2.2.1 10 (by decide) (by decide)
          have eY : τ.1 L 6 = (yBeats (lawV σ) (σ.1 7) (σ.1 (L + 2)) (edS σ) (σ.1 9) (σ.1 10) (σ.1 11) (σ.1 L 8) (σ.1 L 9) wt i.toNat (ydv σ L)).2.2.2.2 := congrArg (fun y : Yd => y.2.2.2.2) hlp.2.1
          have h8 := hI.2.2.2.2.2.1
          have h10 := hI.2.2.2.2.2.2.2
          have hyr := hI'.2.2.2.1
          refine e_iload_n (q := 35) (i := 3) dX10_passOne_34 rfl rfl rfl ?_
          refine e_aload_n (q := 36) (i := 0) dX10_passOne_35 rfl rfl rfl ?_
          refine e_getR (q := 39) dX10_passOne_36 rfl fg_X10_9 (by first | assumption | rfl) rfl ?_
          refine e_getI (q := 42) (jz := 4) dX10_passOne_39 rfl fg_X10_69 rfl (by first | assumption | rfl) rfl ?_
          refine e_icmp_ge (q := 45) (tgt := 104) dX10_passOne_42 rfl (by decide) (fun c42 => ?_) (fun c42 => absurd (by omega) c42)
          have ei : i = (σ.1 2 4) := by omega
          subst ei
          refine e_aload_n (q := 105) (i := 1) dX10_passOne_104 rfl rfl rfl ?_
          refine e_getI (q := 108) (jz := 10) dX10_passOne_105 rfl fg_X10_59 rfl (by first | assumption | rfl) rfl ?_
          refine e_if_ne (q := 111) (tgt := 117) dX10_passOne_108 rfl (by decide) (fun c108 => ?_) (fun c108 => ?_) (hx := ⟨by rw [eL10]; omega, by rw [eL10]; omega⟩)
          · refine e_iconst (q := 118) dX10_passOne_117 rfl ?_
            refine e_istore_n (q := 119) (i := 3) (L' := [_, _, _, _, _, _]) dX10_passOne_118 rfl rfl (by decide) rfl rfl ?_
            rw [eL10] at c108
            obtain ⟨b, eb⟩ : ∃ b : Yd, b = yBeats (lawV σ) (σ.1 7) (σ.1 (L + 2)) (edS σ) (σ.1 9) (σ.1 10) (σ.1 11) (σ.1 L 8) (σ.1 L 9) wt ((σ.1 2 4)).toNat (ydv σ L) := ⟨_, rfl⟩
            have hbY : b.2.2.2.2 = σ.1 L 6 := by rw [eb]; exact yBeats_ye _ _ _ _ _ _ _ _ _ _ _ _
            have hres : yYear (lawV σ) (σ.1 7) (σ.1 (L + 2)) (edS σ) (σ.1 9) (σ.1 10) (σ.1 11) (gOv (σ.1 3) (σ.1 4)) (σ.1 2 4) (σ.1 2 2) (σ.1 2 3) (σ.1 L 8) (σ.1 L 9) (σ.1 L 10) (σ.1 2 5) wt (ydv σ L) = ((yGrow (lawV σ) (σ.1 7) wt ((σ.1 2 3)).toNat b).1, (yGrow (lawV σ) (σ.1 7) wt ((σ.1 2 3)).toNat b).2.1, (yGrow (lawV σ) (σ.1 7) wt ((σ.1 2 3)).toNat b).2.2.1, (yGrow (lawV σ) (σ.1 7) wt ((σ.1 2 3)).toNat b).2.2.2.1, (yGrow (lawV σ) (σ.1 7) wt ((σ.1 2 3)).toNat b).2.2.2.2 + 1) := by
              unfold yYear
              rw [if_neg hbr]
              dsimp only
              rw [if_neg c108, eb]
            have lg : ∀ (n : Nat) (τ : Sg) (x4 x5 : Option Value) (i : Int), 0 ≤ i → i + n = (σ.1 2 3) → Lp σ τ L (yGrow (lawV σ) (σ.1 7) wt i.toNat b) → J G 6 mX10_passOne (pV (fun σ' => Lp σ σ' L (yYear (lawV σ) (σ.1 7) (σ.1 (L + 2)) (edS σ) (σ.1 9) (σ.1 10) (σ.1 11) (gOv (σ.1 3) (σ.1 4)) (σ.1 2 4) (σ.1 2 2) (σ.1 2 3) (σ.1 L 8) (σ.1 L 9) (σ.1 L 10) (σ.1 2 5) wt (ydv σ L)))) τ 119 [some (.ref (G.2.2.2 + 54)), some (.ref (G.2.2.2 + L)), some (.int (iZ wt)), some (.int (iZ i)), x4, x5] [] := by
              intro n
              induction n with
              | zero =>
                intro τ x4 x5 i h0 hn hlp
                have hT' := hlp.TI hL hT
                have hW' := hlp.LW hL hW
                have hI' := hlp.2.2.2.2
                have n3 : τ.1 2 3 = (σ.1 2 3) := by rw [hlp.c hL (by decide) (by decide)]
                refine e_iload_n (q := 120) (i := 3) dX10_passOne_119 rfl rfl rfl ?_
                refine e_aload_n (q := 121) (i := 0) dX10_passOne_120 rfl rfl rfl ?_
                refine e_getR (q := 124) dX10_passOne_121 rfl fg_X10_9 (by first | assumption | rfl) rfl ?_
                refine e_getI (q := 127) (jz := 3) dX10_passOne_124 rfl fg_X10_92 rfl (by first | assumption | rfl) rfl ?_
                refine e_icmp_ge (q := 130) (tgt := 201) dX10_passOne_127 rfl (by decide) (fun c127 => ?_) (fun c127 => absurd (by omega) c127)
                have ei : i = (σ.1 2 3) := by omega
                subst ei
                have hyr := hI'.2.2.2.1
                have eY : τ.1 L 6 = (yGrow (lawV σ) (σ.1 7) wt ((σ.1 2 3)).toNat b).2.2.2.2 := congrArg (fun y : Yd => y.2.2.2.2) hlp.2.1
                have hY1 : τ.1 L 6 < 100000 := by rw [eY, (yGrow_ye _ _ _ _ _).1, hbY]; exact hY
                refine e_aload_n (q := 202) (i := 1) dX10_passOne_201 rfl rfl rfl ?_
                refine e_dup (q := 203) dX10_passOne_202 rfl rfl ?_
                refine e_getI (q := 206) (jz := 6) dX10_passOne_203 rfl fg_X10_63 rfl (by first | assumption | rfl) rfl ?_
                refine e_iconst (q := 207) dX10_passOne_206 rfl ?_
                refine e_iadd (q := 208) dX10_passOne_207 rfl ?_
                refine e_putI (q := 211) (jz := 6) dX10_passOne_208 rfl fp_X10_63 rfl (by first | assumption | rfl) rfl ?_
                exact r_v dX10_passOne_211 rfl (by rw [hres]; have q := hlp.year (V := τ.1 L 6 + 1) ⟨by omega, by omega⟩; rw [eY] at q ⊢; exact q)
              | succ n ih =>
                intro τ x4 x5 i h0 hn hlp
                have hT' := hlp.TI hL hT
                have hW' := hlp.LW hL hW
                have hI' := hlp.2.2.2.2
                have n3 : τ.1 2 3 = (σ.1 2 3) := by rw [hlp.c hL (by decide) (by decide)]
                refine e_iload_n (q := 120) (i := 3) dX10_passOne_119 rfl rfl rfl ?_
                refine e_aload_n (q := 121) (i := 0) dX10_passOne_120 rfl rfl rfl ?_
                refine e_getR (q := 124) dX10_passOne_121 rfl fg_X10_9 (by first | assumption | rfl) rfl ?_
                refine e_getI (q := 127) (jz := 3) dX10_passOne_124 rfl fg_X10_92 rfl (by first | assumption | rfl) rfl ?_
                refine e_icmp_ge (q := 130) (tgt := 201) dX10_passOne_127 rfl (by decide) (fun c127 => absurd c127 (by omega)) (fun c127 => ?_)
                have hb := hI'.2.1 i h0 (by omega)
                have hm := hch i h0 (by omega)
                refine e_aload_n (q := 131) (i := 1) dX10_passOne_130 rfl rfl rfl ?_
                refine e_getR (q := 134) dX10_passOne_131 rfl fg_X10_95 (by first | assumption | rfl) rfl ?_
                refine e_iload_n (q := 135) (i := 3) dX10_passOne_134 rfl rfl rfl ?_
                refine e_aload_n (q := 136) (i := 1) dX10_passOne_135 rfl rfl rfl ?_
                refine e_getR (q := 139) dX10_passOne_136 rfl fg_X10_95 (by first | assumption | rfl) rfl ?_
                refine e_iload_n (q := 140) (i := 3) dX10_passOne_139 rfl rfl rfl ?_
                refine e_iald (q := 141) dX10_passOne_140 rfl (by first | assumption | rfl) ?_
                refine e_iconst (q := 142) dX10_passOne_141 rfl ?_
                refine e_isub (q := 143) dX10_passOne_142 rfl ?_
                refine e_iconst (q := 144) dX10_passOne_143 rfl ?_
                refine e_mmax (q := 147) dX10_passOne_144 rfl ml_X10_98 mw_max_s mw_max_c mw_init (Nat.le_of_ble_eq_true rfl) (by decide) ?_ (hx := ⟨by omega, by omega⟩)
                refine e_iast (q := 148) dX10_passOne_147 rfl (by first | assumption | rfl) ?_
                have hlp2 := hlp.tired (V := max (τ.1 (L + 4) i - 1) 0) i ⟨by omega, by omega⟩
                have eL3 : τ.1 (L + 3) = (yGrow (lawV σ) (σ.1 7) wt i.toNat b).2.1 := congrArg (fun y : Yd => y.2.1) hlp.2.1
                have eL4 : τ.1 (L + 4) = (yGrow (lawV σ) (σ.1 7) wt i.toNat b).2.2.1 := congrArg (fun y : Yd => y.2.2.1) hlp.2.1
                have eY : τ.1 L 6 = (yGrow (lawV σ) (σ.1 7) wt i.toNat b).2.2.2.2 := congrArg (fun y : Yd => y.2.2.2.2) hlp.2.1
                have hyr := hI'.2.2.2.1
                refine e_aload_n (q := 149) (i := 0) dX10_passOne_148 rfl rfl rfl ?_
                refine e_aload_n (q := 150) (i := 1) dX10_passOne_149 rfl rfl rfl ?_
                refine e_iload_n (q := 151) (i := 3) dX10_passOne_150 rfl rfl rfl ?_
                refine e_iload_n (q := 152) (i := 2) dX10_passOne_151 rfl rfl rfl ?_
                refine e_Vl (q := 155) (vs := [_, _, _]) ok_X10_grow ml_X10_104 dX10_passOne_152 rfl ⟨_, _, rfl⟩ (by first | assumption | rfl) rfl rfl (Nat.le_of_ble_eq_true rfl) (by decide) (c_X10_grow (hlp2.TI hL hT) (hlp2.LW hL hW) hlp2.2.2.2.2 hL h0 (by omega) hwt) (fun z152 s152 h152 => ?_)
                have ez : z152 = lawV σ 2 (nmF ((yGrow (lawV σ) (σ.1 7) wt i.toNat b).2.1 i) (σ.1 7 i) (max ((yGrow (lawV σ) (σ.1 7) wt i.toNat b).2.2.1 i - 1) 0) 0 wt 0 (yGrow (lawV σ) (σ.1 7) wt i.toNat b).2.2.2.2) := by
                  rw [h152.1, hlp2.lawV hL]
                  have q3 : (sI τ (L + 4) i (max (τ.1 (L + 4) i - 1) 0)).1 (L + 3) = τ.1 (L + 3) := sI_ne _ (by omega) _ _
                  have q0 : (sI τ (L + 4) i (max (τ.1 (L + 4) i - 1) 0)).1 L = τ.1 L := sI_ne _ (by omega) _ _
                  rw [q3, q0, sI_uf, hlp2.c hL (a := 7) (by decide) (by decide), eL3, eY]
                  unfold uf
                  rw [if_pos rfl, eL4]
                rw [eL3, eL4] at hb
                rw [eY] at hyr
                have hll := law_lim hW (r := 2) (by decide) (by decide) (nm := nmF ((yGrow (lawV σ) (σ.1 7) wt i.toNat b).2.1 i) (σ.1 7 i) (max ((yGrow (lawV σ) (σ.1 7) wt i.toNat b).2.2.1 i - 1) 0) 0 wt 0 (yGrow (lawV σ) (σ.1 7) wt i.toNat b).2.2.2.2) (by refine nmF_lim ⟨⟨?_, ?_⟩, ⟨?_, ?_⟩, ⟨?_, ?_⟩, ⟨?_, ?_⟩, ⟨?_, ?_⟩, ⟨?_, ?_⟩, ⟨?_, ?_⟩⟩ <;> omega)
                rw [← ez] at hll
                have hzR : R64 z152 := ⟨by omega, by omega⟩
                have hlp3 := hlp2.aside hL h152.2
                have e33 : s152.1 (L + 3) = (yGrow (lawV σ) (σ.1 7) wt i.toNat b).2.1 := congrArg (fun y : Yd => y.2.1) hlp3.2.1
                have e33i : s152.1 (L + 3) i = (yGrow (lawV σ) (σ.1 7) wt i.toNat b).2.1 i := by rw [e33]
                refine e_lstore (q := 157) (L' := [_, _, _, _, _, _]) dX10_passOne_155 rfl (by decide) rfl rfl ?_
                refine e_lload (q := 159) dX10_passOne_157 rfl rfl ?_
                refine e_ldc2 (q := 162) (z := -9223372036854775808) dX10_passOne_159 rfl kw_X10_108 (by decide) ?_
                refine e_lcmp (q := 163) dX10_passOne_162 rfl hzR ⟨by omega, by omega⟩ ?_
                refine e_if_eq (q := 166) (tgt := 195) dX10_passOne_163 rfl (by decide) (fun c163 => ?_) (fun c163 => ?_)
                · refine e_iinc (q := 198) (L' := [_, _, _, _, _, _]) dX10_passOne_195 rfl rfl (by decide) rfl rfl ?_
                  refine e_goto (tgt := 119) dX10_passOne_198 (by decide) ?_
                  refine ih _ _ _ _ (by omega) (by omega) ?_
                  rw [yGrow_succ _ _ _ h0]
                  unfold yGrow1
                  rw [if_pos (by rw [← ez]; omega)]
                  rw [eL4] at hlp3
                  exact hlp3
                · refine e_aload_n (q := 167) (i := 1) dX10_passOne_166 rfl rfl rfl ?_
                  refine e_getR (q := 170) dX10_passOne_167 rfl fg_X10_110 (by first | assumption | rfl) rfl ?_
                  refine e_iload_n (q := 171) (i := 3) dX10_passOne_170 rfl rfl rfl ?_
                  refine e_aload_n (q := 172) (i := 1) dX10_passOne_171 rfl rfl rfl ?_
                  refine e_getR (q := 175) dX10_passOne_172 rfl fg_X10_110 (by first | assumption | rfl) rfl ?_
                  refine e_iload_n (q := 176) (i := 3) dX10_passOne_175 rfl rfl rfl ?_
                  refine e_iald (q := 177) dX10_passOne_176 rfl (by first | assumption | rfl) ?_
                  refine e_lload (q := 179) dX10_passOne_177 rfl rfl ?_
                  refine e_bipush (q := 181) dX10_passOne_179 rfl (by decide) ?_
                  refine e_bipush (q := 183) dX10_passOne_181 rfl (by decide) ?_
                  refine e_Sip (q := 186) (vs := [_, _, _]) ok_X10_within ml_X10_113 dX10_passOne_183 rfl rfl rfl (Nat.le_of_ble_eq_true rfl) (by decide) (c_X10_within hzR ⟨by omega, by omega⟩ ⟨by omega, by omega⟩) ?_
                  refine e_iadd (q := 187) dX10_passOne_186 rfl ?_
                  have hg9 : -9 ≤ gWi z152 (-9) 9 ∧ gWi z152 (-9) 9 ≤ 9 := by unfold gWi; omega
                  rw [e33i]
                  refine e_i2l (q := 188) dX10_passOne_187 rfl ⟨by omega, by omega⟩ ?_
                  refine e_iconst (q := 189) dX10_passOne_188 rfl ?_
                  refine e_bipush (q := 191) dX10_passOne_189 rfl (by decide) ?_
                  refine e_Sip (q := 194) (vs := [_, _, _]) ok_X10_within ml_X10_113 dX10_passOne_191 rfl rfl rfl (Nat.le_of_ble_eq_true rfl) (by decide) (c_X10_within ⟨by omega, by omega⟩ ⟨by omega, by omega⟩ ⟨by omega, by omega⟩) ?_
                  refine e_iast (q := 195) dX10_passOne_194 rfl (by first | assumption | rfl) ?_
                  refine e_iinc (q := 198) (L' := [_, _, _, _, _, _]) dX10_passOne_195 rfl rfl (by decide) rfl rfl ?_
                  refine e_goto (tgt := 119) dX10_passOne_198 (by decide) ?_
                  refine ih _ _ _ _ (by omega) (by omega) ?_
                  rw [yGrow_succ _ _ _ h0]
                  unfold yGrow1
                  rw [if_neg (by rw [← ez]; omega), ← ez]
                  rw [eL4] at hlp3
                  exact hlp3.legs i (by unfold gWi; omega)
            refine lg ((σ.1 2 3)).toNat _ _ _ 0 (by omega) (by omega) ?_
            rw [eb]
            exact hlp
          · refine e_aload_n (q := 112) (i := 0) dX10_passOne_111 rfl rfl rfl ?_
            refine e_aload_n (q := 113) (i := 1) dX10_passOne_112 rfl rfl rfl ?_
            refine e_iload_n (q := 114) (i := 2) dX10_passOne_113 rfl rfl rfl ?_
            refine e_Vv (q := 117) (vs := [_, _]) ok_X10_quarrelAll ml_X10_89 dX10_passOne_114 rfl ⟨_, _, rfl⟩ (by first | assumption | rfl) rfl rfl (Nat.le_of_ble_eq_true rfl) (by decide) (c_X10_quarrelAll hT' hW' hI' hL hwt) (fun s114 h114 => ?_)
            refine e_iconst (q := 118) dX10_passOne_117 rfl ?_
            refine e_istore_n (q := 119) (i := 3) (L' := [_, _, _, _, _, _]) dX10_passOne_118 rfl rfl (by decide) rfl rfl ?_
            rw [eL10] at c108
            obtain ⟨b, eb⟩ : ∃ b : Yd, b = ((yBeats (lawV σ) (σ.1 7) (σ.1 (L + 2)) (edS σ) (σ.1 9) (σ.1 10) (σ.1 11) (σ.1 L 8) (σ.1 L 9) wt ((σ.1 2 4)).toNat (ydv σ L)).1, (yBeats (lawV σ) (σ.1 7) (σ.1 (L + 2)) (edS σ) (σ.1 9) (σ.1 10) (σ.1 11) (σ.1 L 8) (σ.1 L 9) wt ((σ.1 2 4)).toNat (ydv σ L)).2.1, (yBeats (lawV σ) (σ.1 7) (σ.1 (L + 2)) (edS σ) (σ.1 9) (σ.1 10) (σ.1 11) (σ.1 L 8) (σ.1 L 9) wt ((σ.1 2 4)).toNat (ydv σ L)).2.2.1, qOut (lawV σ) (gOv (σ.1 3) (σ.1 4) (yBeats (lawV σ) (σ.1 7) (σ.1 (L + 2)) (edS σ) (σ.1 9) (σ.1 10) (σ.1 11) (σ.1 L 8) (σ.1 L 9) wt ((σ.1 2 4)).toNat (ydv σ L)).1) wt (yBeats (lawV σ) (σ.1 7) (σ.1 (L + 2)) (edS σ) (σ.1 9) (σ.1 10) (σ.1 11) (σ.1 L 8) (σ.1 L 9) wt ((σ.1 2 4)).toNat (ydv σ L)).2.2.2.2 (σ.1 2 2) (σ.1 2 2).toNat (yBeats (lawV σ) (σ.1 7) (σ.1 (L + 2)) (edS σ) (σ.1 9) (σ.1 10) (σ.1 11) (σ.1 L 8) (σ.1 L 9) wt ((σ.1 2 4)).toNat (ydv σ L)).2.2.2.1, (yBeats (lawV σ) (σ.1 7) (σ.1 (L + 2)) (edS σ) (σ.1 9) (σ.1 10) (σ.1 11) (σ.1 L 8) (σ.1 L 9) wt ((σ.1 2 4)).toNat (ydv σ L)).2.2.2.2) := ⟨_, rfl⟩
            have hbY : b.2.2.2.2 = σ.1 L 6 := by rw [eb]; exact yBeats_ye _ _ _ _ _ _ _ _ _ _ _ _
            have hres : yYear (lawV σ) (σ.1 7) (σ.1 (L + 2)) (edS σ) (σ.1 9) (σ.1 10) (σ.1 11) (gOv (σ.1 3) (σ.1 4)) (σ.1 2 4) (σ.1 2 2) (σ.1 2 3) (σ.1 L 8) (σ.1 L 9) (σ.1 L 10) (σ.1 2 5) wt (ydv σ L) = ((yGrow (lawV σ) (σ.1 7) wt ((σ.1 2 3)).toNat b).1, (yGrow (lawV σ) (σ.1 7) wt ((σ.1 2 3)).toNat b).2.1, (yGrow (lawV σ) (σ.1 7) wt ((σ.1 2 3)).toNat b).2.2.1, (yGrow (lawV σ) (σ.1 7) wt ((σ.1 2 3)).toNat b).2.2.2.1, (yGrow (lawV σ) (σ.1 7) wt ((σ.1 2 3)).toNat b).2.2.2.2 + 1) := by
              unfold yYear
              rw [if_neg hbr]
              dsimp only
              rw [if_pos c108, eb]
            have lg : ∀ (n : Nat) (τ : Sg) (x4 x5 : Option Value) (i : Int), 0 ≤ i → i + n = (σ.1 2 3) → Lp σ τ L (yGrow (lawV σ) (σ.1 7) wt i.toNat b) → J G 6 mX10_passOne (pV (fun σ' => Lp σ σ' L (yYear (lawV σ) (σ.1 7) (σ.1 (L + 2)) (edS σ) (σ.1 9) (σ.1 10) (σ.1 11) (gOv (σ.1 3) (σ.1 4)) (σ.1 2 4) (σ.1 2 2) (σ.1 2 3) (σ.1 L 8) (σ.1 L 9) (σ.1 L 10) (σ.1 2 5) wt (ydv σ L)))) τ 119 [some (.ref (G.2.2.2 + 54)), some (.ref (G.2.2.2 + L)), some (.int (iZ wt)), some (.int (iZ i)), x4, x5] [] := by
              intro n
              induction n with
              | zero =>
                intro τ x4 x5 i h0 hn hlp
                have hT' := hlp.TI hL hT
                have hW' := hlp.LW hL hW
                have hI' := hlp.2.2.2.2
                have n3 : τ.1 2 3 = (σ.1 2 3) := by rw [hlp.c hL (by decide) (by decide)]
                refine e_iload_n (q := 120) (i := 3) dX10_passOne_119 rfl rfl rfl ?_
                refine e_aload_n (q := 121) (i := 0) dX10_passOne_120 rfl rfl rfl ?_
                refine e_getR (q := 124) dX10_passOne_121 rfl fg_X10_9 (by first | assumption | rfl) rfl ?_
                refine e_getI (q := 127) (jz := 3) dX10_passOne_124 rfl fg_X10_92 rfl (by first | assumption | rfl) rfl ?_
                refine e_icmp_ge (q := 130) (tgt := 201) dX10_passOne_127 rfl (by decide) (fun c127 => ?_) (fun c127 => absurd (by omega) c127)
                have ei : i = (σ.1 2 3) := by omega
                subst ei
                have hyr := hI'.2.2.2.1
                have eY : τ.1 L 6 = (yGrow (lawV σ) (σ.1 7) wt ((σ.1 2 3)).toNat b).2.2.2.2 := congrArg (fun y : Yd => y.2.2.2.2) hlp.2.1
                have hY1 : τ.1 L 6 < 100000 := by rw [eY, (yGrow_ye _ _ _ _ _).1, hbY]; exact hY
                refine e_aload_n (q := 202) (i := 1) dX10_passOne_201 rfl rfl rfl ?_
                refine e_dup (q := 203) dX10_passOne_202 rfl rfl ?_
                refine e_getI (q := 206) (jz := 6) dX10_passOne_203 rfl fg_X10_63 rfl (by first | assumption | rfl) rfl ?_
                refine e_iconst (q := 207) dX10_passOne_206 rfl ?_
                refine e_iadd (q := 208) dX10_passOne_207 rfl ?_
                refine e_putI (q := 211) (jz := 6) dX10_passOne_208 rfl fp_X10_63 rfl (by first | assumption | rfl) rfl ?_
                exact r_v dX10_passOne_211 rfl (by rw [hres]; have q := hlp.year (V := τ.1 L 6 + 1) ⟨by omega, by omega⟩; rw [eY] at q ⊢; exact q)
              | succ n ih =>
                intro τ x4 x5 i h0 hn hlp
                have hT' := hlp.TI hL hT
                have hW' := hlp.LW hL hW
                have hI' := hlp.2.2.2.2
                have n3 : τ.1 2 3 = (σ.1 2 3) := by rw [hlp.c hL (by decide) (by decide)]
                refine e_iload_n (q := 120) (i := 3) dX10_passOne_119 rfl rfl rfl ?_
                refine e_aload_n (q := 121) (i := 0) dX10_passOne_120 rfl rfl rfl ?_
                refine e_getR (q := 124) dX10_passOne_121 rfl fg_X10_9 (by first | assumption | rfl) rfl ?_
                refine e_getI (q := 127) (jz := 3) dX10_passOne_124 rfl fg_X10_92 rfl (by first | assumption | rfl) rfl ?_
                refine e_icmp_ge (q := 130) (tgt := 201) dX10_passOne_127 rfl (by decide) (fun c127 => absurd c127 (by omega)) (fun c127 => ?_)
                have hb := hI'.2.1 i h0 (by omega)
                have hm := hch i h0 (by omega)
                refine e_aload_n (q := 131) (i := 1) dX10_passOne_130 rfl rfl rfl ?_
                refine e_getR (q := 134) dX10_passOne_131 rfl fg_X10_95 (by first | assumption | rfl) rfl ?_
                refine e_iload_n (q := 135) (i := 3) dX10_passOne_134 rfl rfl rfl ?_
                refine e_aload_n (q := 136) (i := 1) dX10_passOne_135 rfl rfl rfl ?_
                refine e_getR (q := 139) dX10_passOne_136 rfl fg_X10_95 (by first | assumption | rfl) rfl ?_
                refine e_iload_n (q := 140) (i := 3) dX10_passOne_139 rfl rfl rfl ?_
                refine e_iald (q := 141) dX10_passOne_140 rfl (by first | assumption | rfl) ?_
                refine e_iconst (q := 142) dX10_passOne_141 rfl ?_
                refine e_isub (q := 143) dX10_passOne_142 rfl ?_
                refine e_iconst (q := 144) dX10_passOne_143 rfl ?_
                refine e_mmax (q := 147) dX10_passOne_144 rfl ml_X10_98 mw_max_s mw_max_c mw_init (Nat.le_of_ble_eq_true rfl) (by decide) ?_ (hx := ⟨by omega, by omega⟩)
                refine e_iast (q := 148) dX10_passOne_147 rfl (by first | assumption | rfl) ?_
                have hlp2 := hlp.tired (V := max (τ.1 (L + 4) i - 1) 0) i ⟨by omega, by omega⟩
                have eL3 : τ.1 (L + 3) = (yGrow (lawV σ) (σ.1 7) wt i.toNat b).2.1 := congrArg (fun y : Yd => y.2.1) hlp.2.1
                have eL4 : τ.1 (L + 4) = (yGrow (lawV σ) (σ.1 7) wt i.toNat b).2.2.1 := congrArg (fun y : Yd => y.2.2.1) hlp.2.1
                have eY : τ.1 L 6 = (yGrow (lawV σ) (σ.1 7) wt i.toNat b).2.2.2.2 := congrArg (fun y : Yd => y.2.2.2.2) hlp.2.1
                have hyr := hI'.2.2.2.1
                refine e_aload_n (q := 149) (i := 0) dX10_passOne_148 rfl rfl rfl ?_
                refine e_aload_n (q := 150) (i := 1) dX10_passOne_149 rfl rfl rfl ?_
                refine e_iload_n (q := 151) (i := 3) dX10_passOne_150 rfl rfl rfl ?_
                refine e_iload_n (q := 152) (i := 2) dX10_passOne_151 rfl rfl rfl ?_
                refine e_Vl (q := 155) (vs := [_, _, _]) ok_X10_grow ml_X10_104 dX10_passOne_152 rfl ⟨_, _, rfl⟩ (by first | assumption | rfl) rfl rfl (Nat.le_of_ble_eq_true rfl) (by decide) (c_X10_grow (hlp2.TI hL hT) (hlp2.LW hL hW) hlp2.2.2.2.2 hL h0 (by omega) hwt) (fun z152 s152 h152 => ?_)
                have ez : z152 = lawV σ 2 (nmF ((yGrow (lawV σ) (σ.1 7) wt i.toNat b).2.1 i) (σ.1 7 i) (max ((yGrow (lawV σ) (σ.1 7) wt i.toNat b).2.2.1 i - 1) 0) 0 wt 0 (yGrow (lawV σ) (σ.1 7) wt i.toNat b).2.2.2.2) := by
                  rw [h152.1, hlp2.lawV hL]
                  have q3 : (sI τ (L + 4) i (max (τ.1 (L + 4) i - 1) 0)).1 (L + 3) = τ.1 (L + 3) := sI_ne _ (by omega) _ _
                  have q0 : (sI τ (L + 4) i (max (τ.1 (L + 4) i - 1) 0)).1 L = τ.1 L := sI_ne _ (by omega) _ _
                  rw [q3, q0, sI_uf, hlp2.c hL (a := 7) (by decide) (by decide), eL3, eY]
                  unfold uf
                  rw [if_pos rfl, eL4]
                rw [eL3, eL4] at hb
                rw [eY] at hyr
                have hll := law_lim hW (r := 2) (by decide) (by decide) (nm := nmF ((yGrow (lawV σ) (σ.1 7) wt i.toNat b).2.1 i) (σ.1 7 i) (max ((yGrow (lawV σ) (σ.1 7) wt i.toNat b).2.2.1 i - 1) 0) 0 wt 0 (yGrow (lawV σ) (σ.1 7) wt i.toNat b).2.2.2.2) (by refine nmF_lim ⟨⟨?_, ?_⟩, ⟨?_, ?_⟩, ⟨?_, ?_⟩, ⟨?_, ?_⟩, ⟨?_, ?_⟩, ⟨?_, ?_⟩, ⟨?_, ?_⟩⟩ <;> omega)
                rw [← ez] at hll
                have hzR : R64 z152 := ⟨by omega, by omega⟩
                have hlp3 := hlp2.aside hL h152.2
                have e33 : s152.1 (L + 3) = (yGrow (lawV σ) (σ.1 7) wt i.toNat b).2.1 := congrArg (fun y : Yd => y.2.1) hlp3.2.1
                have e33i : s152.1 (L + 3) i = (yGrow (lawV σ) (σ.1 7) wt i.toNat b).2.1 i := by rw [e33]
                refine e_lstore (q := 157) (L' := [_, _, _, _, _, _]) dX10_passOne_155 rfl (by decide) rfl rfl ?_
                refine e_lload (q := 159) dX10_passOne_157 rfl rfl ?_
                refine e_ldc2 (q := 162) (z := -9223372036854775808) dX10_passOne_159 rfl kw_X10_108 (by decide) ?_
                refine e_lcmp (q := 163) dX10_passOne_162 rfl hzR ⟨by omega, by omega⟩ ?_
                refine e_if_eq (q := 166) (tgt := 195) dX10_passOne_163 rfl (by decide) (fun c163 => ?_) (fun c163 => ?_)
                · refine e_iinc (q := 198) (L' := [_, _, _, _, _, _]) dX10_passOne_195 rfl rfl (by decide) rfl rfl ?_
                  refine e_goto (tgt := 119) dX10_passOne_198 (by decide) ?_
                  refine ih _ _ _ _ (by omega) (by omega) ?_
                  rw [yGrow_succ _ _ _ h0]
                  unfold yGrow1
                  rw [if_pos (by rw [← ez]; omega)]
                  rw [eL4] at hlp3
                  exact hlp3
                · refine e_aload_n (q := 167) (i := 1) dX10_passOne_166 rfl rfl rfl ?_
                  refine e_getR (q := 170) dX10_passOne_167 rfl fg_X10_110 (by first | assumption | rfl) rfl ?_
                  refine e_iload_n (q := 171) (i := 3) dX10_passOne_170 rfl rfl rfl ?_
                  refine e_aload_n (q := 172) (i := 1) dX10_passOne_171 rfl rfl rfl ?_
                  refine e_getR (q := 175) dX10_passOne_172 rfl fg_X10_110 (by first | assumption | rfl) rfl ?_
                  refine e_iload_n (q := 176) (i := 3) dX10_passOne_175 rfl rfl rfl ?_
                  refine e_iald (q := 177) dX10_passOne_176 rfl (by first | assumption | rfl) ?_
                  refine e_lload (q := 179) dX10_passOne_177 rfl rfl ?_
                  refine e_bipush (q := 181) dX10_passOne_179 rfl (by decide) ?_
                  refine e_bipush (q := 183) dX10_passOne_181 rfl (by decide) ?_
                  refine e_Sip (q := 186) (vs := [_, _, _]) ok_X10_within ml_X10_113 dX10_passOne_183 rfl rfl rfl (Nat.le_of_ble_eq_true rfl) (by decide) (c_X10_within hzR ⟨by omega, by omega⟩ ⟨by omega, by omega⟩) ?_
                  refine e_iadd (q := 187) dX10_passOne_186 rfl ?_
                  have hg9 : -9 ≤ gWi z152 (-9) 9 ∧ gWi z152 (-9) 9 ≤ 9 := by unfold gWi; omega
                  rw [e33i]
                  refine e_i2l (q := 188) dX10_passOne_187 rfl ⟨by omega, by omega⟩ ?_
                  refine e_iconst (q := 189) dX10_passOne_188 rfl ?_
                  refine e_bipush (q := 191) dX10_passOne_189 rfl (by decide) ?_
                  refine e_Sip (q := 194) (vs := [_, _, _]) ok_X10_within ml_X10_113 dX10_passOne_191 rfl rfl rfl (Nat.le_of_ble_eq_true rfl) (by decide) (c_X10_within ⟨by omega, by omega⟩ ⟨by omega, by omega⟩ ⟨by omega, by omega⟩) ?_
                  refine e_iast (q := 195) dX10_passOne_194 rfl (by first | assumption | rfl) ?_
                  refine e_iinc (q := 198) (L' := [_, _, _, _, _, _]) dX10_passOne_195 rfl rfl (by decide) rfl rfl ?_
                  refine e_goto (tgt := 119) dX10_passOne_198 (by decide) ?_
                  refine ih _ _ _ _ (by omega) (by omega) ?_
                  rw [yGrow_succ _ _ _ h0]
                  unfold yGrow1
                  rw [if_neg (by rw [← ez]; omega), ← ez]
                  rw [eL4] at hlp3
                  exact hlp3.legs i (by unfold gWi; omega)
            refine lg ((σ.1 2 3)).toNat _ _ _ 0 (by omega) (by omega) ?_
            rw [eb]
            have q := hlp.tr h114
            rw [hlp.lawV hL, hlp.c hL (a := 3) (by decide) (by decide), hlp.c hL (a := 4) (by decide) (by decide), n2] at q
            have f1 : τ.1 (L + 1) = (yBeats (lawV σ) (σ.1 7) (σ.1 (L + 2)) (edS σ) (σ.1 9) (σ.1 10) (σ.1 11) (σ.1 L 8) (σ.1 L 9) wt ((σ.1 2 4)).toNat (ydv σ L)).1 := congrArg (fun y : Yd => y.1) hlp.2.1
            have f3 : τ.1 (L + 3) = (yBeats (lawV σ) (σ.1 7) (σ.1 (L + 2)) (edS σ) (σ.1 9) (σ.1 10) (σ.1 11) (σ.1 L 8) (σ.1 L 9) wt ((σ.1 2 4)).toNat (ydv σ L)).2.1 := congrArg (fun y : Yd => y.2.1) hlp.2.1
            have f4 : τ.1 (L + 4) = (yBeats (lawV σ) (σ.1 7) (σ.1 (L + 2)) (edS σ) (σ.1 9) (σ.1 10) (σ.1 11) (σ.1 L 8) (σ.1 L 9) wt ((σ.1 2 4)).toNat (ydv σ L)).2.2.1 := congrArg (fun y : Yd => y.2.2.1) hlp.2.1
            have f5 : τ.1 L 5 = (yBeats (lawV σ) (σ.1 7) (σ.1 (L + 2)) (edS σ) (σ.1 9) (σ.1 10) (σ.1 11) (σ.1 L 8) (σ.1 L 9) wt ((σ.1 2 4)).toNat (ydv σ L)).2.2.2.1 := congrArg (fun y : Yd => y.2.2.2.1) hlp.2.1
            rw [f1, f3, f4, f5, eY] at q
            exact q
        | succ n ih =>
          intro τ x4 x5 i h0 hn hlp
          have hT' := hlp.TI hL hT
          have hB' := hlp.TB hL hB
          have hW' := hlp.LW hL hW
          have hI' := hlp.2.2.2.2
          have n4 : τ.1 2 4 = (σ.1 2 4) := by rw [hlp.c hL (by decide) (by decide)]
          have n2 : τ.1 2 2 = σ.1 2 2 := by rw [hlp.c hL (by decide) (by decide)]
          have e9 : τ.1 9 = σ.1 9 := hlp.c hL (by decide) (by decide)
          have e10 : τ.1 10 = σ.1 10 := hlp.c hL (by decide) (by decide)
          have e11 : τ.1 11 = σ.1 11 := hlp.c hL (by decide) (by decide)
          have e8 : τ.1 L 8 = σ.1 L 8 := hlp.2.2.1 8 (by decide) (by decide)
          have eL9 : τ.1 L 9 = σ.1 L 9 := hlp.2.2.1 9 (by decide) (by decide)
          have eL10 : τ.1 L 10 = σ.1 L 10 := hlp.2.2.1 10 (by decide) (by decide)
          have eY : τ.1 L 6 = (yBeats (lawV σ) (σ.1 7) (σ.1 (L + 2)) (edS σ) (σ.1 9) (σ.1 10) (σ.1 11) (σ.1 L 8) (σ.1 L 9) wt i.toNat (ydv σ L)).2.2.2.2 := congrArg (fun y : Yd => y.2.2.2.2) hlp.2.1
          have h8 := hI.2.2.2.2.2.1
          have h10 := hI.2.2.2.2.2.2.2
          have hyr := hI'.2.2.2.1
          refine e_iload_n (q := 35) (i := 3) dX10_passOne_34 rfl rfl rfl ?_
          refine e_aload_n (q := 36) (i := 0) dX10_passOne_35 rfl rfl rfl ?_
          refine e_getR (q := 39) dX10_passOne_36 rfl fg_X10_9 (by first | assumption | rfl) rfl ?_
          refine e_getI (q := 42) (jz := 4) dX10_passOne_39 rfl fg_X10_69 rfl (by first | assumption | rfl) rfl ?_
          refine e_icmp_ge (q := 45) (tgt := 104) dX10_passOne_42 rfl (by decide) (fun c42 => absurd c42 (by omega)) (fun c42 => ?_)
          refine e_aload_n (q := 46) (i := 0) dX10_passOne_45 rfl rfl rfl ?_
          refine e_getR (q := 49) dX10_passOne_46 rfl fg_X10_9 (by first | assumption | rfl) rfl ?_
          refine e_getR (q := 52) dX10_passOne_49 rfl fg_X10_72 (by first | assumption | rfl) rfl ?_
          refine e_iload_n (q := 53) (i := 3) dX10_passOne_52 rfl rfl rfl ?_
          refine e_iald (q := 54) dX10_passOne_53 rfl (by first | assumption | rfl) ?_
          refine e_istore (q := 56) (L' := [_, _, _, _, _, _]) dX10_passOne_54 rfl (by decide) rfl rfl ?_
          have hbi := hbt i h0 (by omega)
          have hBi := hB i h0 (by omega)
          rw [e10]
          refine e_aload_n (q := 57) (i := 0) dX10_passOne_56 rfl rfl rfl ?_
          refine e_getR (q := 60) dX10_passOne_57 rfl fg_X10_9 (by first | assumption | rfl) rfl ?_
          refine e_getR (q := 63) dX10_passOne_60 rfl fg_X10_76 (by first | assumption | rfl) rfl ?_
          refine e_iload_n (q := 64) (i := 3) dX10_passOne_63 rfl rfl rfl ?_
          refine e_iald (q := 65) dX10_passOne_64 rfl (by first | assumption | rfl) ?_
          refine e_aload_n (q := 66) (i := 1) dX10_passOne_65 rfl rfl rfl ?_
          refine e_getI (q := 69) (jz := 6) dX10_passOne_66 rfl fg_X10_63 rfl (by first | assumption | rfl) rfl ?_
          rw [e11]
          refine e_icmp_ne (q := 72) (tgt := 98) dX10_passOne_69 rfl (by decide) (fun c69 => ?_) (fun c69 => ?_) (hx := ⟨by omega, by omega⟩) (hy := ⟨by omega, by omega⟩)
          · refine e_iinc (q := 101) (L' := [_, _, _, _, _, _]) dX10_passOne_98 rfl rfl (by decide) rfl rfl ?_
            refine e_goto (tgt := 34) dX10_passOne_101 (by decide) ?_
            refine ih _ _ _ _ (by omega) (by omega) ?_
            rw [yBeats_succ _ _ _ _ _ _ _ _ _ _ h0, if_neg (fun q => c69 (by rw [eY]; exact q.1))]
            exact hlp
          · refine e_iload (q := 74) dX10_passOne_72 rfl rfl ?_
            refine e_aload_n (q := 75) (i := 1) dX10_passOne_74 rfl rfl rfl ?_
            refine e_getI (q := 78) (jz := 8) dX10_passOne_75 rfl fg_X10_79 rfl (by first | assumption | rfl) rfl ?_
            rw [e8]
            refine e_icmp_eq (q := 81) (tgt := 98) dX10_passOne_78 rfl (by decide) (fun c78 => ?_) (fun c78 => ?_) (hx := ⟨by omega, by omega⟩) (hy := ⟨by omega, by omega⟩)
            · refine e_iinc (q := 101) (L' := [_, _, _, _, _, _]) dX10_passOne_98 rfl rfl (by decide) rfl rfl ?_
              refine e_goto (tgt := 34) dX10_passOne_101 (by decide) ?_
              refine ih _ _ _ _ (by omega) (by omega) ?_
              rw [yBeats_succ _ _ _ _ _ _ _ _ _ _ h0, if_neg (fun q => q.2 c78)]
              exact hlp
            · refine e_aload_n (q := 82) (i := 0) dX10_passOne_81 rfl rfl rfl ?_
              refine e_aload_n (q := 83) (i := 1) dX10_passOne_82 rfl rfl rfl ?_
              refine e_iload (q := 85) dX10_passOne_83 rfl rfl ?_
              refine e_aload_n (q := 86) (i := 0) dX10_passOne_85 rfl rfl rfl ?_
              refine e_getR (q := 89) dX10_passOne_86 rfl fg_X10_9 (by first | assumption | rfl) rfl ?_
              refine e_getR (q := 92) dX10_passOne_89 rfl fg_X10_82 (by first | assumption | rfl) rfl ?_
              refine e_iload_n (q := 93) (i := 3) dX10_passOne_92 rfl rfl rfl ?_
              refine e_iald (q := 94) dX10_passOne_93 rfl (by first | assumption | rfl) ?_
              refine e_iload_n (q := 95) (i := 2) dX10_passOne_94 rfl rfl rfl ?_
              rw [e9]
              refine e_Vv (q := 98) (vs := [_, _, _, _]) ok_X10_lead ml_X10_85 dX10_passOne_95 rfl ⟨_, _, rfl⟩ (by first | assumption | rfl) rfl rfl (Nat.le_of_ble_eq_true rfl) (by decide) (c_X10_lead hT' hW' hI' hL (c := σ.1 10 i) (s := σ.1 9 i) (by omega) (by omega) (by omega) (by omega) hwt) (fun s95 h95 => ?_)
              refine e_iinc (q := 101) (L' := [_, _, _, _, _, _]) dX10_passOne_98 rfl rfl (by decide) rfl rfl ?_
              refine e_goto (tgt := 34) dX10_passOne_101 (by decide) ?_
              refine ih _ _ _ _ (by omega) (by omega) ?_
              rw [yBeats_succ _ _ _ _ _ _ _ _ _ _ h0, if_pos ⟨by rw [← eY]; exact c69, c78⟩]
              have q := hlp.tr h95
              rw [hlp.lawV hL, hlp.edS hL, hlp.ck hL, hlp.c hL (a := 7) (by decide) (by decide), eL9, hlp.2.1] at q
              exact q
      exact lb ((σ.1 2 4)).toNat _ _ _ 0 (by omega) (by omega) (Lp.rf hI)
    · refine e_aload_n (q := 22) (i := 1) dX10_passOne_21 rfl rfl rfl ?_
      refine e_dup (q := 23) dX10_passOne_22 rfl rfl ?_
      refine e_getI (q := 26) (jz := 6) dX10_passOne_23 rfl fg_X10_63 rfl (by first | assumption | rfl) rfl ?_
      refine e_iconst (q := 27) dX10_passOne_26 rfl ?_
      refine e_iadd (q := 28) dX10_passOne_27 rfl ?_
      refine e_putI (q := 31) (jz := 6) dX10_passOne_28 rfl fp_X10_63 rfl (by first | assumption | rfl) rfl ?_
      exact r_v dX10_passOne_31 rfl (by unfold yYear; rw [if_pos ⟨c4, by show σ.1 2 5 < σ.1 L 6; omega⟩]; exact (Lp.rf hI).year ⟨by omega, by omega⟩)

/-- years as they pass, with the number of the rain -/
def yPass (lv : Int → (Int → Int) → Int) (mo ck ed bs bc by_ : Int → Int) (ov : (Int → Int) → Int → Int → Int) (nb np nc un tl so lb rain w : Int) : Nat → Yd × Int → Yd × Int
  | 0, s => s
  | k + 1, s => (yYear lv mo ck ed bs bc by_ ov nb np nc un tl so lb (gWet rain (yPass lv mo ck ed bs bc by_ ov nb np nc un tl so lb rain w k s).2 w).1 (yPass lv mo ck ed bs bc by_ ov nb np nc un tl so lb rain w k s).1, (gWet rain (yPass lv mo ck ed bs bc by_ ov nb np nc un tl so lb rain w k s).2 w).2)
theorem yPass_succ (lv : Int → (Int → Int) → Int) (mo ck ed bs bc by_ : Int → Int) (ov : (Int → Int) → Int → Int → Int) (nb np nc un tl so lb rain w : Int) {k : Int} (h : 0 ≤ k) (s : Yd × Int) : yPass lv mo ck ed bs bc by_ ov nb np nc un tl so lb rain w (k + 1).toNat s = (yYear lv mo ck ed bs bc by_ ov nb np nc un tl so lb (gWet rain (yPass lv mo ck ed bs bc by_ ov nb np nc un tl so lb rain w k.toNat s).2 w).1 (yPass lv mo ck ed bs bc by_ ov nb np nc un tl so lb rain w k.toNat s).1, (gWet rain (yPass lv mo ck ed bs bc by_ ov nb np nc un tl so lb rain w k.toNat s).2 w).2) := by
  obtain ⟨m, rfl⟩ := Int.eq_ofNat_of_zero_le h
  rfl
theorem gWet_2 {rain n w : Int} (h0 : 0 ≤ n) (h1 : n ≤ 2147483647) : 0 ≤ (gWet rain n w).2 ∧ (gWet rain n w).2 ≤ 2147483647 := by
  have hx : 0 ≤ nx n ∧ nx n ≤ 2147483647 := by unfold nx; omega
  unfold gWet
  split
  · split
    · exact ⟨h0, h1⟩
    split
    · exact ⟨h0, h1⟩
    · exact hx
  split
  · exact ⟨h0, h1⟩
  split
  · exact ⟨h0, h1⟩
  · exact ⟨h0, h1⟩
theorem yYear_ye (lv : Int → (Int → Int) → Int) (mo ck ed bs bc by_ : Int → Int) (ov : (Int → Int) → Int → Int → Int) (nb np nc un tl so lb wet : Int) (y : Yd) : (yYear lv mo ck ed bs bc by_ ov nb np nc un tl so lb wet y).2.2.2.2 = y.2.2.2.2 + 1 := by
  unfold yYear
  split
  · rfl
  · dsimp only
    rw [(yGrow_ye _ _ _ _ _).1]
    split
    · dsimp only
      rw [yBeats_ye]
    · rw [yBeats_ye]
/-- a land behind some years: like Lp, with the number -/
def Ln (σ σ' : Sg) (L : Nat) (y : Yd × Int) : Prop := Fr [L, L + 1, L + 3, L + 4, 17, 55] σ σ' ∧ ydv σ' L = y.1 ∧ (∀ i, i ≠ 5 → i ≠ 6 → σ'.1 L i = σ.1 L i) ∧ σ'.2 L 7 = y.2 ∧ LI σ' L
theorem Ln.rf {σ : Sg} {L : Nat} (h : LI σ L) : Ln σ σ L (ydv σ L, σ.2 L 7) := ⟨Fr.rf _ _, rfl, fun _ _ _ => rfl, rfl, h⟩
theorem Ln.wet {σ τ : Sg} {L : Nat} {y : Yd × Int} (h : Ln σ τ L y) {v : Int} (hv : 0 ≤ v ∧ v ≤ 2147483647) : Ln σ (sJ τ L 7 v) L (y.1, v) := by
  obtain ⟨h1, h2, h3, h4, h5⟩ := h
  refine ⟨h1.sJ (by simp) _ _, h2, h3, ?_, ?_⟩
  · rw [sJ_2, if_pos ⟨rfl, rfl⟩]
  · obtain ⟨a, b, c, d, -, e⟩ := h5
    exact ⟨a, b, c, d, by rw [sJ_2, if_pos ⟨rfl, rfl⟩]; exact hv, e⟩
theorem Ln.lp {σ τ σ' : Sg} {L : Nat} {y : Yd × Int} {y' : Yd} (h : Ln σ τ L y) (h' : Lp τ σ' L y') : Ln σ σ' L (y', y.2) := ⟨h.1.tr h'.1, h'.2.1, fun i a b => (h'.2.2.1 i a b).trans (h.2.2.1 i a b), by rw [h'.2.2.2.1]; exact h.2.2.2.1, h'.2.2.2.2⟩
theorem g6T {σ τ : Sg} {L : Nat} (h : Fr [L, L + 1, L + 3, L + 4, 17, 55] σ τ) (hL : isLand L) (hT : TI σ) : TI τ := hT.fr h (nc_T hL)
theorem g6B {σ τ : Sg} {L : Nat} (h : Fr [L, L + 1, L + 3, L + 4, 17, 55] σ τ) (hL : isLand L) (hT : TB σ) : TB τ := hT.fr h (nc_T hL)
theorem g6W {σ τ : Sg} {L : Nat} (h : Fr [L, L + 1, L + 3, L + 4, 17, 55] σ τ) (hL : isLand L) (hT : LW σ) : LW τ := by
  refine hT.fr h ?_ ?_ ?_ <;> (intro q; simp only [List.mem_cons, List.not_mem_nil, or_false] at q; rcases hL with rfl | rfl | rfl | rfl <;> omega)
theorem g6V {σ τ : Sg} {L : Nat} (h : Fr [L, L + 1, L + 3, L + 4, 17, 55] σ τ) (hL : isLand L) : lawV τ = lawV σ := by
  funext r nm
  refine lawV.fr h ?_ ?_ ?_ r nm <;> (intro q; simp only [List.mem_cons, List.not_mem_nil, or_false] at q; rcases hL with rfl | rfl | rfl | rfl <;> omega)
theorem g6E {σ τ : Sg} {L : Nat} (h : Fr [L, L + 1, L + 3, L + 4, 17, 55] σ τ) (hL : isLand L) : edS τ = edS σ := by
  funext s
  exact edS.fr h (nc_T hL) s
theorem g6c {σ τ : Sg} {L : Nat} (h : Fr [L, L + 1, L + 3, L + 4, 17, 55] σ τ) (hL : isLand L) {a : Nat} (h1 : 2 ≤ a) (h2 : a ≤ 12) : τ.1 a = σ.1 a := (h a (nc_T hL a h1 h2)).1
theorem g6k {σ τ : Sg} {L : Nat} (h : Fr [L, L + 1, L + 3, L + 4, 17, 55] σ τ) (hL : isLand L) : τ.1 (L + 2) = σ.1 (L + 2) := by
  refine (h (L + 2) ?_).1
  intro q
  simp only [List.mem_cons, List.not_mem_nil, or_false] at q
  rcases hL with rfl | rfl | rfl | rfl <;> omega
theorem yPass_ye (lv : Int → (Int → Int) → Int) (mo ck ed bs bc by_ : Int → Int) (ov : (Int → Int) → Int → Int → Int) (nb np nc un tl so lb rain w : Int) : ∀ (k : Nat) (s : Yd × Int), (yPass lv mo ck ed bs bc by_ ov nb np nc un tl so lb rain w k s).1.2.2.2.2 = s.1.2.2.2.2 + k
  | 0, _ => by simp [yPass]
  | k + 1, s => by
    simp only [yPass]
    rw [yYear_ye, yPass_ye lv mo ck ed bs bc by_ ov nb np nc un tl so lb rain w k s]
    omega

set_option maxHeartbeats 4000000 in
theorem c_X10_pass {G : Gx} {σ : Sg} {L : Nat} {m w : Int} (hT : TI σ) (hB : TB σ) (hW : LW σ) (hI : LI σ L) (hL : isLand L) (hm0 : 0 ≤ m) (hm1 : m ≤ 100000) (hmY : σ.1 L 6 + m ≤ 100000) (hw0 : 0 ≤ w) (hw1 : w ≤ 3) : Con G 7 mX10_pass [.ref (G.2.2.2 + 54), .ref (G.2.2.2 + L), .int (iZ m), .int (iZ w)] σ (pV (fun σ' => Ln σ σ' L (yPass (lawV σ) (σ.1 7) (σ.1 (L + 2)) (edS σ) (σ.1 9) (σ.1 10) (σ.1 11) (gOv (σ.1 3) (σ.1 4)) (σ.1 2 4) (σ.1 2 2) (σ.1 2 3) (σ.1 L 8) (σ.1 L 9) (σ.1 L 10) (σ.1 2 5) (σ.1 2 6) w m.toNat (ydv σ L, σ.2 L 7)))) := by
  have y0 := ly0 hL
  have y1 := ly1 hL
  have y2 := ly2 hL
  have y3 := ly3 hL
  have y4 := ly4 hL
  obtain ⟨hzz, -, hnp, hnc, hnb, hlb, hrn, hsd, hrw, hrq, hch, hbt, hck⟩ := id hT
  have lp : ∀ (n : Nat) (τ : Sg) (i : Int), 0 ≤ i → i + n = m → Ln σ τ L (yPass (lawV σ) (σ.1 7) (σ.1 (L + 2)) (edS σ) (σ.1 9) (σ.1 10) (σ.1 11) (gOv (σ.1 3) (σ.1 4)) (σ.1 2 4) (σ.1 2 2) (σ.1 2 3) (σ.1 L 8) (σ.1 L 9) (σ.1 L 10) (σ.1 2 5) (σ.1 2 6) w i.toNat (ydv σ L, σ.2 L 7)) → J G 7 mX10_pass (pV (fun σ' => Ln σ σ' L (yPass (lawV σ) (σ.1 7) (σ.1 (L + 2)) (edS σ) (σ.1 9) (σ.1 10) (σ.1 11) (gOv (σ.1 3) (σ.1 4)) (σ.1 2 4) (σ.1 2 2) (σ.1 2 3) (σ.1 L 8) (σ.1 L 9) (σ.1 L 10) (σ.1 2 5) (σ.1 2 6) w m.toNat (ydv σ L, σ.2 L 7)))) τ 3 [some (.ref (G.2.2.2 + 54)), some (.ref (G.2.2.2 + L)), some (.int (iZ m)), some (.int (iZ w)), some (.int (iZ i))] [] := by
    intro n
    induction n with
    | zero =>
      intro τ i h0 hn hlp
      have hn2 := hlp.2.2.2.2.2.2.2.2.1
      have e2 : τ.1 2 = σ.1 2 := g6c hlp.1 hL (by decide) (by decide)
      have eN : τ.2 L 7 = (yPass (lawV σ) (σ.1 7) (σ.1 (L + 2)) (edS σ) (σ.1 9) (σ.1 10) (σ.1 11) (gOv (σ.1 3) (σ.1 4)) (σ.1 2 4) (σ.1 2 2) (σ.1 2 3) (σ.1 L 8) (σ.1 L 9) (σ.1 L 10) (σ.1 2 5) (σ.1 2 6) w i.toNat (ydv σ L, σ.2 L 7)).2 := hlp.2.2.2.1
      refine e_iload (q := 5) dX10_pass_3 rfl rfl ?_
      refine e_iload_n (q := 6) (i := 2) dX10_pass_5 rfl rfl rfl ?_
      refine e_icmp_ge (q := 9) (tgt := 26) dX10_pass_6 rfl (by decide) (fun c6 => ?_) (fun c6 => absurd (by omega) c6)
      have ei : i = m := by omega
      subst ei
      exact r_v dX10_pass_26 rfl hlp
    | succ n ih =>
      intro τ i h0 hn hlp
      have hn2 := hlp.2.2.2.2.2.2.2.2.1
      have e2 : τ.1 2 = σ.1 2 := g6c hlp.1 hL (by decide) (by decide)
      have eN : τ.2 L 7 = (yPass (lawV σ) (σ.1 7) (σ.1 (L + 2)) (edS σ) (σ.1 9) (σ.1 10) (σ.1 11) (gOv (σ.1 3) (σ.1 4)) (σ.1 2 4) (σ.1 2 2) (σ.1 2 3) (σ.1 L 8) (σ.1 L 9) (σ.1 L 10) (σ.1 2 5) (σ.1 2 6) w i.toNat (ydv σ L, σ.2 L 7)).2 := hlp.2.2.2.1
      refine e_iload (q := 5) dX10_pass_3 rfl rfl ?_
      refine e_iload_n (q := 6) (i := 2) dX10_pass_5 rfl rfl rfl ?_
      refine e_icmp_ge (q := 9) (tgt := 26) dX10_pass_6 rfl (by decide) (fun c6 => absurd c6 (by omega)) (fun c6 => ?_)
      refine e_aload_n (q := 10) (i := 0) dX10_pass_9 rfl rfl rfl ?_
      refine e_aload_n (q := 11) (i := 1) dX10_pass_10 rfl rfl rfl ?_
      refine e_aload_n (q := 12) (i := 0) dX10_pass_11 rfl rfl rfl ?_
      refine e_aload_n (q := 13) (i := 1) dX10_pass_12 rfl rfl rfl ?_
      refine e_iload_n (q := 14) (i := 3) dX10_pass_13 rfl rfl rfl ?_
      refine e_Vi (q := 17) (vs := [_, _]) ok_X10_isWet ml_X10_21 dX10_pass_14 rfl ⟨_, _, rfl⟩ (by first | assumption | rfl) rfl rfl (Nat.le_of_ble_eq_true rfl) (by decide) (c_X10_isWet (g6T hlp.1 hL hT) hL hn2.1 hn2.2 hw0 hw1) (fun z14 s14 h14 => ?_)
      obtain ⟨ez, es⟩ := h14
      subst es
      have hg := gWet_2 (rain := τ.1 2 6) (w := w) hn2.1 hn2.2
      have hl2 := hlp.wet hg
      have hz01 : z14 = 0 ∨ z14 = 1 := by rw [ez]; exact gWet_1 _ _ _
      have hYe : (sJ τ L 7 (gWet (τ.1 2 6) (τ.2 L 7) w).2).1 L 6 = σ.1 L 6 + i := by
        have q : (ydv τ L).2.2.2.2 = _ := congrArg (fun y : Yd => y.2.2.2.2) hlp.2.1
        rw [yPass_ye] at q
        have e : (ydv τ L).2.2.2.2 = τ.1 L 6 := rfl
        have e0 : (ydv σ L).2.2.2.2 = σ.1 L 6 := rfl
        show τ.1 L 6 = _
        rw [← e, q]
        show (ydv σ L).2.2.2.2 + _ = _
        rw [e0]
        omega
      refine e_Vv (q := 20) (vs := [_, _]) ok_X10_passOne ml_X10_25 dX10_pass_17 rfl ⟨_, _, rfl⟩ (by first | assumption | rfl) rfl rfl (Nat.le_of_ble_eq_true rfl) (by decide) (c_X10_passOne (g6T hl2.1 hL hT) (g6B hl2.1 hL hB) (g6W hl2.1 hL hW) hl2.2.2.2.2 hL hz01 (by rw [hYe]; omega)) (fun s17 h17 => ?_)
      refine e_iinc (q := 23) (L' := [_, _, _, _, _]) dX10_pass_20 rfl rfl (by decide) rfl rfl ?_
      refine e_goto (tgt := 3) dX10_pass_23 (by decide) ?_
      refine ih _ _ (by omega) (by omega) ?_
      have q := hl2.lp h17
      rw [yPass_succ _ _ _ _ _ _ _ _ _ _ _ _ _ _ _ _ _ h0]
      rw [g6V hl2.1 hL, g6E hl2.1 hL, g6k hl2.1 hL, g6c hl2.1 hL (a := 2) (by decide) (by decide), g6c hl2.1 hL (a := 3) (by decide) (by decide), g6c hl2.1 hL (a := 4) (by decide) (by decide), g6c hl2.1 hL (a := 7) (by decide) (by decide), g6c hl2.1 hL (a := 9) (by decide) (by decide), g6c hl2.1 hL (a := 10) (by decide) (by decide), g6c hl2.1 hL (a := 11) (by decide) (by decide), hl2.2.2.1 8 (by decide) (by decide), hl2.2.2.1 9 (by decide) (by decide), hl2.2.2.1 10 (by decide) (by decide), hl2.2.1, ez, e2, eN] at q
      exact q
  refine e_entry om_X10_pass (Nat.le_of_ble_eq_true rfl) (L := [some (.ref (G.2.2.2 + 54)), some (.ref (G.2.2.2 + L)), some (.int (iZ m)), some (.int (iZ w)), none]) rfl ?_
  refine e_iconst (q := 1) dX10_pass_0 rfl ?_
  refine e_istore (q := 3) (L' := [_, _, _, _, _]) dX10_pass_1 rfl (by decide) rfl rfl ?_
  exact lp m.toNat σ 0 (by omega) (by omega) (Ln.rf hI)

