def tkV (t : Tk) (v : Int) : Prop := (t.1 = 21 → v = t.2.2) ∧ (t.1 = 22 → 0 ≤ v ∧ min v 100000 = t.2.2) ∧ R32 v
def TS (σ σ' : Sg) (T : Tk × Int) : Prop := T19 σ σ' ∧ σ'.1 19 4 = T.1.1 ∧ σ'.1 19 5 = T.1.2.1 ∧ σ'.1 19 3 = T.2 ∧ tkV T.1 (σ'.1 19 6)
/-- the class stands at the first of these tokens -/
def CK (σ : Sg) (ts : List Tk) : Prop := (0 ≤ σ.1 19 2 ∧ σ.1 19 2 ≤ 700) ∧ (∀ i, 0 ≤ i → i < 21 → σ.1 20 i = wv i) ∧ ∃ t rest, ts = t :: rest ∧ σ.1 19 4 = t.1 ∧ σ.1 19 5 = t.2.1 ∧ tkV t (σ.1 19 6) ∧ (0 ≤ t.1 ∧ t.1 ≤ 37) ∧ (0 ≤ t.2.1 ∧ t.2.1 ≤ σ.1 19 2) ∧ (t.1 ≠ 37 → (0 ≤ σ.1 19 3 ∧ σ.1 19 3 ≤ σ.1 19 2) ∧ rest = tkl (cB σ) (σ.1 19 2) (σ.1 19 3))
theorem CK_of {σ σ' : Sg} {a : Int} (hn0 : 0 ≤ σ.1 19 2) (hn1 : σ.1 19 2 ≤ 700) (hCW : ∀ i, 0 ≤ i → i < 21 → σ.1 20 i = wv i) (ha0 : 0 ≤ a) (ha1 : a ≤ σ.1 19 2) (h : TS σ σ' (tok (cB σ) (σ.1 19 2) a)) : CK σ' (tkl (cB σ) (σ.1 19 2) a) := by
  have ht := tok_in (b := cB σ) ha0 ha1
  obtain ⟨hT, h4, h5, h3, hv⟩ := h
  refine ⟨by rw [hT.n]; exact ⟨hn0, hn1⟩, fun i p q => by rw [(hT.1 20 (by decide)).1]; exact hCW i p q, _, _, tkl_step ha0 ha1, h4, h5, hv, ht.1, by rw [hT.n]; exact ⟨by omega, by omega⟩, fun q => ?_⟩
  have h1 := ht.2.2.2.2.1 q
  rw [if_neg q, hT.b, hT.n, h3]
  exact ⟨⟨by omega, ht.2.2.2.1⟩, rfl⟩
theorem CK.n {σ : Sg} {ts : List Tk} (h : CK σ ts) : 0 ≤ σ.1 19 2 ∧ σ.1 19 2 ≤ 700 := h.1
/-- all that a step of the class's tokens may change -/
theorem CK.fr {σ τ : Sg} {ts : List Tk} {C : List Nat} (h : CK σ ts) (hF : Fr C σ τ) (h1 : 1 ∉ C) (h2 : 20 ∉ C) (h3 : ∀ j, j ≠ 7 → j ≠ 8 → τ.1 19 j = σ.1 19 j) : CK τ ts := by
  have eb : cB τ = cB σ := by unfold cB; rw [(hF 1 h1).1]
  unfold CK
  rw [eb, (hF 20 h2).1, h3 2 (by decide) (by decide), h3 3 (by decide) (by decide), h3 4 (by decide) (by decide), h3 5 (by decide) (by decide), h3 6 (by decide) (by decide)]
  exact h

/-- a contract's end, weakened -/
theorem Con_mono {G : Gx} {d : Nat} {M : Mt} {vs : List Value} {σ : Sg} {P Q : Option Value → Sg → Prop} (h : Con G d M vs σ P) (hPQ : ∀ r σ', P r σ' → Q r σ') : Con G d M vs σ Q := by
  unfold Con Met at h ⊢
  exact MetFree.mono h (fun _ _ q => q) (fun _ _ _ _ _ q => q) (fun a s o t _ hq => by
    obtain ⟨⟨⟨r, σ', e1, e2, e3⟩, hf⟩, hL⟩ := hq
    exact ⟨⟨⟨r, σ', e1, hPQ r σ' e2, e3⟩, hf⟩, hL⟩)

set_option maxHeartbeats 8000000 in
theorem c_X8_step {G : Gx} {σ : Sg} {a : Int} (hn0 : 0 ≤ (σ.1 19 2)) (hn1 : (σ.1 19 2) ≤ 700) (hCW : ∀ i, 0 ≤ i → i < 21 → σ.1 20 i = wv i) (ha0 : 0 ≤ a) (ha1 : a ≤ (σ.1 19 2)) (h3 : σ.1 19 3 = a) : Con G 4 mX8_step [.ref (G.2.2.2 + 19)] σ (pV (fun σ' => TS σ σ' (tok (cB σ) (σ.1 19 2) a))) := by
  have hsc := sc_in (P := isBl) (b := cB σ) (n := (σ.1 19 2)) (a := a)
  have hscn := hsc.2.1 ha1
  have fin : ∀ (τ : Sg) (p : Int), p = (sc isBl (cB σ) (σ.1 19 2) a) → T19 σ τ → τ.1 19 3 = p → J G 4 mX8_step (pV (fun σ' => TS σ σ' (tok (cB σ) (σ.1 19 2) a))) τ 50 [some (.ref (G.2.2.2 + 19)), none] [] := by
    intro τ p hp hT h3
    have hp0 : 0 ≤ p := by have := hsc.1; omega
    have hpn : p ≤ (σ.1 19 2) := by have := hsc.2.1 ha1; omega
    refine e_aload_n (q := 51) (i := 0) dX8_step_50 rfl rfl rfl ?_
    refine e_aload_n (q := 52) (i := 0) dX8_step_51 rfl rfl rfl ?_
    refine e_getI (q := 55) (jz := 3) dX8_step_52 rfl fg_X8_40 rfl (by first | assumption | rfl) rfl ?_
    rw [h3]
    refine e_putI (q := 58) (jz := 5) dX8_step_55 rfl fp_X8_49 rfl (by first | assumption | rfl) rfl ?_
    refine e_aload_n (q := 59) (i := 0) dX8_step_58 rfl rfl rfl ?_
    refine e_iconst (q := 60) dX8_step_59 rfl ?_
    refine e_putI (q := 63) (jz := 6) dX8_step_60 rfl fp_X8_56 rfl (by first | assumption | rfl) rfl ?_
    have h2T : T19 σ (sI (sI τ 19 5 p) 19 6 0) := (hT.s (by decide) _).s (by decide) _
    have h23 : (sI (sI τ 19 5 p) 19 6 0).1 19 3 = p := by rw [sI_1, if_neg (by decide), sI_1, if_neg (by decide)]; exact h3
    have h22 : (sI (sI τ 19 5 p) 19 6 0).1 19 2 = (σ.1 19 2) := h2T.n
    have h25 : (sI (sI τ 19 5 p) 19 6 0).1 19 5 = p := by rw [sI_1, if_neg (by decide), sI_1, if_pos ⟨rfl, rfl⟩]
    have h26 : (sI (sI τ 19 5 p) 19 6 0).1 19 6 = 0 := by rw [sI_1, if_pos ⟨rfl, rfl⟩]
    have h2b : cB (sI (sI τ 19 5 p) 19 6 0) = cB σ := h2T.b
    have h220 : ∀ i, 0 ≤ i → i < 21 → (sI (sI τ 19 5 p) 19 6 0).1 20 i = wv i := fun i u v => by rw [(h2T.1 20 (by decide)).1]; exact hCW i u v
    have hbp := by0_in (b := cB σ) (n := (σ.1 19 2)) (a := p) (cB_in σ)
    refine e_aload_n (q := 64) (i := 0) dX8_step_63 rfl rfl rfl ?_
    refine e_aload_n (q := 65) (i := 0) dX8_step_64 rfl rfl rfl ?_
    refine e_getI (q := 68) (jz := 3) dX8_step_65 rfl fg_X8_40 rfl (by first | assumption | rfl) rfl ?_
    rw [h23]
    refine e_Vip (q := 71) (vs := [_]) ok_X8_byteAt ml_X8_52 dX8_step_68 rfl ⟨_, _, rfl⟩ (by first | assumption | rfl) rfl rfl (Nat.le_of_ble_eq_true rfl) (by decide) (c_X8_byteAt (by rw [h22]; exact hn0) (by rw [h22]; exact hn1) (by omega) (by omega)) ?_
    rw [h2b, h22]
    refine e_istore_n (q := 72) (i := 1) (L' := [_, _]) dX8_step_71 rfl rfl (by decide) rfl rfl ?_
    refine e_aload_n (q := 73) (i := 0) dX8_step_72 rfl rfl rfl ?_
    refine e_getI (q := 76) (jz := 3) dX8_step_73 rfl fg_X8_40 rfl (by first | assumption | rfl) rfl ?_
    refine e_aload_n (q := 77) (i := 0) dX8_step_76 rfl rfl rfl ?_
    refine e_getI (q := 80) (jz := 2) dX8_step_77 rfl fg_X8_37 rfl (by first | assumption | rfl) rfl ?_
    rw [h23, h22]
    refine e_icmp_lt (q := 83) (tgt := 92) dX8_step_80 rfl (by decide) (fun c80 => ?_) (fun c80 => ?_) (hx := ⟨by omega, by omega⟩) (hy := ⟨by omega, by omega⟩)
    · refine e_iload_n (q := 93) (i := 1) dX8_step_92 rfl rfl rfl ?_
      have eby : by0 (cB σ) (σ.1 19 2) p = cB σ p := if_pos c80
      rw [eby]
      rw [eby] at hbp
      refine e_Sip (q := 96) (vs := [_]) ok_X8_isLetter ml_X8_62 dX8_step_93 rfl rfl rfl (Nat.le_of_ble_eq_true rfl) (by decide) (c_X8_isLetter ⟨by omega, by omega⟩) ?_
      refine e_if_eq (q := 99) (tgt := 110) dX8_step_96 rfl (by decide) (fun c96 => ?_) (fun c96 => ?_) (hx := by split <;> exact ⟨by decide, by decide⟩)
      · refine e_iload_n (q := 111) (i := 1) dX8_step_110 rfl rfl rfl ?_
        have hnl : ¬ isLt (cB σ p) := fun q => absurd ((if_pos q).symm.trans c96) (by decide)
        refine e_Sip (q := 114) (vs := [_]) ok_X8_isDigit ml_X8_70 dX8_step_111 rfl rfl rfl (Nat.le_of_ble_eq_true rfl) (by decide) (c_X8_isDigit ⟨by omega, by omega⟩) ?_
        refine e_if_eq (q := 117) (tgt := 128) dX8_step_114 rfl (by decide) (fun c114 => ?_) (fun c114 => ?_) (hx := by split <;> exact ⟨by decide, by decide⟩)
        · refine e_aload_n (q := 129) (i := 0) dX8_step_128 rfl rfl rfl ?_
          refine e_dup (q := 130) dX8_step_129 rfl rfl ?_
          refine e_getI (q := 133) (jz := 3) dX8_step_130 rfl fg_X8_40 rfl (by first | assumption | rfl) rfl ?_
          rw [h23]
          refine e_iconst (q := 134) dX8_step_133 rfl ?_
          refine e_iadd (q := 135) dX8_step_134 rfl ?_
          refine e_putI (q := 138) (jz := 3) dX8_step_135 rfl fp_X8_40 rfl (by first | assumption | rfl) rfl ?_
          refine e_aload_n (q := 139) (i := 0) dX8_step_138 rfl rfl rfl ?_
          refine e_aload_n (q := 140) (i := 0) dX8_step_139 rfl rfl rfl ?_
          refine e_iload_n (q := 141) (i := 1) dX8_step_140 rfl rfl rfl ?_
          have hnd : ¬ isDg (cB σ p) := fun q => absurd ((if_pos q).symm.trans c114) (by decide)
          have h3T : T19 σ (sI (sI (sI τ 19 5 p) 19 6 0) 19 3 (p + 1)) := h2T.s (by decide) _
          refine e_Vi (q := 144) (vs := [_]) ok_X8_signKind ml_X8_76 dX8_step_141 rfl ⟨_, _, rfl⟩ (by first | assumption | rfl) rfl rfl (Nat.le_of_ble_eq_true rfl) (by decide) (c_X8_signKind (p := p) (by rw [h3T.n]; exact hn0) (by rw [h3T.n]; exact hn1) (by omega) (by rw [h3T.n]; exact c80) hbp.1 hbp.2 (by rw [sI_1, if_pos ⟨rfl, rfl⟩])) (fun z141 s141 h141 => ?_)
          obtain ⟨hz, gT, g3, g4, g5, g6⟩ := h141
          rw [h3T.b, h3T.n] at hz g3
          refine e_putI (q := 147) (jz := 4) dX8_step_144 rfl fp_X8_59 rfl (by first | assumption | rfl) rfl ?_
          exact r_v dX8_step_147 rfl (by
    rw [tok_sg hp (by omega) hnl hnd]
    have hk := sgK_in (cB σ p) (by0 (cB σ) (σ.1 19 2) (p + 1))
    refine ⟨(h3T.tr gT).s (by decide) _, ?_, ?_, ?_, ?_⟩
    · rw [sI_1, if_pos ⟨rfl, rfl⟩]; exact hz
    · rw [sI_1, if_neg (by decide), g5, sI_1, if_neg (by decide)]; exact h25
    · rw [sI_1, if_neg (by decide)]; exact g3
    · rw [sI_1, if_neg (by decide), g6, sI_1, if_neg (by decide), h26]
      exact ⟨fun q => absurd (show sgK (cB σ p) (by0 (cB σ) (σ.1 19 2) (p + 1)) = 21 from q) (by omega), fun q => absurd (show sgK (cB σ p) (by0 (cB σ) (σ.1 19 2) (p + 1)) = 22 from q) (by omega), ⟨by decide, by decide⟩⟩)
        · refine e_aload_n (q := 118) (i := 0) dX8_step_117 rfl rfl rfl ?_
          refine e_aload_n (q := 119) (i := 0) dX8_step_118 rfl rfl rfl ?_
          have hd : isDg (cB σ p) := by
            refine Classical.byContradiction (fun q => c114 (if_neg q))
          refine e_Vi (q := 122) (vs := []) ok_X8_numberKind ml_X8_73 dX8_step_119 rfl ⟨_, _, rfl⟩ (by first | assumption | rfl) rfl rfl (Nat.le_of_ble_eq_true rfl) (by decide) (c_X8_numberKind (p := p) (by rw [h22]; exact hn0) (by rw [h22]; exact hn1) (by omega) (by rw [h22]; exact c80) (by rw [h2b]; exact hd) h23 h26) (fun z119 s119 h119 => ?_)
          obtain ⟨hz, gT, g3, g4, g5, g6⟩ := h119
          rw [h2b, h22] at g3 g6
          refine e_putI (q := 125) (jz := 4) dX8_step_122 rfl fp_X8_59 rfl (by first | assumption | rfl) rfl ?_
          refine e_goto (tgt := 147) dX8_step_125 (by decide) ?_
          exact r_v dX8_step_147 rfl (by
    rw [tok_dg hp (by omega) hnl hd rfl]
    have hsc := sc_in (P := isDg) (b := cB σ) (n := (σ.1 19 2)) (a := p)
    have hdj : ∀ j : Int, p ≤ j → j < p + ((sc isDg (cB σ) (σ.1 19 2) p - p).toNat : Int) → 48 ≤ cB σ j ∧ cB σ j ≤ 57 := fun j u v => (hsc.2.2 j u (by omega)).2
    have hcap := nv_cap (b := cB σ) (sc isDg (cB σ) (σ.1 19 2) p - p).toNat p 0 0 (by decide) (by decide) rfl (fun j u v => (hdj j u v).1)
    have hin := nvF_in (cap := 1000000) (b := cB σ) (Int.le_refl _) (sc isDg (cB σ) (σ.1 19 2) p - p).toNat p 0 (by decide) (by decide) hdj
    refine ⟨(h2T.tr gT).s (by decide) _, ?_, ?_, ?_, ?_⟩
    · rw [sI_1, if_pos ⟨rfl, rfl⟩]; exact hz
    · rw [sI_1, if_neg (by decide), g5]; exact h25
    · rw [sI_1, if_neg (by decide)]; exact g3
    · rw [sI_1, if_neg (by decide), g6]
      exact ⟨fun q => absurd (show (22 : Int) = 21 from q) (by decide), fun _ => ⟨hin.1, hcap.1⟩, ⟨by omega, by omega⟩⟩)
      · refine e_aload_n (q := 100) (i := 0) dX8_step_99 rfl rfl rfl ?_
        refine e_aload_n (q := 101) (i := 0) dX8_step_100 rfl rfl rfl ?_
        have hl : isLt (cB σ p) := by
          refine Classical.byContradiction (fun q => c96 (if_neg q))
        refine e_Vi (q := 104) (vs := []) ok_X8_wordKind ml_X8_66 dX8_step_101 rfl ⟨_, _, rfl⟩ (by first | assumption | rfl) rfl rfl (Nat.le_of_ble_eq_true rfl) (by decide) (c_X8_wordKind (p := p) (by rw [h22]; exact hn0) (by rw [h22]; exact hn1) h220 (by omega) (by rw [h22]; exact c80) (by rw [h2b]; exact hl) h23 h26) (fun z101 s101 h101 => ?_)
        obtain ⟨hz, gT, g3, g4, g5, g6, gR⟩ := h101
        rw [h2b, h22] at hz g3 g6
        refine e_putI (q := 107) (jz := 4) dX8_step_104 rfl fp_X8_59 rfl (by first | assumption | rfl) rfl ?_
        refine e_goto (tgt := 147) dX8_step_107 (by decide) ?_
        exact r_v dX8_step_147 rfl (by
    rw [tok_lt hp (by omega) hl rfl]
    refine ⟨(h2T.tr gT).s (by decide) _, ?_, ?_, ?_, ?_⟩
    · rw [sI_1, if_pos ⟨rfl, rfl⟩]; exact hz
    · rw [sI_1, if_neg (by decide), g5]; exact h25
    · rw [sI_1, if_neg (by decide)]; exact g3
    · rw [show (sI s101 19 4 z101).1 19 6 = s101.1 19 6 from by rw [sI_1, if_neg (by decide)]]
      have hf := fd_in wv (pkV (cB σ) p (sc isLt (cB σ) (σ.1 19 2) p)) (n := 21) (by decide)
      refine ⟨fun q => ?_, fun q => ?_, gR⟩
      · have q : (if 6 < sc isLt (cB σ) (σ.1 19 2) p - p then (36 : Int) else if fd wv (pkV (cB σ) p (sc isLt (cB σ) (σ.1 19 2) p)) 21 = -1 then 21 else fd wv (pkV (cB σ) p (sc isLt (cB σ) (σ.1 19 2) p)) 21) = 21 := q
        refine g6 ?_
        split at q
        · omega
        · omega
      · have q : (if 6 < sc isLt (cB σ) (σ.1 19 2) p - p then (36 : Int) else if fd wv (pkV (cB σ) p (sc isLt (cB σ) (σ.1 19 2) p)) 21 = -1 then 21 else fd wv (pkV (cB σ) p (sc isLt (cB σ) (σ.1 19 2) p)) 21) = 22 := q
        exfalso
        split at q
        · omega
        · split at q <;> omega)
    · refine e_aload_n (q := 84) (i := 0) dX8_step_83 rfl rfl rfl ?_
      refine e_bipush (q := 86) dX8_step_84 rfl (by decide) ?_
      refine e_putI (q := 89) (jz := 4) dX8_step_86 rfl fp_X8_59 rfl (by first | assumption | rfl) rfl ?_
      refine e_goto (tgt := 147) dX8_step_89 (by decide) ?_
      exact r_v dX8_step_147 rfl (by
    rw [tok_end (by rw [← hp]; omega), ← hp]
    refine ⟨h2T.s (by decide) _, ?_, ?_, ?_, ?_⟩
    · rw [sI_1, if_pos ⟨rfl, rfl⟩]
    · rw [sI_1, if_neg (by decide)]; exact h25
    · rw [sI_1, if_neg (by decide)]; exact h23
    · rw [sI_1, if_neg (by decide), h26]
      exact ⟨fun q => absurd (show (37 : Int) = 21 from q) (by decide), fun q => absurd (show (37 : Int) = 22 from q) (by decide), ⟨by decide, by decide⟩⟩)
  have lp : ∀ (n : Nat) (τ : Sg) (j : Int), 0 ≤ j → j + n = (sc isBl (cB σ) (σ.1 19 2) a) - a → T19 σ τ → τ.1 19 3 = a + j → J G 4 mX8_step (pV (fun σ' => TS σ σ' (tok (cB σ) (σ.1 19 2) a))) τ 0 [some (.ref (G.2.2.2 + 19)), none] [] := by
    intro n
    induction n with
    | zero =>
      intro τ j h0 hn hT h3
      have etn := hT.n
      refine e_aload_n (q := 1) (i := 0) dX8_step_0 rfl rfl rfl ?_
      refine e_getI (q := 4) (jz := 3) dX8_step_1 rfl fg_X8_40 rfl (by first | assumption | rfl) rfl ?_
      refine e_aload_n (q := 5) (i := 0) dX8_step_4 rfl rfl rfl ?_
      refine e_getI (q := 8) (jz := 2) dX8_step_5 rfl fg_X8_37 rfl (by first | assumption | rfl) rfl ?_
      rw [h3]
      refine e_icmp_ge (q := 11) (tgt := 50) dX8_step_8 rfl (by decide) (fun c8 => ?_) (fun c8 => ?_) (hx := ⟨by omega, by omega⟩) (hy := ⟨by omega, by omega⟩)
      · exact fin τ (a + j) (by omega) hT h3
      · refine e_aload_n (q := 12) (i := 0) dX8_step_11 rfl rfl rfl ?_
        refine e_aload_n (q := 13) (i := 0) dX8_step_12 rfl rfl rfl ?_
        refine e_getI (q := 16) (jz := 3) dX8_step_13 rfl fg_X8_40 rfl (by first | assumption | rfl) rfl ?_
        rw [h3]
        refine e_Vip (q := 19) (vs := [_]) ok_X8_byteAt ml_X8_52 dX8_step_16 rfl ⟨_, _, rfl⟩ (by first | assumption | rfl) rfl rfl (Nat.le_of_ble_eq_true rfl) (by decide) (c_X8_byteAt (by rw [hT.n]; exact hn0) (by rw [hT.n]; exact hn1) (by omega) (by omega)) ?_
        refine e_bipush (q := 21) dX8_step_19 rfl (by decide) ?_
        have hnb : ¬ isBl (cB σ (a + j)) := fun q => sc_end (P := isBl) (b := cB σ) (n := (σ.1 19 2)) (a := a) ⟨by omega, by rw [← show a + j = (sc isBl (cB σ) (σ.1 19 2) a) by omega]; exact q⟩
        have eb : by0 (cB τ) (τ.1 19 2) (a + j) = cB σ (a + j) := by rw [hT.b]; exact if_pos (by omega)
        rw [eb]
        refine e_icmp_eq (q := 24) (tgt := 37) dX8_step_21 rfl (by decide) (fun c21 => absurd c21 (fun q => hnb (Or.inl q))) (fun c21 => ?_) (hx := by have := cB_in σ (a + j); exact ⟨by omega, by omega⟩)
        refine e_aload_n (q := 25) (i := 0) dX8_step_24 rfl rfl rfl ?_
        refine e_aload_n (q := 26) (i := 0) dX8_step_25 rfl rfl rfl ?_
        refine e_getI (q := 29) (jz := 3) dX8_step_26 rfl fg_X8_40 rfl (by first | assumption | rfl) rfl ?_
        rw [h3]
        refine e_Vip (q := 32) (vs := [_]) ok_X8_byteAt ml_X8_52 dX8_step_29 rfl ⟨_, _, rfl⟩ (by first | assumption | rfl) rfl rfl (Nat.le_of_ble_eq_true rfl) (by decide) (c_X8_byteAt (by rw [hT.n]; exact hn0) (by rw [hT.n]; exact hn1) (by omega) (by omega)) ?_
        refine e_bipush (q := 34) dX8_step_32 rfl (by decide) ?_
        rw [eb]
        refine e_icmp_ne (q := 37) (tgt := 50) dX8_step_34 rfl (by decide) (fun c34 => ?_) (fun c34 => absurd c34 (fun q => hnb (Or.inr q))) (hx := by have := cB_in σ (a + j); exact ⟨by omega, by omega⟩)
        exact fin τ (a + j) (by omega) hT h3
    | succ n ih =>
      intro τ j h0 hn hT h3
      have etn := hT.n
      refine e_aload_n (q := 1) (i := 0) dX8_step_0 rfl rfl rfl ?_
      refine e_getI (q := 4) (jz := 3) dX8_step_1 rfl fg_X8_40 rfl (by first | assumption | rfl) rfl ?_
      refine e_aload_n (q := 5) (i := 0) dX8_step_4 rfl rfl rfl ?_
      refine e_getI (q := 8) (jz := 2) dX8_step_5 rfl fg_X8_37 rfl (by first | assumption | rfl) rfl ?_
      rw [h3]
      refine e_icmp_ge (q := 11) (tgt := 50) dX8_step_8 rfl (by decide) (fun c8 => absurd c8 (by omega)) (fun c8 => ?_) (hx := ⟨by omega, by omega⟩) (hy := ⟨by omega, by omega⟩)
      refine e_aload_n (q := 12) (i := 0) dX8_step_11 rfl rfl rfl ?_
      refine e_aload_n (q := 13) (i := 0) dX8_step_12 rfl rfl rfl ?_
      refine e_getI (q := 16) (jz := 3) dX8_step_13 rfl fg_X8_40 rfl (by first | assumption | rfl) rfl ?_
      rw [h3]
      refine e_Vip (q := 19) (vs := [_]) ok_X8_byteAt ml_X8_52 dX8_step_16 rfl ⟨_, _, rfl⟩ (by first | assumption | rfl) rfl rfl (Nat.le_of_ble_eq_true rfl) (by decide) (c_X8_byteAt (by rw [hT.n]; exact hn0) (by rw [hT.n]; exact hn1) (by omega) (by omega)) ?_
      refine e_bipush (q := 21) dX8_step_19 rfl (by decide) ?_
      have hib : isBl (cB σ (a + j)) := (hsc.2.2 (a + j) (by omega) (by omega)).2
      have eb : by0 (cB τ) (τ.1 19 2) (a + j) = cB σ (a + j) := by rw [hT.b]; exact if_pos (by omega)
      rw [eb]
      refine e_icmp_eq (q := 24) (tgt := 37) dX8_step_21 rfl (by decide) (fun c21 => ?_) (fun c21 => ?_) (hx := by have := cB_in σ (a + j); exact ⟨by omega, by omega⟩)
      · refine e_aload_n (q := 38) (i := 0) dX8_step_37 rfl rfl rfl ?_
        refine e_dup (q := 39) dX8_step_38 rfl rfl ?_
        refine e_getI (q := 42) (jz := 3) dX8_step_39 rfl fg_X8_40 rfl (by first | assumption | rfl) rfl ?_
        rw [h3]
        refine e_iconst (q := 43) dX8_step_42 rfl ?_
        refine e_iadd (q := 44) dX8_step_43 rfl ?_
        refine e_putI (q := 47) (jz := 3) dX8_step_44 rfl fp_X8_40 rfl (by first | assumption | rfl) rfl ?_
        refine e_goto (tgt := 0) dX8_step_47 (by decide) ?_
        refine ih _ (j + 1) (by omega) (by omega) (hT.s (by decide) _) ?_
        rw [sI_1, if_pos ⟨rfl, rfl⟩]; omega
      · refine e_aload_n (q := 25) (i := 0) dX8_step_24 rfl rfl rfl ?_
        refine e_aload_n (q := 26) (i := 0) dX8_step_25 rfl rfl rfl ?_
        refine e_getI (q := 29) (jz := 3) dX8_step_26 rfl fg_X8_40 rfl (by first | assumption | rfl) rfl ?_
        rw [h3]
        refine e_Vip (q := 32) (vs := [_]) ok_X8_byteAt ml_X8_52 dX8_step_29 rfl ⟨_, _, rfl⟩ (by first | assumption | rfl) rfl rfl (Nat.le_of_ble_eq_true rfl) (by decide) (c_X8_byteAt (by rw [hT.n]; exact hn0) (by rw [hT.n]; exact hn1) (by omega) (by omega)) ?_
        refine e_bipush (q := 34) dX8_step_32 rfl (by decide) ?_
        rw [eb]
        refine e_icmp_ne (q := 37) (tgt := 50) dX8_step_34 rfl (by decide) (fun c34 => by exfalso; rcases hib with q | q; exact c21 q; exact c34 q) (fun c34 => ?_) (hx := by have := cB_in σ (a + j); exact ⟨by omega, by omega⟩)
        refine e_aload_n (q := 38) (i := 0) dX8_step_37 rfl rfl rfl ?_
        refine e_dup (q := 39) dX8_step_38 rfl rfl ?_
        refine e_getI (q := 42) (jz := 3) dX8_step_39 rfl fg_X8_40 rfl (by first | assumption | rfl) rfl ?_
        rw [h3]
        refine e_iconst (q := 43) dX8_step_42 rfl ?_
        refine e_iadd (q := 44) dX8_step_43 rfl ?_
        refine e_putI (q := 47) (jz := 3) dX8_step_44 rfl fp_X8_40 rfl (by first | assumption | rfl) rfl ?_
        refine e_goto (tgt := 0) dX8_step_47 (by decide) ?_
        refine ih _ (j + 1) (by omega) (by omega) (hT.s (by decide) _) ?_
        rw [sI_1, if_pos ⟨rfl, rfl⟩]; omega
  refine e_entry om_X8_step (Nat.le_of_ble_eq_true rfl) (L := [some (.ref (G.2.2.2 + 19)), none]) rfl ?_
  exact lp ((sc isBl (cB σ) (σ.1 19 2) a) - a).toNat σ 0 (by decide) (by have := hsc.1; omega) (T19.rf σ) (by omega)

set_option maxHeartbeats 4000000 in
theorem c_X8_start {G : Gx} {σ : Sg} {m : Int} (hCW : ∀ i, 0 ≤ i → i < 21 → σ.1 20 i = wv i) (hm0 : 0 ≤ m) (hm1 : m ≤ 700) : Con G 5 mX8_start [.ref (G.2.2.2 + 19), .int (iZ m)] σ (pV (fun σ' => Fr [19] σ σ' ∧ σ'.1 19 2 = m ∧ σ'.1 19 7 = 0 ∧ σ'.1 19 8 = -1 ∧ CK σ' (tkl (cB σ) m 0))) := by
  refine e_entry om_X8_start (Nat.le_of_ble_eq_true rfl) (L := [some (.ref (G.2.2.2 + 19)), some (.int (iZ m))]) rfl ?_
  refine e_aload_n (q := 1) (i := 0) dX8_start_0 rfl rfl rfl ?_
  refine e_iload_n (q := 2) (i := 1) dX8_start_1 rfl rfl rfl ?_
  refine e_aload_n (q := 3) (i := 0) dX8_start_2 rfl rfl rfl ?_
  refine e_getR (q := 6) dX8_start_3 rfl fg_X8_11 (by first | assumption | rfl) rfl ?_
  refine e_alen (q := 7) (nz := 700) dX8_start_6 rfl (by first | assumption | rfl) (by decide) rfl ?_
  refine e_mmin (q := 10) dX8_start_7 rfl ml_X8_31 mw_min_s mw_min_c mw_init (Nat.le_of_ble_eq_true rfl) (by decide) ?_
  rw [show min m 700 = m by omega]
  refine e_putI (q := 13) (jz := 2) dX8_start_10 rfl fp_X8_37 rfl (by first | assumption | rfl) rfl ?_
  refine e_aload_n (q := 14) (i := 0) dX8_start_13 rfl rfl rfl ?_
  refine e_iconst (q := 15) dX8_start_14 rfl ?_
  refine e_putI (q := 18) (jz := 3) dX8_start_15 rfl fp_X8_40 rfl (by first | assumption | rfl) rfl ?_
  refine e_aload_n (q := 19) (i := 0) dX8_start_18 rfl rfl rfl ?_
  refine e_iconst (q := 20) dX8_start_19 rfl ?_
  refine e_putI (q := 23) (jz := 7) dX8_start_20 rfl fp_X8_43 rfl (by first | assumption | rfl) rfl ?_
  refine e_aload_n (q := 24) (i := 0) dX8_start_23 rfl rfl rfl ?_
  refine e_iconst (q := 25) dX8_start_24 rfl ?_
  refine e_putI (q := 28) (jz := 8) dX8_start_25 rfl fp_X8_27 rfl (by first | assumption | rfl) rfl ?_
  have e2 : (sI (sI (sI (sI σ 19 2 m) 19 3 0) 19 7 0) 19 8 (-1)).1 19 2 = m := by rw [sI_1, if_neg (by decide), sI_1, if_neg (by decide), sI_1, if_neg (by decide), sI_1, if_pos ⟨rfl, rfl⟩]
  have e3 : (sI (sI (sI (sI σ 19 2 m) 19 3 0) 19 7 0) 19 8 (-1)).1 19 3 = 0 := by rw [sI_1, if_neg (by decide), sI_1, if_neg (by decide), sI_1, if_pos ⟨rfl, rfl⟩]
  have eb : cB (sI (sI (sI (sI σ 19 2 m) 19 3 0) 19 7 0) 19 8 (-1)) = cB σ := by unfold cB; rw [sI_ne _ (by decide), sI_ne _ (by decide), sI_ne _ (by decide), sI_ne _ (by decide)]
  have e20 : ∀ i, 0 ≤ i → i < 21 → (sI (sI (sI (sI σ 19 2 m) 19 3 0) 19 7 0) 19 8 (-1)).1 20 i = wv i := fun i u v => by rw [sI_ne _ (by decide), sI_ne _ (by decide), sI_ne _ (by decide), sI_ne _ (by decide)]; exact hCW i u v
  refine e_aload_n (q := 29) (i := 0) dX8_start_28 rfl rfl rfl ?_
  refine e_Vv (q := 32) (vs := []) ok_X8_step ml_X8_46 dX8_start_29 rfl ⟨_, _, rfl⟩ (by first | assumption | rfl) rfl rfl (Nat.le_of_ble_eq_true rfl) (by decide) (c_X8_step (a := 0) (by rw [e2]; exact hm0) (by rw [e2]; exact hm1) e20 (by decide) (by rw [e2]; exact hm0) e3) (fun s29 h29 => ?_)
  have hck := CK_of (by rw [e2]; exact hm0) (by rw [e2]; exact hm1) e20 (Int.le_refl 0) (by rw [e2]; exact hm0) h29
  rw [eb, e2] at hck
  obtain ⟨hT, -⟩ := h29
  exact r_v dX8_start_32 rfl ⟨((((Fr.rf _ σ).sI (by decide) _ _).sI (by decide) _ _).sI (by decide) _ _).sI (by decide) _ _ |>.tr hT.1, by rw [hT.n]; exact e2, by rw [hT.2 7 (by decide) (by decide) (by decide) (by decide), sI_1, if_neg (by decide), sI_1, if_pos ⟨rfl, rfl⟩], by rw [hT.2 8 (by decide) (by decide) (by decide) (by decide), sI_1, if_pos ⟨rfl, rfl⟩], hck⟩

/-- a step from one token to the next -/
theorem c_step {G : Gx} {σ : Sg} {t : Tk} {rest : List Tk} (h : CK σ (t :: rest)) (hk : t.1 ≠ 37) : Con G 4 mX8_step [.ref (G.2.2.2 + 19)] σ (pV (fun σ' => T19 σ σ' ∧ CK σ' rest)) := by
  obtain ⟨⟨hn0, hn1⟩, hCW, t', r', e, h4, h5, hv, hr, hp, hx⟩ := h
  obtain ⟨rfl, rfl⟩ := List.cons.inj e
  obtain ⟨⟨a0, a1⟩, er⟩ := hx hk
  refine Con_mono (c_X8_step (a := σ.1 19 3) hn0 hn1 hCW a0 a1 rfl) (fun r σ' hq => ?_)
  obtain ⟨e1, h⟩ := hq
  refine ⟨e1, h.1, ?_⟩
  rw [er]
  exact CK_of hn0 hn1 hCW a0 a1 h
theorem CK.hd {σ : Sg} {t : Tk} {rest : List Tk} (h : CK σ (t :: rest)) : σ.1 19 4 = t.1 ∧ σ.1 19 5 = t.2.1 ∧ tkV t (σ.1 19 6) ∧ (0 ≤ t.1 ∧ t.1 ≤ 37) ∧ (0 ≤ t.2.1 ∧ t.2.1 ≤ 700) := by
  obtain ⟨⟨hn0, hn1⟩, hCW, t', r', e, h4, h5, hv, hr, hp, hx⟩ := h
  obtain ⟨rfl, rfl⟩ := List.cons.inj e
  exact ⟨h4, h5, hv, hr, ⟨hp.1, by omega⟩⟩
theorem CK.ne {σ : Sg} {ts : List Tk} (h : CK σ ts) : ∃ t rest, ts = t :: rest := by
  obtain ⟨-, -, t, r, e, -⟩ := h
  exact ⟨t, r, e⟩

