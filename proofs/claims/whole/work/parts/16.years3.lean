theorem nL {L : Nat} (hL : isLand L) : L ≠ 17 ∧ L ≠ 55 ∧ L + 1 ≠ 17 ∧ L + 1 ≠ 55 ∧ L + 3 ≠ 17 ∧ L + 3 ≠ 55 ∧ L + 4 ≠ 17 ∧ L + 4 ≠ 55 ∧ L + 2 ≠ 17 ∧ L + 2 ≠ 55 := by rcases hL with rfl | rfl | rfl | rfl <;> decide
theorem uf_in {f : Int → Int} {k v a b : Int} {i : Int} (h : a ≤ f i ∧ f i ≤ b) (hv : a ≤ v ∧ v ≤ b) : a ≤ uf f k v i ∧ uf f k v i ≤ b := by
  unfold uf
  split
  · exact hv
  · exact h
theorem Lp.far {σ τ : Sg} {L : Nat} {y : Yd} (h : Lp σ τ L y) {V : Int} (s : Int) (hV : 0 ≤ V ∧ V ≤ 39) : Lp σ (sI τ (L + 1) s V) L (uf y.1 s V, y.2) := by
  obtain ⟨h1, rfl, h3, h4, h5⟩ := h
  refine ⟨h1.sI (by simp) _ _, ?_, fun i a b => ?_, h4, ?_⟩
  · unfold ydv
    rw [sI_uf, sI_ne _ (by omega), sI_ne _ (by omega), sI_ne _ (by omega)]
  · rw [sI_ne _ (by omega)]; exact h3 i a b
  · unfold LI
    rw [sI_uf, sI_ne _ (by omega), sI_ne _ (by omega), sI_ne _ (by omega), sI_ne _ (by omega), sI_2]
    refine ⟨fun i a b => ?_, h5.2⟩
    have q := h5.1 i a b
    have r := uf_in (k := s) (i := i) (f := τ.1 (L + 1)) ⟨q.1, q.2.1⟩ hV
    exact ⟨r.1, r.2, q.2.2⟩
theorem Lp.legs {σ τ : Sg} {L : Nat} {y : Yd} (h : Lp σ τ L y) {V : Int} (s : Int) (hV : 0 ≤ V ∧ V ≤ 30) : Lp σ (sI τ (L + 3) s V) L (y.1, uf y.2.1 s V, y.2.2) := by
  obtain ⟨h1, rfl, h3, h4, h5⟩ := h
  refine ⟨h1.sI (by simp) _ _, ?_, fun i a b => ?_, h4, ?_⟩
  · unfold ydv
    rw [sI_uf, sI_ne _ (by omega), sI_ne _ (by omega), sI_ne _ (by omega)]
  · rw [sI_ne _ (by omega)]; exact h3 i a b
  · unfold LI
    rw [sI_uf, sI_ne _ (by omega), sI_ne _ (by omega), sI_ne _ (by omega), sI_ne _ (by omega), sI_2]
    refine ⟨h5.1, fun i a b => ?_, h5.2.2⟩
    have q := h5.2.1 i a b
    have r := uf_in (k := s) (i := i) (f := τ.1 (L + 3)) ⟨q.1, q.2.1⟩ hV
    exact ⟨r.1, r.2, q.2.2⟩
theorem Lp.tired {σ τ : Sg} {L : Nat} {y : Yd} (h : Lp σ τ L y) {V : Int} (s : Int) (hV : 0 ≤ V ∧ V ≤ 99) : Lp σ (sI τ (L + 4) s V) L (y.1, y.2.1, uf y.2.2.1 s V, y.2.2.2) := by
  obtain ⟨h1, rfl, h3, h4, h5⟩ := h
  refine ⟨h1.sI (by simp) _ _, ?_, fun i a b => ?_, h4, ?_⟩
  · unfold ydv
    rw [sI_uf, sI_ne _ (by omega), sI_ne _ (by omega), sI_ne _ (by omega)]
  · rw [sI_ne _ (by omega)]; exact h3 i a b
  · unfold LI
    rw [sI_uf, sI_ne _ (by omega), sI_ne _ (by omega), sI_ne _ (by omega), sI_ne _ (by omega), sI_2]
    refine ⟨h5.1, fun i a b => ?_, h5.2.2⟩
    have q := h5.2.1 i a b
    have r := uf_in (k := s) (i := i) (f := τ.1 (L + 4)) ⟨q.2.2.1, q.2.2.2⟩ hV
    exact ⟨q.1, q.2.1, r.1, r.2⟩
theorem Lp.quar {σ τ : Sg} {L : Nat} {y : Yd} (h : Lp σ τ L y) {V : Int} (hV : 0 ≤ V ∧ V ≤ 99999) : Lp σ (sI τ L 5 V) L (y.1, y.2.1, y.2.2.1, V, y.2.2.2.2) := by
  obtain ⟨h1, rfl, h3, h4, h5⟩ := h
  refine ⟨h1.sI (by simp) _ _, ?_, fun i a b => ?_, h4, ?_⟩
  · unfold ydv
    rw [sI_ne _ (by omega), sI_ne _ (by omega), sI_ne _ (by omega), sI_1, if_pos ⟨rfl, rfl⟩, sI_1, if_neg (by omega)]
  · rw [sI_1, if_neg (by omega)]; exact h3 i a b
  · unfold LI
    rw [sI_ne _ (by omega), sI_ne _ (by omega), sI_ne _ (by omega), sI_ne _ (by omega), sI_2]
    refine ⟨h5.1, h5.2.1, ?_⟩
    simp only [sI_1]
    exact ⟨hV, h5.2.2.2⟩
theorem Lp.year {σ τ : Sg} {L : Nat} {y : Yd} (h : Lp σ τ L y) {V : Int} (hV : 0 ≤ V ∧ V ≤ 100000) : Lp σ (sI τ L 6 V) L (y.1, y.2.1, y.2.2.1, y.2.2.2.1, V) := by
  obtain ⟨h1, rfl, h3, h4, h5⟩ := h
  refine ⟨h1.sI (by simp) _ _, ?_, fun i a b => ?_, h4, ?_⟩
  · unfold ydv
    rw [sI_ne _ (by omega), sI_ne _ (by omega), sI_ne _ (by omega), sI_1, if_neg (by omega), sI_1, if_pos ⟨rfl, rfl⟩]
  · rw [sI_1, if_neg (by omega)]; exact h3 i a b
  · unfold LI
    rw [sI_ne _ (by omega), sI_ne _ (by omega), sI_ne _ (by omega), sI_ne _ (by omega), sI_2]
    refine ⟨h5.1, h5.2.1, ?_⟩
    simp only [sI_1]
    exact ⟨h5.2.2.1, hV, h5.2.2.2.2⟩
theorem Lp.aside {σ τ τ' : Sg} {L : Nat} {y : Yd} (h : Lp σ τ L y) (hL : isLand L) (hF : Fr [17, 55] τ τ') : Lp σ τ' L y := by
  obtain ⟨h1, h2, h3, h4, h5⟩ := h
  have n := nc_L hL
  refine ⟨h1.tr (hF.mono (by intro a ha; simp only [List.mem_cons, List.not_mem_nil, or_false] at ha ⊢; omega)), ?_, fun i a b => ?_, ?_, h5.fr hF n⟩
  · rw [← h2]
    unfold ydv
    rw [(hF (L + 1) (n _ (by omega) (by omega))).1, (hF (L + 3) (n _ (by omega) (by omega))).1, (hF (L + 4) (n _ (by omega) (by omega))).1, (hF L (n _ (by omega) (by omega))).1]
  · rw [(hF L (n _ (by omega) (by omega))).1]; exact h3 i a b
  · rw [(hF L (n _ (by omega) (by omega))).2]; exact h4
theorem yBeats_succ (lv : Int → (Int → Int) → Int) (mo ck ed bs bc by_ : Int → Int) (un tl wet : Int) {k : Int} (h : 0 ≤ k) (y : Yd) : yBeats lv mo ck ed bs bc by_ un tl wet (k + 1).toNat y = if by_ k = (yBeats lv mo ck ed bs bc by_ un tl wet k.toNat y).2.2.2.2 ∧ bc k ≠ un then yLead lv mo ck ed tl wet (bc k) (bs k) (yBeats lv mo ck ed bs bc by_ un tl wet k.toNat y) else yBeats lv mo ck ed bs bc by_ un tl wet k.toNat y := by
  obtain ⟨m, rfl⟩ := Int.eq_ofNat_of_zero_le h
  rfl
theorem qIn_succ (lv : Int → (Int → Int) → Int) (ov : Int → Int → Int) (wet ye p : Int) {k : Int} (h : 0 ≤ k) (u : Int) : qIn lv ov wet ye p (k + 1).toNat u = qAdd lv ov wet ye p (p + 1 + k) (qIn lv ov wet ye p k.toNat u) := by
  obtain ⟨m, rfl⟩ := Int.eq_ofNat_of_zero_le h
  rfl
theorem qOut_succ (lv : Int → (Int → Int) → Int) (ov : Int → Int → Int) (wet ye n : Int) {k : Int} (h : 0 ≤ k) (u : Int) : qOut lv ov wet ye n (k + 1).toNat u = qIn lv ov wet ye k (n - k - 1).toNat (qOut lv ov wet ye n k.toNat u) := by
  obtain ⟨m, rfl⟩ := Int.eq_ofNat_of_zero_le h
  rfl
theorem yGrow_succ (lv : Int → (Int → Int) → Int) (mo : Int → Int) (wet : Int) {k : Int} (h : 0 ≤ k) (y : Yd) : yGrow lv mo wet (k + 1).toNat y = yGrow1 lv mo wet k (yGrow lv mo wet k.toNat y) := by
  obtain ⟨m, rfl⟩ := Int.eq_ofNat_of_zero_le h
  rfl
theorem gOv_in {σ : Sg} {L : Nat} {p q : Int} (hT : TI σ) (hI : LI σ L) (h0 : 0 ≤ p) (h4 : p < 4) (h5 : 0 ≤ q) (h6 : q < 4) : 0 ≤ gOv (σ.1 3) (σ.1 4) (σ.1 (L + 1)) p q ∧ gOv (σ.1 3) (σ.1 4) (σ.1 (L + 1)) p q ≤ 40000 := by
  have a := LI_side hT hI h0 h4
  have b := LI_side hT hI h5 h6
  unfold gOv
  have e1 : gCR (σ.1 3) (σ.1 (L + 1)) p q ≤ 200 := by unfold gCR; omega
  have e2 : gCC (σ.1 4) (σ.1 (L + 1)) p q ≤ 200 := by unfold gCC; omega
  have h1 : 0 ≤ max (gCR (σ.1 3) (σ.1 (L + 1)) p q) 0 := by omega
  have h2 : 0 ≤ max (gCC (σ.1 4) (σ.1 (L + 1)) p q) 0 := by omega
  refine ⟨Int.mul_nonneg h1 h2, ?_⟩
  have h3 := Int.mul_le_mul (show max (gCR (σ.1 3) (σ.1 (L + 1)) p q) 0 ≤ 200 by omega) (show max (gCC (σ.1 4) (σ.1 (L + 1)) p q) 0 ≤ 200 by omega) h2 (by decide)
  omega
/-- a year as it passes -/
def yYear (lv : Int → (Int → Int) → Int) (mo ck ed bs bc by_ : Int → Int) (ov : (Int → Int) → Int → Int → Int) (nb np nc un tl so lb wet : Int) (y : Yd) : Yd :=
  if so ≠ 0 ∧ lb < y.2.2.2.2 then (y.1, y.2.1, y.2.2.1, y.2.2.2.1, y.2.2.2.2 + 1) else
  let a := yBeats lv mo ck ed bs bc by_ un tl wet nb.toNat y
  let b : Yd := if so = 0 then (a.1, a.2.1, a.2.2.1, qOut lv (ov a.1) wet a.2.2.2.2 np np.toNat a.2.2.2.1, a.2.2.2.2) else a
  let c := yGrow lv mo wet nc.toNat b
  (c.1, c.2.1, c.2.2.1, c.2.2.2.1, c.2.2.2.2 + 1)

theorem c_X10_lead {G : Gx} {σ : Sg} {L : Nat} {c s wt : Int} (hT : TI σ) (hW : LW σ) (hI : LI σ L) (hL : isLand L) (hc : 0 ≤ c) (hc6 : c < 6) (hs : 0 ≤ s) (hsp : s < 4 * σ.1 2 2) (hwt : wt = 0 ∨ wt = 1) : Con G 4 mX10_lead [.ref (G.2.2.2 + 54), .ref (G.2.2.2 + L), .int (iZ c), .int (iZ s), .int (iZ wt)] σ (pV (fun σ' => Lp σ σ' L (yLead (lawV σ) (σ.1 7) (σ.1 (L + 2)) (edS σ) (σ.1 L 9) wt c s (ydv σ L)))) := by
  have y0 := ly0 hL
  have y1 := ly1 hL
  have y2 := ly2 hL
  have y3 := ly3 hL
  have y4 := ly4 hL
  obtain ⟨hzz, -, hnp, hnc, hnb, hlb, hrn, hsd, hrw, hrq, hch, hbt, hck⟩ := id hT
  have hb := hI.2.1 c hc hc6
  have hm := hch c hc hc6
  have hfs := hI.1 s hs (by omega)
  have hyr := hI.2.2.2.1
  refine e_entry om_X10_lead (Nat.le_of_ble_eq_true rfl) (L := [some (.ref (G.2.2.2 + 54)), some (.ref (G.2.2.2 + L)), some (.int (iZ c)), some (.int (iZ s)), some (.int (iZ wt)), none, none, none]) rfl ?_
  refine e_aload_n (q := 1) (i := 1) dX10_lead_0 rfl rfl rfl ?_
  refine e_getR (q := 4) dX10_lead_1 rfl fg_X10_123 (by first | assumption | rfl) rfl ?_
  refine e_iload_n (q := 5) (i := 3) dX10_lead_4 rfl rfl rfl ?_
  refine e_iald (q := 6) dX10_lead_5 rfl (by first | assumption | rfl) ?_
  refine e_istore (q := 8) (L' := [_, _, _, _, _, _, _, _]) dX10_lead_6 rfl (by decide) rfl rfl ?_
  refine e_aload_n (q := 9) (i := 0) dX10_lead_8 rfl rfl rfl ?_
  refine e_aload_n (q := 10) (i := 1) dX10_lead_9 rfl rfl rfl ?_
  refine e_iload_n (q := 11) (i := 2) dX10_lead_10 rfl rfl rfl ?_
  refine e_iload_n (q := 12) (i := 3) dX10_lead_11 rfl rfl rfl ?_
  refine e_iload (q := 14) dX10_lead_12 rfl rfl ?_
  refine e_iload (q := 16) dX10_lead_14 rfl rfl ?_
  refine e_Vl (q := 19) (vs := [_, _, _, _, _]) ok_X10_walk ml_X10_126 dX10_lead_16 rfl ⟨_, _, rfl⟩ (by first | assumption | rfl) rfl rfl (Nat.le_of_ble_eq_true rfl) (by decide) (c_X10_walk hT hW hI hL hc hc6 hs (by omega) ⟨by omega, by omega⟩ hwt) (fun z16 s16 h16 => ?_)
  have hll := law_lim hW (r := 0) (by decide) (by decide) (nm := (nmF (σ.1 (L + 3) c) (σ.1 7 c) (σ.1 (L + 4) c) (σ.1 (L + 2) s) wt (σ.1 (L + 1) s) (σ.1 L 6))) (by refine nmF_lim ⟨⟨?_, ?_⟩, ⟨?_, ?_⟩, ⟨?_, ?_⟩, ⟨?_, ?_⟩, ⟨?_, ?_⟩, ⟨?_, ?_⟩, ⟨?_, ?_⟩⟩ <;> omega)
  rw [← h16.1] at hll
  have f3 : s16.1 (L + 3) c = σ.1 (L + 3) c := h16.2.e1 (nc_L hL _ (by omega) (by omega)) c
  have f4 : s16.1 (L + 4) c = σ.1 (L + 4) c := h16.2.e1 (nc_L hL _ (by omega) (by omega)) c
  have hlp := (Lp.rf hI).aside hL h16.2
  have hV := gStone_in (law := lawV σ 0 (nmF (σ.1 (L + 3) c) (σ.1 7 c) (σ.1 (L + 4) c) (σ.1 (L + 2) s) wt (σ.1 (L + 1) s) (σ.1 L 6))) (str := σ.1 (L + 3) c + σ.1 (L + 2) s - σ.1 (L + 4) c) (wet := wt) (edS_in hT hs hsp)
  refine e_lstore (q := 21) (L' := [_, _, _, _, _, _, _, _]) dX10_lead_19 rfl (by decide) rfl rfl ?_
  refine e_aload_n (q := 22) (i := 1) dX10_lead_21 rfl rfl rfl ?_
  refine e_getR (q := 25) dX10_lead_22 rfl fg_X10_130 (by first | assumption | rfl) rfl ?_
  refine e_iload_n (q := 26) (i := 3) dX10_lead_25 rfl rfl rfl ?_
  refine e_aload_n (q := 27) (i := 0) dX10_lead_26 rfl rfl rfl ?_
  refine e_lload (q := 29) dX10_lead_27 rfl rfl ?_
  refine e_aload_n (q := 30) (i := 1) dX10_lead_29 rfl rfl rfl ?_
  refine e_getR (q := 33) dX10_lead_30 rfl fg_X10_110 (by first | assumption | rfl) rfl ?_
  refine e_iload_n (q := 34) (i := 2) dX10_lead_33 rfl rfl rfl ?_
  refine e_iald (q := 35) dX10_lead_34 rfl (by first | assumption | rfl) ?_
  refine e_iload (q := 37) dX10_lead_35 rfl rfl ?_
  refine e_iadd (q := 38) dX10_lead_37 rfl ?_
  refine e_aload_n (q := 39) (i := 1) dX10_lead_38 rfl rfl rfl ?_
  refine e_getR (q := 42) dX10_lead_39 rfl fg_X10_95 (by first | assumption | rfl) rfl ?_
  refine e_iload_n (q := 43) (i := 2) dX10_lead_42 rfl rfl rfl ?_
  refine e_iald (q := 44) dX10_lead_43 rfl (by first | assumption | rfl) ?_
  refine e_isub (q := 45) dX10_lead_44 rfl ?_
  refine e_iload_n (q := 46) (i := 3) dX10_lead_45 rfl rfl rfl ?_
  refine e_iload (q := 48) dX10_lead_46 rfl rfl ?_
  refine e_Vip (q := 51) (vs := [_, _, _, _]) ok_X10_stoneFar ml_X10_133 dX10_lead_48 rfl ⟨_, _, rfl⟩ (by first | assumption | rfl) rfl rfl (Nat.le_of_ble_eq_true rfl) (by decide) (c_X10_stoneFar (hT.fr h16.2 nc_2) ⟨by omega, by omega⟩ ⟨by omega, by omega⟩ hs (by omega) hwt) ?_
  have eV : gStone z16 (s16.1 (L + 3) c + σ.1 (L + 2) s - s16.1 (L + 4) c) (gEdge (s16.1 3) (s16.1 4) (s16.1 2 0) (s / 4) (s % 4)) wt = gStone (lawV σ 0 (nmF (σ.1 (L + 3) c) (σ.1 7 c) (σ.1 (L + 4) c) (σ.1 (L + 2) s) wt (σ.1 (L + 1) s) (σ.1 L 6))) (σ.1 (L + 3) c + σ.1 (L + 2) s - σ.1 (L + 4) c) (edS σ s) wt := by
    have e := edS.fr h16.2 nc_2 s
    unfold edS at e
    rw [f3, f4, h16.1, e]
    rfl
  rw [eV]
  refine e_iast (q := 52) dX10_lead_51 rfl (by first | assumption | rfl) ?_
  have hlp2 := hlp.far s hV
  have e9 : (sI s16 (L + 1) s (gStone (lawV σ 0 (nmF (σ.1 (L + 3) c) (σ.1 7 c) (σ.1 (L + 4) c) (σ.1 (L + 2) s) wt (σ.1 (L + 1) s) (σ.1 L 6))) (σ.1 (L + 3) c + σ.1 (L + 2) s - σ.1 (L + 4) c) (edS σ s) wt)).1 L 9 = σ.1 L 9 := hlp2.2.2.1 9 (by decide) (by decide)
  have e4 : (sI s16 (L + 1) s (gStone (lawV σ 0 (nmF (σ.1 (L + 3) c) (σ.1 7 c) (σ.1 (L + 4) c) (σ.1 (L + 2) s) wt (σ.1 (L + 1) s) (σ.1 L 6))) (σ.1 (L + 3) c + σ.1 (L + 2) s - σ.1 (L + 4) c) (edS σ s) wt)).1 (L + 4) c = σ.1 (L + 4) c := by rw [sI_ne _ (by omega)]; exact f4
  have h9 := hI.2.2.2.2.2.2.1
  refine e_aload_n (q := 53) (i := 1) dX10_lead_52 rfl rfl rfl ?_
  refine e_getI (q := 56) (jz := 9) dX10_lead_53 rfl fg_X10_137 rfl (by first | assumption | rfl) rfl ?_
  refine e_if_ne (q := 59) (tgt := 78) dX10_lead_56 rfl (by decide) (fun c56 => ?_) (fun c56 => ?_) (hx := ⟨by rw [e9]; omega, by rw [e9]; omega⟩)
  · exact r_v dX10_lead_78 rfl (by rw [e9] at c56; unfold yLead; rw [if_neg c56]; exact hlp2)
  · refine e_aload_n (q := 60) (i := 1) dX10_lead_59 rfl rfl rfl ?_
    refine e_getR (q := 63) dX10_lead_60 rfl fg_X10_95 (by first | assumption | rfl) rfl ?_
    refine e_iload_n (q := 64) (i := 2) dX10_lead_63 rfl rfl rfl ?_
    refine e_aload_n (q := 65) (i := 1) dX10_lead_64 rfl rfl rfl ?_
    refine e_getR (q := 68) dX10_lead_65 rfl fg_X10_95 (by first | assumption | rfl) rfl ?_
    refine e_iload_n (q := 69) (i := 2) dX10_lead_68 rfl rfl rfl ?_
    refine e_iald (q := 70) dX10_lead_69 rfl (by first | assumption | rfl) ?_
    refine e_iconst (q := 71) dX10_lead_70 rfl ?_
    refine e_iadd (q := 72) dX10_lead_71 rfl ?_
    refine e_bipush (q := 74) dX10_lead_72 rfl (by decide) ?_
    refine e_mmin (q := 77) dX10_lead_74 rfl ml_X10_140 mw_min_s mw_min_c mw_init (Nat.le_of_ble_eq_true rfl) (by decide) ?_
    refine e_iast (q := 78) dX10_lead_77 rfl (by first | assumption | rfl) ?_
    exact r_v dX10_lead_78 rfl (by rw [e9] at c56; unfold yLead; rw [if_pos c56, e4]; exact hlp2.tired c ⟨by omega, by omega⟩)

set_option maxHeartbeats 4000000 in
theorem c_X10_quarrelAll {G : Gx} {σ : Sg} {L : Nat} {wt : Int} (hT : TI σ) (hW : LW σ) (hI : LI σ L) (hL : isLand L) (hwt : wt = 0 ∨ wt = 1) : Con G 5 mX10_quarrelAll [.ref (G.2.2.2 + 54), .ref (G.2.2.2 + L), .int (iZ wt)] σ (pV (fun σ' => Lp σ σ' L (σ.1 (L + 1), σ.1 (L + 3), σ.1 (L + 4), qOut (lawV σ) (gOv (σ.1 3) (σ.1 4) (σ.1 (L + 1))) wt (σ.1 L 6) (σ.1 2 2) ((σ.1 2 2)).toNat (σ.1 L 5), σ.1 L 6))) := by
  have y0 := ly0 hL
  have y1 := ly1 hL
  have y2 := ly2 hL
  have y3 := ly3 hL
  have y4 := ly4 hL
  obtain ⟨hzz, -, hnp, hnc, hnb, hlb, hrn, hsd, hrw, hrq, hch, hbt, hck⟩ := id hT
  have lp : ∀ (n : Nat) (τ : Sg) (x4 x5 x6 x7 x8 : Option Value) (u i : Int), 0 ≤ i → i + n = (σ.1 2 2) → u = qOut (lawV σ) (gOv (σ.1 3) (σ.1 4) (σ.1 (L + 1))) wt (σ.1 L 6) (σ.1 2 2) (i).toNat (σ.1 L 5) → Lp σ τ L (σ.1 (L + 1), σ.1 (L + 3), σ.1 (L + 4), u, σ.1 L 6) → J G 5 mX10_quarrelAll (pV (fun σ' => Lp σ σ' L (σ.1 (L + 1), σ.1 (L + 3), σ.1 (L + 4), qOut (lawV σ) (gOv (σ.1 3) (σ.1 4) (σ.1 (L + 1))) wt (σ.1 L 6) (σ.1 2 2) ((σ.1 2 2)).toNat (σ.1 L 5), σ.1 L 6))) τ 2 [some (.ref (G.2.2.2 + 54)), some (.ref (G.2.2.2 + L)), some (.int (iZ wt)), some (.int (iZ i)), x4, x5, x6, x7, x8] [] := by
    intro n
    induction n with
    | zero =>
      intro τ x4 x5 x6 x7 x8 u i h0 hn hu hlp
      have n2 : τ.1 2 2 = (σ.1 2 2) := by rw [hlp.c hL (by decide) (by decide)]
      refine e_iload_n (q := 3) (i := 3) dX10_quarrelAll_2 rfl rfl rfl ?_
      refine e_aload_n (q := 4) (i := 0) dX10_quarrelAll_3 rfl rfl rfl ?_
      refine e_getR (q := 7) dX10_quarrelAll_4 rfl fg_X10_9 (by first | assumption | rfl) rfl ?_
      refine e_getI (q := 10) (jz := 2) dX10_quarrelAll_7 rfl fg_X10_145 rfl (by first | assumption | rfl) rfl ?_
      refine e_icmp_ge (q := 13) (tgt := 107) dX10_quarrelAll_10 rfl (by decide) (fun c10 => ?_) (fun c10 => absurd (by omega) c10)
      have ei : i = (σ.1 2 2) := by omega
      subst ei
      exact r_v dX10_quarrelAll_107 rfl (by rw [← hu]; exact hlp)
    | succ n ih =>
      intro τ x4 x5 x6 x7 x8 u i h0 hn hu hlp
      have n2 : τ.1 2 2 = (σ.1 2 2) := by rw [hlp.c hL (by decide) (by decide)]
      refine e_iload_n (q := 3) (i := 3) dX10_quarrelAll_2 rfl rfl rfl ?_
      refine e_aload_n (q := 4) (i := 0) dX10_quarrelAll_3 rfl rfl rfl ?_
      refine e_getR (q := 7) dX10_quarrelAll_4 rfl fg_X10_9 (by first | assumption | rfl) rfl ?_
      refine e_getI (q := 10) (jz := 2) dX10_quarrelAll_7 rfl fg_X10_145 rfl (by first | assumption | rfl) rfl ?_
      refine e_icmp_ge (q := 13) (tgt := 107) dX10_quarrelAll_10 rfl (by decide) (fun c10 => absurd c10 (by omega)) (fun c10 => ?_)
      refine e_iload_n (q := 14) (i := 3) dX10_quarrelAll_13 rfl rfl rfl ?_
      refine e_iconst (q := 15) dX10_quarrelAll_14 rfl ?_
      refine e_iadd (q := 16) dX10_quarrelAll_15 rfl ?_
      refine e_istore (q := 18) (L' := [_, _, _, _, _, _, _, _, _]) dX10_quarrelAll_16 rfl (by decide) rfl rfl ?_
      have lq : ∀ (k : Nat) (τ : Sg) (x5 x6 x7 x8 : Option Value) (v j : Int), i + 1 ≤ j → j + k = (σ.1 2 2) → v = qIn (lawV σ) (gOv (σ.1 3) (σ.1 4) (σ.1 (L + 1))) wt (σ.1 L 6) i (j - i - 1).toNat (u) → Lp σ τ L (σ.1 (L + 1), σ.1 (L + 3), σ.1 (L + 4), v, σ.1 L 6) → J G 5 mX10_quarrelAll (pV (fun σ' => Lp σ σ' L (σ.1 (L + 1), σ.1 (L + 3), σ.1 (L + 4), qOut (lawV σ) (gOv (σ.1 3) (σ.1 4) (σ.1 (L + 1))) wt (σ.1 L 6) (σ.1 2 2) ((σ.1 2 2)).toNat (σ.1 L 5), σ.1 L 6))) τ 18 [some (.ref (G.2.2.2 + 54)), some (.ref (G.2.2.2 + L)), some (.int (iZ wt)), some (.int (iZ i)), some (.int (iZ j)), x5, x6, x7, x8] [] := by
        intro k
        induction k with
        | zero =>
          intro τ x5 x6 x7 x8 v j h3 h4 hv hlp
          have hT' := hlp.TI hL hT
          have hW' := hlp.LW hL hW
          have hI' := hlp.2.2.2.2
          have e2 : τ.1 2 = σ.1 2 := hlp.c hL (by decide) (by decide)
          have n2 : τ.1 2 2 = (σ.1 2 2) := by rw [e2]
          have e3 : τ.1 3 = σ.1 3 := hlp.c hL (by decide) (by decide)
          have e4 : τ.1 4 = σ.1 4 := hlp.c hL (by decide) (by decide)
          have eF : τ.1 (L + 1) = σ.1 (L + 1) := congrArg (fun y : Yd => y.1) hlp.2.1
          have eQ : τ.1 L 5 = v := congrArg (fun y : Yd => y.2.2.2.1) hlp.2.1
          have eY : τ.1 L 6 = σ.1 L 6 := congrArg (fun y : Yd => y.2.2.2.2) hlp.2.1
          refine e_iload (q := 20) dX10_quarrelAll_18 rfl rfl ?_
          refine e_aload_n (q := 21) (i := 0) dX10_quarrelAll_20 rfl rfl rfl ?_
          refine e_getR (q := 24) dX10_quarrelAll_21 rfl fg_X10_9 (by first | assumption | rfl) rfl ?_
          refine e_getI (q := 27) (jz := 2) dX10_quarrelAll_24 rfl fg_X10_145 rfl (by first | assumption | rfl) rfl ?_
          refine e_icmp_ge (q := 30) (tgt := 101) dX10_quarrelAll_27 rfl (by decide) (fun c27 => ?_) (fun c27 => absurd (by omega) c27)
          refine e_iinc (q := 104) (L' := [_, _, _, _, _, _, _, _, _]) dX10_quarrelAll_101 rfl rfl (by decide) rfl rfl ?_
          refine e_goto (tgt := 2) dX10_quarrelAll_104 (by decide) ?_
          refine ih _ _ _ _ _ _ _ _ (by omega) (by omega) ?_ hlp
          rw [hv, hu, qOut_succ _ _ _ _ _ h0]
          congr 2
          omega
        | succ k ih2 =>
          intro τ x5 x6 x7 x8 v j h3 h4 hv hlp
          have hT' := hlp.TI hL hT
          have hW' := hlp.LW hL hW
          have hI' := hlp.2.2.2.2
          have e2 : τ.1 2 = σ.1 2 := hlp.c hL (by decide) (by decide)
          have n2 : τ.1 2 2 = (σ.1 2 2) := by rw [e2]
          have e3 : τ.1 3 = σ.1 3 := hlp.c hL (by decide) (by decide)
          have e4 : τ.1 4 = σ.1 4 := hlp.c hL (by decide) (by decide)
          have eF : τ.1 (L + 1) = σ.1 (L + 1) := congrArg (fun y : Yd => y.1) hlp.2.1
          have eQ : τ.1 L 5 = v := congrArg (fun y : Yd => y.2.2.2.1) hlp.2.1
          have eY : τ.1 L 6 = σ.1 L 6 := congrArg (fun y : Yd => y.2.2.2.2) hlp.2.1
          refine e_iload (q := 20) dX10_quarrelAll_18 rfl rfl ?_
          refine e_aload_n (q := 21) (i := 0) dX10_quarrelAll_20 rfl rfl rfl ?_
          refine e_getR (q := 24) dX10_quarrelAll_21 rfl fg_X10_9 (by first | assumption | rfl) rfl ?_
          refine e_getI (q := 27) (jz := 2) dX10_quarrelAll_24 rfl fg_X10_145 rfl (by first | assumption | rfl) rfl ?_
          refine e_icmp_ge (q := 30) (tgt := 101) dX10_quarrelAll_27 rfl (by decide) (fun c27 => absurd c27 (by omega)) (fun c27 => ?_)
          refine e_aload_n (q := 31) (i := 1) dX10_quarrelAll_30 rfl rfl rfl ?_
          refine e_iload_n (q := 32) (i := 3) dX10_quarrelAll_31 rfl rfl rfl ?_
          refine e_iload (q := 34) dX10_quarrelAll_32 rfl rfl ?_
          refine e_Vip (q := 37) (vs := [_, _]) ok_X2_shared ml_X10_148 dX10_quarrelAll_34 rfl ⟨_, _, rfl⟩ (by first | assumption | rfl) rfl rfl (Nat.le_of_ble_eq_true rfl) (by decide) (c_X2_shared hT' hI' hL (by omega) (by omega) (by omega) (by omega)) ?_
          rw [e3, e4, eF]
          have hov := gOv_in (p := i) (q := j) hT hI (by omega) (by omega) (by omega) (by omega)
          have hq := hI'.2.2.1
          have hyr := hI.2.2.2.1
          refine e_istore (q := 39) (L' := [_, _, _, _, _, _, _, _, _]) dX10_quarrelAll_37 rfl (by decide) rfl rfl ?_
          refine e_iload (q := 41) dX10_quarrelAll_39 rfl rfl ?_
          refine e_if_le (q := 44) (tgt := 95) dX10_quarrelAll_41 rfl (by decide) (fun c41 => ?_) (fun c41 => ?_)
          · refine e_iinc (q := 98) (L' := [_, _, _, _, _, _, _, _, _]) dX10_quarrelAll_95 rfl rfl (by decide) rfl rfl ?_
            refine e_goto (tgt := 18) dX10_quarrelAll_98 (by decide) ?_
            refine ih2 _ _ _ _ _ _ _ (by omega) (by omega) ?_ hlp
            rw [show j + 1 - i - 1 = (j - i - 1) + 1 by omega, qIn_succ _ _ _ _ _ (by omega), ← hv, show i + 1 + (j - i - 1) = j by omega]
            unfold qAdd
            rw [if_neg (by omega)]
          · refine e_aload_n (q := 45) (i := 0) dX10_quarrelAll_44 rfl rfl rfl ?_
            refine e_aload_n (q := 46) (i := 1) dX10_quarrelAll_45 rfl rfl rfl ?_
            refine e_iload (q := 48) dX10_quarrelAll_46 rfl rfl ?_
            refine e_iload_n (q := 49) (i := 2) dX10_quarrelAll_48 rfl rfl rfl ?_
            refine e_Vl (q := 52) (vs := [_, _, _]) ok_X10_quarl ml_X10_151 dX10_quarrelAll_49 rfl ⟨_, _, rfl⟩ (by first | assumption | rfl) rfl rfl (Nat.le_of_ble_eq_true rfl) (by decide) (c_X10_quarl hT' hW' hI' hL ⟨by omega, by omega⟩ hwt) (fun z49 s49 h49 => ?_)
            have ez : z49 = lawV σ 1 (nmF 0 0 0 0 wt ((gOv (σ.1 3) (σ.1 4) (σ.1 (L + 1))) i j) (σ.1 L 6)) := by rw [h49.1, hlp.lawV hL, eY]
            have hll := law_lim hW (r := 1) (by decide) (by decide) (nm := nmF 0 0 0 0 wt ((gOv (σ.1 3) (σ.1 4) (σ.1 (L + 1))) i j) (σ.1 L 6)) (by refine nmF_lim ⟨⟨?_, ?_⟩, ⟨?_, ?_⟩, ⟨?_, ?_⟩, ⟨?_, ?_⟩, ⟨?_, ?_⟩, ⟨?_, ?_⟩, ⟨?_, ?_⟩⟩ <;> omega)
            rw [← ez] at hll
            have hzR : R64 z49 := ⟨by omega, by omega⟩
            have hlp2 := hlp.aside hL h49.2
            have eQ2 : s49.1 L 5 = v := congrArg (fun y : Yd => y.2.2.2.1) hlp2.2.1
            rw [eQ] at hq
            refine e_lstore (q := 54) (L' := [_, _, _, _, _, _, _, _, _]) dX10_quarrelAll_52 rfl (by decide) rfl rfl ?_
            refine e_lload (q := 56) dX10_quarrelAll_54 rfl rfl ?_
            refine e_ldc2 (q := 59) (z := -9223372036854775808) dX10_quarrelAll_56 rfl kw_X10_108 (by decide) ?_
            refine e_lcmp (q := 60) dX10_quarrelAll_59 rfl hzR ⟨by omega, by omega⟩ ?_
            refine e_if_ne (q := 63) (tgt := 68) dX10_quarrelAll_60 rfl (by decide) (fun c60 => ?_) (fun c60 => ?_)
            · refine e_lload (q := 70) dX10_quarrelAll_68 rfl rfl ?_
              refine e_iconst (q := 71) dX10_quarrelAll_70 rfl ?_
              refine e_sipush (q := 74) dX10_quarrelAll_71 rfl (by decide) ?_
              refine e_Sip (q := 77) (vs := [_, _, _]) ok_X10_within ml_X10_113 dX10_quarrelAll_74 rfl rfl rfl (Nat.le_of_ble_eq_true rfl) (by decide) (c_X10_within hzR ⟨by omega, by omega⟩ ⟨by omega, by omega⟩) ?_
              refine e_istore (q := 79) (L' := [_, _, _, _, _, _, _, _, _]) dX10_quarrelAll_77 rfl (by decide) rfl rfl ?_
              refine e_aload_n (q := 80) (i := 1) dX10_quarrelAll_79 rfl rfl rfl ?_
              refine e_aload_n (q := 81) (i := 1) dX10_quarrelAll_80 rfl rfl rfl ?_
              refine e_getI (q := 84) (jz := 5) dX10_quarrelAll_81 rfl fg_X10_154 rfl (by first | assumption | rfl) rfl ?_
              refine e_iload (q := 86) dX10_quarrelAll_84 rfl rfl ?_
              refine e_iadd (q := 87) dX10_quarrelAll_86 rfl ?_
              refine e_ldc (q := 89) (z := 99999) dX10_quarrelAll_87 rfl kw_X10_157 (by decide) ?_
              refine e_mmin (q := 92) dX10_quarrelAll_89 rfl ml_X10_140 mw_min_s mw_min_c mw_init (Nat.le_of_ble_eq_true rfl) (by decide) ?_ (hx := ⟨by rw [eQ2]; first | omega | (unfold gWi; omega), by rw [eQ2]; first | omega | (unfold gWi; omega)⟩)
              refine e_putI (q := 95) (jz := 5) dX10_quarrelAll_92 rfl fp_X10_154 rfl (by first | assumption | rfl) rfl ?_
              refine e_iinc (q := 98) (L' := [_, _, _, _, _, _, _, _, _]) dX10_quarrelAll_95 rfl rfl (by decide) rfl rfl ?_
              refine e_goto (tgt := 18) dX10_quarrelAll_98 (by decide) ?_
              refine ih2 _ _ _ _ _ _ _ (by omega) (by omega) ?_ (hlp2.quar ⟨?_, ?_⟩)
              · rw [eQ2, show j + 1 - i - 1 = (j - i - 1) + 1 by omega, qIn_succ _ _ _ _ _ (by omega), ← hv, show i + 1 + (j - i - 1) = j by omega]
                unfold qAdd
                rw [if_pos (by omega), ← ez]
                first | (rw [if_pos (by omega)]; done) | (rw [if_neg (by omega)]; done)
              · rw [eQ2]
                first | omega | (unfold gWi; omega)
              · omega
            · refine e_iload (q := 65) dX10_quarrelAll_63 rfl rfl ?_
              refine e_goto (tgt := 77) dX10_quarrelAll_65 (by decide) ?_
              refine e_istore (q := 79) (L' := [_, _, _, _, _, _, _, _, _]) dX10_quarrelAll_77 rfl (by decide) rfl rfl ?_
              refine e_aload_n (q := 80) (i := 1) dX10_quarrelAll_79 rfl rfl rfl ?_
              refine e_aload_n (q := 81) (i := 1) dX10_quarrelAll_80 rfl rfl rfl ?_
              refine e_getI (q := 84) (jz := 5) dX10_quarrelAll_81 rfl fg_X10_154 rfl (by first | assumption | rfl) rfl ?_
              refine e_iload (q := 86) dX10_quarrelAll_84 rfl rfl ?_
              refine e_iadd (q := 87) dX10_quarrelAll_86 rfl ?_
              refine e_ldc (q := 89) (z := 99999) dX10_quarrelAll_87 rfl kw_X10_157 (by decide) ?_
              refine e_mmin (q := 92) dX10_quarrelAll_89 rfl ml_X10_140 mw_min_s mw_min_c mw_init (Nat.le_of_ble_eq_true rfl) (by decide) ?_ (hx := ⟨by rw [eQ2]; first | omega | (unfold gWi; omega), by rw [eQ2]; first | omega | (unfold gWi; omega)⟩)
              refine e_putI (q := 95) (jz := 5) dX10_quarrelAll_92 rfl fp_X10_154 rfl (by first | assumption | rfl) rfl ?_
              refine e_iinc (q := 98) (L' := [_, _, _, _, _, _, _, _, _]) dX10_quarrelAll_95 rfl rfl (by decide) rfl rfl ?_
              refine e_goto (tgt := 18) dX10_quarrelAll_98 (by decide) ?_
              refine ih2 _ _ _ _ _ _ _ (by omega) (by omega) ?_ (hlp2.quar ⟨?_, ?_⟩)
              · rw [eQ2, show j + 1 - i - 1 = (j - i - 1) + 1 by omega, qIn_succ _ _ _ _ _ (by omega), ← hv, show i + 1 + (j - i - 1) = j by omega]
                unfold qAdd
                rw [if_pos (by omega), ← ez]
                first | (rw [if_pos (by omega)]; done) | (rw [if_neg (by omega)]; done)
              · rw [eQ2]
                first | omega | (unfold gWi; omega)
              · omega
      exact lq ((σ.1 2 2) - i - 1).toNat _ _ _ _ _ u _ (by omega) (by omega) (by rw [show i + 1 - i - 1 = 0 by omega]; rfl) hlp
  refine e_entry om_X10_quarrelAll (Nat.le_of_ble_eq_true rfl) (L := [some (.ref (G.2.2.2 + 54)), some (.ref (G.2.2.2 + L)), some (.int (iZ wt)), none, none, none, none, none, none]) rfl ?_
  refine e_iconst (q := 1) dX10_quarrelAll_0 rfl ?_
  refine e_istore_n (q := 2) (i := 3) (L' := [_, _, _, _, _, _, _, _, _]) dX10_quarrelAll_1 rfl rfl (by decide) rfl rfl ?_
  exact lp ((σ.1 2 2)).toNat σ _ _ _ _ _ _ 0 (by omega) (by omega) rfl (Lp.rf hI)

