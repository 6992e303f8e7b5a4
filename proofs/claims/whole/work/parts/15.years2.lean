theorem TI.fr {C : List Nat} {σ σ' : Sg} (h : TI σ) (hF : Fr C σ σ') (hC : ∀ a, 2 ≤ a → a ≤ 12 → a ∉ C) : TI σ' := by
  unfold TI
  rw [(hF 2 (hC 2 (by decide) (by decide))).1, (hF 3 (hC 3 (by decide) (by decide))).1, (hF 4 (hC 4 (by decide) (by decide))).1, (hF 5 (hC 5 (by decide) (by decide))).1, (hF 6 (hC 6 (by decide) (by decide))).1, (hF 7 (hC 7 (by decide) (by decide))).1, (hF 8 (hC 8 (by decide) (by decide))).1, (hF 9 (hC 9 (by decide) (by decide))).1, (hF 10 (hC 10 (by decide) (by decide))).1, (hF 11 (hC 11 (by decide) (by decide))).1, (hF 12 (hC 12 (by decide) (by decide))).1]
  exact h
theorem TB.fr {C : List Nat} {σ σ' : Sg} (h : TB σ) (hF : Fr C σ σ') (hC : ∀ a, 2 ≤ a → a ≤ 12 → a ∉ C) : TB σ' := by
  unfold TB
  rw [(hF 2 (hC 2 (by decide) (by decide))).1, (hF 9 (hC 9 (by decide) (by decide))).1, (hF 10 (hC 10 (by decide) (by decide))).1]
  exact h
theorem edS.fr {C : List Nat} {σ σ' : Sg} (hF : Fr C σ σ') (hC : ∀ a, 2 ≤ a → a ≤ 12 → a ∉ C) (s : Int) : edS σ' s = edS σ s := by
  unfold edS
  rw [(hF 2 (hC 2 (by decide) (by decide))).1, (hF 3 (hC 3 (by decide) (by decide))).1, (hF 4 (hC 4 (by decide) (by decide))).1]
theorem LI.fr {C : List Nat} {σ σ' : Sg} {L : Nat} (h : LI σ L) (hF : Fr C σ σ') (hC : ∀ a, L ≤ a → a ≤ L + 4 → a ∉ C) : LI σ' L := by
  unfold LI
  rw [(hF L (hC L (by omega) (by omega))).1, (hF L (hC L (by omega) (by omega))).2, (hF (L + 1) (hC (L + 1) (by omega) (by omega))).1, (hF (L + 2) (hC (L + 2) (by omega) (by omega))).1, (hF (L + 3) (hC (L + 3) (by omega) (by omega))).1, (hF (L + 4) (hC (L + 4) (by omega) (by omega))).1]
  exact h
theorem nc_T {L : Nat} (hL : isLand L) : ∀ a, 2 ≤ a → a ≤ 12 → a ∉ [L, L + 1, L + 3, L + 4, 17, 55] := by
  intro a h1 h2 h3
  simp only [List.mem_cons, List.not_mem_nil, or_false] at h3
  rcases hL with rfl | rfl | rfl | rfl <;> omega
theorem nc_2 : ∀ a, 2 ≤ a → a ≤ 12 → a ∉ [17, 55] := by
  intro a h1 h2 h3
  simp only [List.mem_cons, List.not_mem_nil, or_false] at h3
  omega
theorem nc_L {L : Nat} (hL : isLand L) : ∀ a, L ≤ a → a ≤ L + 4 → a ∉ [17, 55] := by
  intro a h1 h2 h3
  simp only [List.mem_cons, List.not_mem_nil, or_false] at h3
  rcases hL with rfl | rfl | rfl | rfl <;> omega
theorem nm7 {σ : Sg} {a b c d e f g : Int} (i : Int) (h0 : 0 ≤ i) (h1 : i < 7) : (sJ (sJ (sJ (sJ (sJ (sJ (sJ σ 55 0 a) 55 1 b) 55 2 c) 55 3 d) 55 4 e) 55 5 f) 55 6 g).2 55 i = nmF a b c d e f g i := by
  rcases (show i = 0 ∨ i = 1 ∨ i = 2 ∨ i = 3 ∨ i = 4 ∨ i = 5 ∨ i = 6 by omega) with rfl | rfl | rfl | rfl | rfl | rfl | rfl <;> simp [sJ_2, nmF]
theorem fr7 {σ : Sg} {a b c d e f g : Int} : Fr [17, 55] σ (sJ (sJ (sJ (sJ (sJ (sJ (sJ σ 55 0 a) 55 1 b) 55 2 c) 55 3 d) 55 4 e) 55 5 f) 55 6 g) :=
  (((((((Fr.rf _ σ).sJ (by decide) _ _).sJ (by decide) _ _).sJ (by decide) _ _).sJ (by decide) _ _).sJ (by decide) _ _).sJ (by decide) _ _).sJ (by decide) _ _
theorem fr3 {σ : Sg} {a b c : Int} : Fr [17, 55] σ (sJ (sJ (sJ σ 55 0 a) 55 1 b) 55 2 c) := (((Fr.rf _ σ).sJ (by decide) _ _).sJ (by decide) _ _).sJ (by decide) _ _
theorem law_lim {σ : Sg} (hW : LW σ) {r : Int} (h0 : 0 ≤ r) (h1 : r < 3) {nm : Int → Int} (hn : ∀ i, 0 ≤ i → i < 7 → -1000000000000 ≤ nm i ∧ nm i ≤ 1000000000000) : lawV σ r nm = -9223372036854775808 ∨ (-1000000000000 ≤ lawV σ r nm ∧ lawV σ r nm ≤ 1000000000000) := evLaw_lim hn (hW r h0 h1).2.2.2
/-- a land goes on: only it and what is aside have changed -/
def Lp (σ σ' : Sg) (L : Nat) (y : Yd) : Prop := Fr [L, L + 1, L + 3, L + 4, 17, 55] σ σ' ∧ ydv σ' L = y ∧ (∀ i, i ≠ 5 → i ≠ 6 → σ'.1 L i = σ.1 L i) ∧ σ'.2 L = σ.2 L ∧ LI σ' L
theorem Lp.tr {σ τ σ' : Sg} {L : Nat} {y y' : Yd} (h : Lp σ τ L y) (h' : Lp τ σ' L y') : Lp σ σ' L y' := ⟨h.1.tr h'.1, h'.2.1, fun i a b => (h'.2.2.1 i a b).trans (h.2.2.1 i a b), h'.2.2.2.1.trans h.2.2.2.1, h'.2.2.2.2⟩
theorem Lp.rf {σ : Sg} {L : Nat} (h : LI σ L) : Lp σ σ L (ydv σ L) := ⟨Fr.rf _ _, rfl, fun _ _ _ => rfl, rfl, h⟩
theorem Lp.TI {σ τ : Sg} {L : Nat} {y : Yd} (h : Lp σ τ L y) (hL : isLand L) (hT : TI σ) : TI τ := hT.fr h.1 (nc_T hL)
theorem Lp.TB {σ τ : Sg} {L : Nat} {y : Yd} (h : Lp σ τ L y) (hL : isLand L) (hT : TB σ) : TB τ := hT.fr h.1 (nc_T hL)
theorem Lp.LW {σ τ : Sg} {L : Nat} {y : Yd} (h : Lp σ τ L y) (hL : isLand L) (hT : LW σ) : LW τ := by
  refine hT.fr h.1 ?_ ?_ ?_ <;> (intro q; simp only [List.mem_cons, List.not_mem_nil, or_false] at q; rcases hL with rfl | rfl | rfl | rfl <;> omega)
theorem Lp.lawV {σ τ : Sg} {L : Nat} {y : Yd} (h : Lp σ τ L y) (hL : isLand L) : lawV τ = lawV σ := by
  funext r nm
  refine lawV.fr h.1 ?_ ?_ ?_ r nm <;> (intro q; simp only [List.mem_cons, List.not_mem_nil, or_false] at q; rcases hL with rfl | rfl | rfl | rfl <;> omega)
theorem Lp.edS {σ τ : Sg} {L : Nat} {y : Yd} (h : Lp σ τ L y) (hL : isLand L) : edS τ = edS σ := by
  funext s
  exact edS.fr h.1 (nc_T hL) s
theorem Lp.c {σ τ : Sg} {L : Nat} {y : Yd} (h : Lp σ τ L y) (hL : isLand L) {a : Nat} (h1 : 2 ≤ a) (h2 : a ≤ 12) : τ.1 a = σ.1 a := (h.1 a (nc_T hL a h1 h2)).1
theorem Lp.ck {σ τ : Sg} {L : Nat} {y : Yd} (h : Lp σ τ L y) (hL : isLand L) : τ.1 (L + 2) = σ.1 (L + 2) := by
  refine (h.1 (L + 2) ?_).1
  intro q
  simp only [List.mem_cons, List.not_mem_nil, or_false] at q
  rcases hL with rfl | rfl | rfl | rfl <;> omega

theorem c_X10_walk {G : Gx} {σ : Sg} {L : Nat} {c s sw wt : Int} (hT : TI σ) (hW : LW σ) (hI : LI σ L) (hL : isLand L) (hc : 0 ≤ c) (hc6 : c < 6) (hs : 0 ≤ s) (hs16 : s < 16) (hsw : 0 ≤ sw ∧ sw ≤ 9) (hwt : wt = 0 ∨ wt = 1) : Con G 3 mX10_walk [.ref (G.2.2.2 + 54), .ref (G.2.2.2 + L), .int (iZ c), .int (iZ s), .int (iZ sw), .int (iZ wt)] σ (pL (fun z σ' => z = lawV σ 0 (nmF (σ.1 (L + 3) c) (σ.1 7 c) (σ.1 (L + 4) c) (sw) (wt) (σ.1 (L + 1) s) (σ.1 L 6)) ∧ Fr [17, 55] σ σ')) := by
  have y0 := ly0 hL
  have y1 := ly1 hL
  have y2 := ly2 hL
  have y3 := ly3 hL
  have y4 := ly4 hL
  obtain ⟨hzz, -, hnp, hnc, hnb, hlb, hrn, hsd, hrw, hrq, hch, hbt, hck⟩ := id hT
  have hb := hI.2.1 c hc hc6
  have hm := hch c hc hc6
  have hfs := hI.1 s hs hs16
  have hyr := hI.2.2.2.1
  refine e_entry om_X10_walk (Nat.le_of_ble_eq_true rfl) (L := [some (.ref (G.2.2.2 + 54)), some (.ref (G.2.2.2 + L)), some (.int (iZ c)), some (.int (iZ s)), some (.int (iZ sw)), some (.int (iZ wt))]) rfl ?_
  refine e_aload_n (q := 1) (i := 0) dX10_walk_0 rfl rfl rfl ?_
  refine e_aload_n (q := 2) (i := 1) dX10_walk_1 rfl rfl rfl ?_
  refine e_iload_n (q := 3) (i := 2) dX10_walk_2 rfl rfl rfl ?_
  refine e_Vv (q := 6) (vs := [_, _]) ok_X10_ofChild ml_X10_158 dX10_walk_3 rfl ⟨_, _, rfl⟩ (by first | assumption | rfl) rfl rfl (Nat.le_of_ble_eq_true rfl) (by decide) (c_X10_ofChild hT hI hL hc hc6) (fun s3 h3 => ?_)
  subst h3
  refine e_aload_n (q := 7) (i := 0) dX10_walk_6 rfl rfl rfl ?_
  refine e_aload_n (q := 8) (i := 1) dX10_walk_7 rfl rfl rfl ?_
  refine e_iload (q := 10) dX10_walk_8 rfl rfl ?_
  refine e_iload (q := 12) dX10_walk_10 rfl rfl ?_
  refine e_aload_n (q := 13) (i := 1) dX10_walk_12 rfl rfl rfl ?_
  refine e_getR (q := 16) dX10_walk_13 rfl fg_X10_130 (by first | assumption | rfl) rfl ?_
  refine e_iload_n (q := 17) (i := 3) dX10_walk_16 rfl rfl rfl ?_
  refine e_iald (q := 18) dX10_walk_17 rfl (by first | assumption | rfl) ?_
  refine e_Vv (q := 21) (vs := [_, _, _, _]) ok_X10_ofYear ml_X10_162 dX10_walk_18 rfl ⟨_, _, rfl⟩ (by first | assumption | rfl) rfl rfl (Nat.le_of_ble_eq_true rfl) (by decide) (c_X10_ofYear (hI.fr fr3 (nc_L hL)) hL ⟨by omega, by omega⟩ hwt (show R32 (σ.1 (L + 1) s) from ⟨by omega, by omega⟩)) (fun s18 h18 => ?_)
  subst h18
  refine e_aload_n (q := 22) (i := 0) dX10_walk_21 rfl rfl rfl ?_
  refine e_getR (q := 25) dX10_walk_22 rfl fg_X10_9 (by first | assumption | rfl) rfl ?_
  refine e_getR (q := 28) dX10_walk_25 rfl fg_X10_166 (by first | assumption | rfl) rfl ?_
  refine e_iconst (q := 29) dX10_walk_28 rfl ?_
  refine e_aload_n (q := 30) (i := 0) dX10_walk_29 rfl rfl rfl ?_
  refine e_getR (q := 33) dX10_walk_30 rfl fg_X10_17 (by first | assumption | rfl) rfl ?_
  have hnl : ∀ i, 0 ≤ i → i < 7 → -1000000000000 ≤ (nmF (σ.1 (L + 3) c) (σ.1 7 c) (σ.1 (L + 4) c) (sw) (wt) (σ.1 (L + 1) s) (σ.1 L 6)) i ∧ (nmF (σ.1 (L + 3) c) (σ.1 7 c) (σ.1 (L + 4) c) (sw) (wt) (σ.1 (L + 1) s) (σ.1 L 6)) i ≤ 1000000000000 := (by refine nmF_lim ⟨⟨?_, ?_⟩, ⟨?_, ?_⟩, ⟨?_, ?_⟩, ⟨?_, ?_⟩, ⟨?_, ?_⟩, ⟨?_, ?_⟩, ⟨?_, ?_⟩⟩ <;> omega)
  refine e_Vl (q := 36) (vs := [_, _]) ok_X3_work ml_X10_170 dX10_walk_33 rfl ⟨_, _, rfl⟩ (by first | assumption | rfl) rfl rfl (Nat.le_of_ble_eq_true rfl) (by decide) (c_X3_work (σ := sJ (sJ (sJ (sJ (sJ (sJ (sJ σ 55 0 (σ.1 (L + 3) c)) 55 1 (σ.1 7 c)) 55 2 (σ.1 (L + 4) c)) 55 3 (sw)) 55 4 (wt)) 55 5 (σ.1 (L + 1) s)) 55 6 (σ.1 L 6)) (r := 0) (by decide) (by decide) (hW 0 (by decide) (by decide)).1 (hW 0 (by decide) (by decide)).2.1 (hW 0 (by decide) (by decide)).2.2.1 (hW 0 (by decide) (by decide)).2.2.2 (fun i h0 h1 => by rw [nm7 i h0 h1]; exact hnl i h0 h1)) (fun zW sW hWk => ?_)
  exact r_l dX10_walk_36 rfl ⟨by rw [hWk.1]; exact evLaw_nm (fun i h0 h1 => nm7 i h0 h1) _ _ _, fr7.tr (hWk.2.mono (by decide))⟩

theorem c_X10_grow {G : Gx} {σ : Sg} {L : Nat} {c wt : Int} (hT : TI σ) (hW : LW σ) (hI : LI σ L) (hL : isLand L) (hc : 0 ≤ c) (hc6 : c < 6) (hwt : wt = 0 ∨ wt = 1) : Con G 3 mX10_grow [.ref (G.2.2.2 + 54), .ref (G.2.2.2 + L), .int (iZ c), .int (iZ wt)] σ (pL (fun z σ' => z = lawV σ 2 (nmF (σ.1 (L + 3) c) (σ.1 7 c) (σ.1 (L + 4) c) (0) (wt) (0) (σ.1 L 6)) ∧ Fr [17, 55] σ σ')) := by
  have y0 := ly0 hL
  have y1 := ly1 hL
  have y2 := ly2 hL
  have y3 := ly3 hL
  have y4 := ly4 hL
  obtain ⟨hzz, -, hnp, hnc, hnb, hlb, hrn, hsd, hrw, hrq, hch, hbt, hck⟩ := id hT
  have hb := hI.2.1 c hc hc6
  have hm := hch c hc hc6
  have hyr := hI.2.2.2.1
  refine e_entry om_X10_grow (Nat.le_of_ble_eq_true rfl) (L := [some (.ref (G.2.2.2 + 54)), some (.ref (G.2.2.2 + L)), some (.int (iZ c)), some (.int (iZ wt))]) rfl ?_
  refine e_aload_n (q := 1) (i := 0) dX10_grow_0 rfl rfl rfl ?_
  refine e_aload_n (q := 2) (i := 1) dX10_grow_1 rfl rfl rfl ?_
  refine e_iload_n (q := 3) (i := 2) dX10_grow_2 rfl rfl rfl ?_
  refine e_Vv (q := 6) (vs := [_, _]) ok_X10_ofChild ml_X10_158 dX10_grow_3 rfl ⟨_, _, rfl⟩ (by first | assumption | rfl) rfl rfl (Nat.le_of_ble_eq_true rfl) (by decide) (c_X10_ofChild hT hI hL hc hc6) (fun s3 h3 => ?_)
  subst h3
  refine e_aload_n (q := 7) (i := 0) dX10_grow_6 rfl rfl rfl ?_
  refine e_aload_n (q := 8) (i := 1) dX10_grow_7 rfl rfl rfl ?_
  refine e_iconst (q := 9) dX10_grow_8 rfl ?_
  refine e_iload_n (q := 10) (i := 3) dX10_grow_9 rfl rfl rfl ?_
  refine e_iconst (q := 11) dX10_grow_10 rfl ?_
  refine e_Vv (q := 14) (vs := [_, _, _, _]) ok_X10_ofYear ml_X10_162 dX10_grow_11 rfl ⟨_, _, rfl⟩ (by first | assumption | rfl) rfl rfl (Nat.le_of_ble_eq_true rfl) (by decide) (c_X10_ofYear (hI.fr fr3 (nc_L hL)) hL ⟨by omega, by omega⟩ hwt ⟨by omega, by omega⟩) (fun s11 h11 => ?_)
  subst h11
  refine e_aload_n (q := 15) (i := 0) dX10_grow_14 rfl rfl rfl ?_
  refine e_getR (q := 18) dX10_grow_15 rfl fg_X10_9 (by first | assumption | rfl) rfl ?_
  refine e_getR (q := 21) dX10_grow_18 rfl fg_X10_166 (by first | assumption | rfl) rfl ?_
  refine e_iconst (q := 22) dX10_grow_21 rfl ?_
  refine e_aload_n (q := 23) (i := 0) dX10_grow_22 rfl rfl rfl ?_
  refine e_getR (q := 26) dX10_grow_23 rfl fg_X10_17 (by first | assumption | rfl) rfl ?_
  have hnl : ∀ i, 0 ≤ i → i < 7 → -1000000000000 ≤ (nmF (σ.1 (L + 3) c) (σ.1 7 c) (σ.1 (L + 4) c) (0) (wt) (0) (σ.1 L 6)) i ∧ (nmF (σ.1 (L + 3) c) (σ.1 7 c) (σ.1 (L + 4) c) (0) (wt) (0) (σ.1 L 6)) i ≤ 1000000000000 := (by refine nmF_lim ⟨⟨?_, ?_⟩, ⟨?_, ?_⟩, ⟨?_, ?_⟩, ⟨?_, ?_⟩, ⟨?_, ?_⟩, ⟨?_, ?_⟩, ⟨?_, ?_⟩⟩ <;> omega)
  refine e_Vl (q := 29) (vs := [_, _]) ok_X3_work ml_X10_170 dX10_grow_26 rfl ⟨_, _, rfl⟩ (by first | assumption | rfl) rfl rfl (Nat.le_of_ble_eq_true rfl) (by decide) (c_X3_work (σ := sJ (sJ (sJ (sJ (sJ (sJ (sJ σ 55 0 (σ.1 (L + 3) c)) 55 1 (σ.1 7 c)) 55 2 (σ.1 (L + 4) c)) 55 3 (0)) 55 4 (wt)) 55 5 (0)) 55 6 (σ.1 L 6)) (r := 2) (by decide) (by decide) (hW 2 (by decide) (by decide)).1 (hW 2 (by decide) (by decide)).2.1 (hW 2 (by decide) (by decide)).2.2.1 (hW 2 (by decide) (by decide)).2.2.2 (fun i h0 h1 => by rw [nm7 i h0 h1]; exact hnl i h0 h1)) (fun zW sW hWk => ?_)
  exact r_l dX10_grow_29 rfl ⟨by rw [hWk.1]; exact evLaw_nm (fun i h0 h1 => nm7 i h0 h1) _ _ _, fr7.tr (hWk.2.mono (by decide))⟩

theorem c_X10_quarl {G : Gx} {σ : Sg} {L : Nat} {ov wt : Int} (hT : TI σ) (hW : LW σ) (hI : LI σ L) (hL : isLand L) (hov : 0 ≤ ov ∧ ov ≤ 100000) (hwt : wt = 0 ∨ wt = 1) : Con G 3 mX10_quarl [.ref (G.2.2.2 + 54), .ref (G.2.2.2 + L), .int (iZ ov), .int (iZ wt)] σ (pL (fun z σ' => z = lawV σ 1 (nmF (0) (0) (0) (0) (wt) (ov) (σ.1 L 6)) ∧ Fr [17, 55] σ σ')) := by
  have y0 := ly0 hL
  have y1 := ly1 hL
  have y2 := ly2 hL
  have y3 := ly3 hL
  have y4 := ly4 hL
  obtain ⟨hzz, -, hnp, hnc, hnb, hlb, hrn, hsd, hrw, hrq, hch, hbt, hck⟩ := id hT
  have hyr := hI.2.2.2.1
  refine e_entry om_X10_quarl (Nat.le_of_ble_eq_true rfl) (L := [some (.ref (G.2.2.2 + 54)), some (.ref (G.2.2.2 + L)), some (.int (iZ ov)), some (.int (iZ wt))]) rfl ?_
  refine e_aload_n (q := 1) (i := 0) dX10_quarl_0 rfl rfl rfl ?_
  refine e_getR (q := 4) dX10_quarl_1 rfl fg_X10_17 (by first | assumption | rfl) rfl ?_
  refine e_iconst (q := 5) dX10_quarl_4 rfl ?_
  refine e_lconst (q := 6) (z := 0) dX10_quarl_5 rfl (by decide) ?_
  refine e_last (q := 7) dX10_quarl_6 rfl (by first | assumption | rfl) ?_
  refine e_aload_n (q := 8) (i := 0) dX10_quarl_7 rfl rfl rfl ?_
  refine e_getR (q := 11) dX10_quarl_8 rfl fg_X10_17 (by first | assumption | rfl) rfl ?_
  refine e_iconst (q := 12) dX10_quarl_11 rfl ?_
  refine e_lconst (q := 13) (z := 0) dX10_quarl_12 rfl (by decide) ?_
  refine e_last (q := 14) dX10_quarl_13 rfl (by first | assumption | rfl) ?_
  refine e_aload_n (q := 15) (i := 0) dX10_quarl_14 rfl rfl rfl ?_
  refine e_getR (q := 18) dX10_quarl_15 rfl fg_X10_17 (by first | assumption | rfl) rfl ?_
  refine e_iconst (q := 19) dX10_quarl_18 rfl ?_
  refine e_lconst (q := 20) (z := 0) dX10_quarl_19 rfl (by decide) ?_
  refine e_last (q := 21) dX10_quarl_20 rfl (by first | assumption | rfl) ?_
  refine e_aload_n (q := 22) (i := 0) dX10_quarl_21 rfl rfl rfl ?_
  refine e_aload_n (q := 23) (i := 1) dX10_quarl_22 rfl rfl rfl ?_
  refine e_iconst (q := 24) dX10_quarl_23 rfl ?_
  refine e_iload_n (q := 25) (i := 3) dX10_quarl_24 rfl rfl rfl ?_
  refine e_iload_n (q := 26) (i := 2) dX10_quarl_25 rfl rfl rfl ?_
  refine e_Vv (q := 29) (vs := [_, _, _, _]) ok_X10_ofYear ml_X10_162 dX10_quarl_26 rfl ⟨_, _, rfl⟩ (by first | assumption | rfl) rfl rfl (Nat.le_of_ble_eq_true rfl) (by decide) (c_X10_ofYear (hI.fr fr3 (nc_L hL)) hL ⟨by omega, by omega⟩ hwt ⟨by omega, by omega⟩) (fun s26 h26 => ?_)
  subst h26
  refine e_aload_n (q := 30) (i := 0) dX10_quarl_29 rfl rfl rfl ?_
  refine e_getR (q := 33) dX10_quarl_30 rfl fg_X10_9 (by first | assumption | rfl) rfl ?_
  refine e_getR (q := 36) dX10_quarl_33 rfl fg_X10_166 (by first | assumption | rfl) rfl ?_
  refine e_iconst (q := 37) dX10_quarl_36 rfl ?_
  refine e_aload_n (q := 38) (i := 0) dX10_quarl_37 rfl rfl rfl ?_
  refine e_getR (q := 41) dX10_quarl_38 rfl fg_X10_17 (by first | assumption | rfl) rfl ?_
  have hnl : ∀ i, 0 ≤ i → i < 7 → -1000000000000 ≤ (nmF (0) (0) (0) (0) (wt) (ov) (σ.1 L 6)) i ∧ (nmF (0) (0) (0) (0) (wt) (ov) (σ.1 L 6)) i ≤ 1000000000000 := (by refine nmF_lim ⟨⟨?_, ?_⟩, ⟨?_, ?_⟩, ⟨?_, ?_⟩, ⟨?_, ?_⟩, ⟨?_, ?_⟩, ⟨?_, ?_⟩, ⟨?_, ?_⟩⟩ <;> omega)
  refine e_Vl (q := 44) (vs := [_, _]) ok_X3_work ml_X10_170 dX10_quarl_41 rfl ⟨_, _, rfl⟩ (by first | assumption | rfl) rfl rfl (Nat.le_of_ble_eq_true rfl) (by decide) (c_X3_work (σ := sJ (sJ (sJ (sJ (sJ (sJ (sJ σ 55 0 (0)) 55 1 (0)) 55 2 (0)) 55 3 (0)) 55 4 (wt)) 55 5 (ov)) 55 6 (σ.1 L 6)) (r := 1) (by decide) (by decide) (hW 1 (by decide) (by decide)).1 (hW 1 (by decide) (by decide)).2.1 (hW 1 (by decide) (by decide)).2.2.1 (hW 1 (by decide) (by decide)).2.2.2 (fun i h0 h1 => by rw [nm7 i h0 h1]; exact hnl i h0 h1)) (fun zW sW hWk => ?_)
  exact r_l dX10_quarl_44 rfl ⟨by rw [hWk.1]; exact evLaw_nm (fun i h0 h1 => nm7 i h0 h1) _ _ _, fr7.tr (hWk.2.mono (by decide))⟩

theorem c_X10_stoneFar {G : Gx} {σ : Sg} {law str s wt : Int} (hT : TI σ) (hlw : R64 law) (hst : -1000 ≤ str ∧ str ≤ 1000) (hs : 0 ≤ s) (hs16 : s < 16) (hwt : wt = 0 ∨ wt = 1) : Con G 2 mX10_stoneFar [.ref (G.2.2.2 + 54), .long (lZ law), .int (iZ str), .int (iZ s), .int (iZ wt)] σ (pI (pE σ (gStone law str (gEdge (σ.1 3) (σ.1 4) (σ.1 2 0) (s / 4) (s % 4)) wt))) := by
  obtain ⟨hzz, -, hnp, hnc, hnb, hlb, hrn, hsd, hrw, hrq, hch, hbt, hck⟩ := id hT
  have hr := hrw (s / 4) (by omega) (by omega)
  have hed : -40 ≤ gEdge (σ.1 3) (σ.1 4) (σ.1 2 0) (s / 4) (s % 4) ∧ gEdge (σ.1 3) (σ.1 4) (σ.1 2 0) (s / 4) (s % 4) ≤ 40 := by
    unfold gEdge
    split
    · omega
    split
    · omega
    split <;> omega
  refine e_entry om_X10_stoneFar (Nat.le_of_ble_eq_true rfl) (L := [some (.ref (G.2.2.2 + 54)), some (.long (lZ law)), none, some (.int (iZ str)), some (.int (iZ s)), some (.int (iZ wt)), none, none]) rfl ?_
  refine e_iload (q := 2) dX10_stoneFar_0 rfl rfl ?_
  refine e_if_eq (q := 5) (tgt := 15) dX10_stoneFar_2 rfl (by decide) (fun c2 => ?_) (fun c2 => ?_)
  · refine e_iload_n (q := 16) (i := 3) dX10_stoneFar_15 rfl rfl rfl ?_
    refine e_iconst (q := 17) dX10_stoneFar_16 rfl ?_
    refine e_mmax (q := 20) dX10_stoneFar_17 rfl ml_X10_98 mw_max_s mw_max_c mw_init (Nat.le_of_ble_eq_true rfl) (by decide) ?_
    refine e_istore (q := 22) (L' := [_, _, _, _, _, _, _, _]) dX10_stoneFar_20 rfl (by decide) rfl rfl ?_
    refine e_lload_n (q := 23) (i := 1) dX10_stoneFar_22 rfl rfl rfl ?_
    refine e_ldc2 (q := 26) (z := -9223372036854775808) dX10_stoneFar_23 rfl kw_X10_108 (by decide) ?_
    refine e_lcmp (q := 27) dX10_stoneFar_26 rfl hlw ⟨by omega, by omega⟩ ?_
    refine e_if_ne (q := 30) (tgt := 35) dX10_stoneFar_27 rfl (by decide) (fun c27 => ?_) (fun c27 => ?_)
    · refine e_lload_n (q := 36) (i := 1) dX10_stoneFar_35 rfl rfl rfl ?_
      refine e_iconst (q := 37) dX10_stoneFar_36 rfl ?_
      refine e_bipush (q := 39) dX10_stoneFar_37 rfl (by decide) ?_
      refine e_Sip (q := 42) (vs := [_, _, _]) ok_X10_within ml_X10_113 dX10_stoneFar_39 rfl rfl rfl (Nat.le_of_ble_eq_true rfl) (by decide) (c_X10_within hlw ⟨by omega, by omega⟩ ⟨by omega, by omega⟩) ?_
      refine e_istore (q := 44) (L' := [_, _, _, _, _, _, _, _]) dX10_stoneFar_42 rfl (by decide) rfl rfl ?_
      refine e_iload (q := 46) dX10_stoneFar_44 rfl rfl ?_
      refine e_aload_n (q := 47) (i := 0) dX10_stoneFar_46 rfl rfl rfl ?_
      refine e_getR (q := 50) dX10_stoneFar_47 rfl fg_X10_9 (by first | assumption | rfl) rfl ?_
      refine e_iload (q := 52) dX10_stoneFar_50 rfl rfl ?_
      refine e_iconst (q := 53) dX10_stoneFar_52 rfl ?_
      refine e_idiv (q := 54) dX10_stoneFar_53 rfl (by decide) (iZ_div (by omega) (by omega) (by omega) (by omega)) ?_
      refine e_iload (q := 56) dX10_stoneFar_54 rfl rfl ?_
      refine e_iconst (q := 57) dX10_stoneFar_56 rfl ?_
      refine e_irem (q := 58) dX10_stoneFar_57 rfl (by decide) (iZ_rem (by omega) (by omega) (by omega) (by omega)) ?_
      refine e_Vip (q := 61) (vs := [_, _]) ok_X9_edge ml_X10_142 dX10_stoneFar_58 rfl ⟨_, _, rfl⟩ (by first | assumption | rfl) rfl rfl (Nat.le_of_ble_eq_true rfl) (by decide) (c_X9_edge (p := s / 4) (w := s % 4) (by omega) (by omega) (by omega) (by omega)) ?_
      refine e_mmin (q := 64) dX10_stoneFar_61 rfl ml_X10_140 mw_min_s mw_min_c mw_init (Nat.le_of_ble_eq_true rfl) (by decide) ?_ (hx := ⟨by first | omega | (unfold gWi; omega), by first | omega | (unfold gWi; omega)⟩) (hy := ⟨by omega, by omega⟩)
      exact r_i dX10_stoneFar_64 rfl ⟨by unfold gStone; first | (rw [if_pos (by omega), if_pos (by omega)]; done) | (rw [if_pos (by omega), if_neg (by omega)]; done) | (rw [if_neg (by omega)]; done), rfl⟩
    · refine e_iload (q := 32) dX10_stoneFar_30 rfl rfl ?_
      refine e_goto (tgt := 42) dX10_stoneFar_32 (by decide) ?_
      refine e_istore (q := 44) (L' := [_, _, _, _, _, _, _, _]) dX10_stoneFar_42 rfl (by decide) rfl rfl ?_
      refine e_iload (q := 46) dX10_stoneFar_44 rfl rfl ?_
      refine e_aload_n (q := 47) (i := 0) dX10_stoneFar_46 rfl rfl rfl ?_
      refine e_getR (q := 50) dX10_stoneFar_47 rfl fg_X10_9 (by first | assumption | rfl) rfl ?_
      refine e_iload (q := 52) dX10_stoneFar_50 rfl rfl ?_
      refine e_iconst (q := 53) dX10_stoneFar_52 rfl ?_
      refine e_idiv (q := 54) dX10_stoneFar_53 rfl (by decide) (iZ_div (by omega) (by omega) (by omega) (by omega)) ?_
      refine e_iload (q := 56) dX10_stoneFar_54 rfl rfl ?_
      refine e_iconst (q := 57) dX10_stoneFar_56 rfl ?_
      refine e_irem (q := 58) dX10_stoneFar_57 rfl (by decide) (iZ_rem (by omega) (by omega) (by omega) (by omega)) ?_
      refine e_Vip (q := 61) (vs := [_, _]) ok_X9_edge ml_X10_142 dX10_stoneFar_58 rfl ⟨_, _, rfl⟩ (by first | assumption | rfl) rfl rfl (Nat.le_of_ble_eq_true rfl) (by decide) (c_X9_edge (p := s / 4) (w := s % 4) (by omega) (by omega) (by omega) (by omega)) ?_
      refine e_mmin (q := 64) dX10_stoneFar_61 rfl ml_X10_140 mw_min_s mw_min_c mw_init (Nat.le_of_ble_eq_true rfl) (by decide) ?_ (hx := ⟨by first | omega | (unfold gWi; omega), by first | omega | (unfold gWi; omega)⟩) (hy := ⟨by omega, by omega⟩)
      exact r_i dX10_stoneFar_64 rfl ⟨by unfold gStone; first | (rw [if_pos (by omega), if_pos (by omega)]; done) | (rw [if_pos (by omega), if_neg (by omega)]; done) | (rw [if_neg (by omega)]; done), rfl⟩
  · refine e_iload_n (q := 6) (i := 3) dX10_stoneFar_5 rfl rfl rfl ?_
    refine e_iconst (q := 7) dX10_stoneFar_6 rfl ?_
    refine e_mmax (q := 10) dX10_stoneFar_7 rfl ml_X10_98 mw_max_s mw_max_c mw_init (Nat.le_of_ble_eq_true rfl) (by decide) ?_
    refine e_iconst (q := 11) dX10_stoneFar_10 rfl ?_
    refine e_idiv (q := 12) dX10_stoneFar_11 rfl (by decide) (iZ_div (by omega) (by omega) (by omega) (by omega)) ?_
    refine e_goto (tgt := 20) dX10_stoneFar_12 (by decide) ?_
    refine e_istore (q := 22) (L' := [_, _, _, _, _, _, _, _]) dX10_stoneFar_20 rfl (by decide) rfl rfl ?_
    refine e_lload_n (q := 23) (i := 1) dX10_stoneFar_22 rfl rfl rfl ?_
    refine e_ldc2 (q := 26) (z := -9223372036854775808) dX10_stoneFar_23 rfl kw_X10_108 (by decide) ?_
    refine e_lcmp (q := 27) dX10_stoneFar_26 rfl hlw ⟨by omega, by omega⟩ ?_
    refine e_if_ne (q := 30) (tgt := 35) dX10_stoneFar_27 rfl (by decide) (fun c27 => ?_) (fun c27 => ?_)
    · refine e_lload_n (q := 36) (i := 1) dX10_stoneFar_35 rfl rfl rfl ?_
      refine e_iconst (q := 37) dX10_stoneFar_36 rfl ?_
      refine e_bipush (q := 39) dX10_stoneFar_37 rfl (by decide) ?_
      refine e_Sip (q := 42) (vs := [_, _, _]) ok_X10_within ml_X10_113 dX10_stoneFar_39 rfl rfl rfl (Nat.le_of_ble_eq_true rfl) (by decide) (c_X10_within hlw ⟨by omega, by omega⟩ ⟨by omega, by omega⟩) ?_
      refine e_istore (q := 44) (L' := [_, _, _, _, _, _, _, _]) dX10_stoneFar_42 rfl (by decide) rfl rfl ?_
      refine e_iload (q := 46) dX10_stoneFar_44 rfl rfl ?_
      refine e_aload_n (q := 47) (i := 0) dX10_stoneFar_46 rfl rfl rfl ?_
      refine e_getR (q := 50) dX10_stoneFar_47 rfl fg_X10_9 (by first | assumption | rfl) rfl ?_
      refine e_iload (q := 52) dX10_stoneFar_50 rfl rfl ?_
      refine e_iconst (q := 53) dX10_stoneFar_52 rfl ?_
      refine e_idiv (q := 54) dX10_stoneFar_53 rfl (by decide) (iZ_div (by omega) (by omega) (by omega) (by omega)) ?_
      refine e_iload (q := 56) dX10_stoneFar_54 rfl rfl ?_
      refine e_iconst (q := 57) dX10_stoneFar_56 rfl ?_
      refine e_irem (q := 58) dX10_stoneFar_57 rfl (by decide) (iZ_rem (by omega) (by omega) (by omega) (by omega)) ?_
      refine e_Vip (q := 61) (vs := [_, _]) ok_X9_edge ml_X10_142 dX10_stoneFar_58 rfl ⟨_, _, rfl⟩ (by first | assumption | rfl) rfl rfl (Nat.le_of_ble_eq_true rfl) (by decide) (c_X9_edge (p := s / 4) (w := s % 4) (by omega) (by omega) (by omega) (by omega)) ?_
      refine e_mmin (q := 64) dX10_stoneFar_61 rfl ml_X10_140 mw_min_s mw_min_c mw_init (Nat.le_of_ble_eq_true rfl) (by decide) ?_ (hx := ⟨by first | omega | (unfold gWi; omega), by first | omega | (unfold gWi; omega)⟩) (hy := ⟨by omega, by omega⟩)
      exact r_i dX10_stoneFar_64 rfl ⟨by unfold gStone; first | (rw [if_pos (by omega), if_pos (by omega)]; done) | (rw [if_pos (by omega), if_neg (by omega)]; done) | (rw [if_neg (by omega)]; done), rfl⟩
    · refine e_iload (q := 32) dX10_stoneFar_30 rfl rfl ?_
      refine e_goto (tgt := 42) dX10_stoneFar_32 (by decide) ?_
      refine e_istore (q := 44) (L' := [_, _, _, _, _, _, _, _]) dX10_stoneFar_42 rfl (by decide) rfl rfl ?_
      refine e_iload (q := 46) dX10_stoneFar_44 rfl rfl ?_
      refine e_aload_n (q := 47) (i := 0) dX10_stoneFar_46 rfl rfl rfl ?_
      refine e_getR (q := 50) dX10_stoneFar_47 rfl fg_X10_9 (by first | assumption | rfl) rfl ?_
      refine e_iload (q := 52) dX10_stoneFar_50 rfl rfl ?_
      refine e_iconst (q := 53) dX10_stoneFar_52 rfl ?_
      refine e_idiv (q := 54) dX10_stoneFar_53 rfl (by decide) (iZ_div (by omega) (by omega) (by omega) (by omega)) ?_
      refine e_iload (q := 56) dX10_stoneFar_54 rfl rfl ?_
      refine e_iconst (q := 57) dX10_stoneFar_56 rfl ?_
      refine e_irem (q := 58) dX10_stoneFar_57 rfl (by decide) (iZ_rem (by omega) (by omega) (by omega) (by omega)) ?_
      refine e_Vip (q := 61) (vs := [_, _]) ok_X9_edge ml_X10_142 dX10_stoneFar_58 rfl ⟨_, _, rfl⟩ (by first | assumption | rfl) rfl rfl (Nat.le_of_ble_eq_true rfl) (by decide) (c_X9_edge (p := s / 4) (w := s % 4) (by omega) (by omega) (by omega) (by omega)) ?_
      refine e_mmin (q := 64) dX10_stoneFar_61 rfl ml_X10_140 mw_min_s mw_min_c mw_init (Nat.le_of_ble_eq_true rfl) (by decide) ?_ (hx := ⟨by first | omega | (unfold gWi; omega), by first | omega | (unfold gWi; omega)⟩) (hy := ⟨by omega, by omega⟩)
      exact r_i dX10_stoneFar_64 rfl ⟨by unfold gStone; first | (rw [if_pos (by omega), if_pos (by omega)]; done) | (rw [if_pos (by omega), if_neg (by omega)]; done) | (rw [if_neg (by omega)]; done), rfl⟩

theorem c_X10_walkedFar {G : Gx} {σ : Sg} {L : Nat} {c s sw : Int} (hT : TI σ) (hW : LW σ) (hI : LI σ L) (hL : isLand L) (hc : 0 ≤ c) (hc6 : c < 6) (hs : 0 ≤ s) (hs16 : s < 16) (hsw : 0 ≤ sw ∧ sw ≤ 9) : Con G 4 mX10_walkedFar [.ref (G.2.2.2 + 54), .ref (G.2.2.2 + L), .int (iZ c), .int (iZ s), .int (iZ sw)] σ (pI (fun z σ' => z = gStone (lawV σ 0 (nmF (σ.1 (L + 3) c) (σ.1 7 c) (σ.1 (L + 4) c) sw (if 50 ≤ σ.1 2 6 then 1 else 0) (σ.1 (L + 1) s) (σ.1 L 6))) (σ.1 (L + 3) c + sw - σ.1 (L + 4) c) (edS σ s) (if 50 ≤ σ.1 2 6 then 1 else 0) ∧ Fr [17, 55] σ σ')) := by
  have y0 := ly0 hL
  have y1 := ly1 hL
  have y2 := ly2 hL
  have y3 := ly3 hL
  have y4 := ly4 hL
  obtain ⟨hzz, -, hnp, hnc, hnb, hlb, hrn, hsd, hrw, hrq, hch, hbt, hck⟩ := id hT
  have hb := hI.2.1 c hc hc6
  have hm := hch c hc hc6
  have hfs := hI.1 s hs hs16
  have hyr := hI.2.2.2.1
  refine e_entry om_X10_walkedFar (Nat.le_of_ble_eq_true rfl) (L := [some (.ref (G.2.2.2 + 54)), some (.ref (G.2.2.2 + L)), some (.int (iZ c)), some (.int (iZ s)), some (.int (iZ sw)), none, none, none]) rfl ?_
  refine e_aload_n (q := 1) (i := 0) dX10_walkedFar_0 rfl rfl rfl ?_
  refine e_Vip (q := 4) (vs := []) ok_X10_wetAsItGoes ml_X10_41 dX10_walkedFar_1 rfl ⟨_, _, rfl⟩ (by first | assumption | rfl) rfl rfl (Nat.le_of_ble_eq_true rfl) (by decide) (c_X10_wetAsItGoes hT) ?_
  have hw01 : (if 50 ≤ σ.1 2 6 then (1 : Int) else 0) = 0 ∨ (if 50 ≤ σ.1 2 6 then (1 : Int) else 0) = 1 := by split <;> simp
  refine e_istore (q := 6) (L' := [_, _, _, _, _, _, _, _]) dX10_walkedFar_4 rfl (by decide) rfl rfl ?_
  refine e_aload_n (q := 7) (i := 0) dX10_walkedFar_6 rfl rfl rfl ?_
  refine e_aload_n (q := 8) (i := 1) dX10_walkedFar_7 rfl rfl rfl ?_
  refine e_iload_n (q := 9) (i := 2) dX10_walkedFar_8 rfl rfl rfl ?_
  refine e_iload_n (q := 10) (i := 3) dX10_walkedFar_9 rfl rfl rfl ?_
  refine e_iload (q := 12) dX10_walkedFar_10 rfl rfl ?_
  refine e_iload (q := 14) dX10_walkedFar_12 rfl rfl ?_
  refine e_Vl (q := 17) (vs := [_, _, _, _, _]) ok_X10_walk ml_X10_126 dX10_walkedFar_14 rfl ⟨_, _, rfl⟩ (by first | assumption | rfl) rfl rfl (Nat.le_of_ble_eq_true rfl) (by decide) (c_X10_walk hT hW hI hL hc hc6 hs hs16 hsw hw01) (fun z14 s14 h14 => ?_)
  have hll := law_lim hW (r := 0) (by decide) (by decide) (nm := nmF (σ.1 (L + 3) c) (σ.1 7 c) (σ.1 (L + 4) c) sw (if 50 ≤ σ.1 2 6 then 1 else 0) (σ.1 (L + 1) s) (σ.1 L 6)) (by refine nmF_lim ⟨⟨?_, ?_⟩, ⟨?_, ?_⟩, ⟨?_, ?_⟩, ⟨?_, ?_⟩, ⟨?_, ?_⟩, ⟨?_, ?_⟩, ⟨?_, ?_⟩⟩ <;> omega)
  rw [← h14.1] at hll
  have f3 : s14.1 (L + 3) c = σ.1 (L + 3) c := h14.2.e1 (nc_L hL _ (by omega) (by omega)) c
  have f4 : s14.1 (L + 4) c = σ.1 (L + 4) c := h14.2.e1 (nc_L hL _ (by omega) (by omega)) c
  refine e_lstore (q := 19) (L' := [_, _, _, _, _, _, _, _]) dX10_walkedFar_17 rfl (by decide) rfl rfl ?_
  refine e_aload_n (q := 20) (i := 0) dX10_walkedFar_19 rfl rfl rfl ?_
  refine e_lload (q := 22) dX10_walkedFar_20 rfl rfl ?_
  refine e_aload_n (q := 23) (i := 1) dX10_walkedFar_22 rfl rfl rfl ?_
  refine e_getR (q := 26) dX10_walkedFar_23 rfl fg_X10_110 (by first | assumption | rfl) rfl ?_
  refine e_iload_n (q := 27) (i := 2) dX10_walkedFar_26 rfl rfl rfl ?_
  refine e_iald (q := 28) dX10_walkedFar_27 rfl (by first | assumption | rfl) ?_
  refine e_iload (q := 30) dX10_walkedFar_28 rfl rfl ?_
  refine e_iadd (q := 31) dX10_walkedFar_30 rfl ?_
  refine e_aload_n (q := 32) (i := 1) dX10_walkedFar_31 rfl rfl rfl ?_
  refine e_getR (q := 35) dX10_walkedFar_32 rfl fg_X10_95 (by first | assumption | rfl) rfl ?_
  refine e_iload_n (q := 36) (i := 2) dX10_walkedFar_35 rfl rfl rfl ?_
  refine e_iald (q := 37) dX10_walkedFar_36 rfl (by first | assumption | rfl) ?_
  refine e_isub (q := 38) dX10_walkedFar_37 rfl ?_
  refine e_iload_n (q := 39) (i := 3) dX10_walkedFar_38 rfl rfl rfl ?_
  refine e_iload (q := 41) dX10_walkedFar_39 rfl rfl ?_
  refine e_Vip (q := 44) (vs := [_, _, _, _]) ok_X10_stoneFar ml_X10_133 dX10_walkedFar_41 rfl ⟨_, _, rfl⟩ (by first | assumption | rfl) rfl rfl (Nat.le_of_ble_eq_true rfl) (by decide) (c_X10_stoneFar (hT.fr h14.2 nc_2) ⟨by omega, by omega⟩ ⟨by omega, by omega⟩ hs hs16 hw01) ?_
  exact r_i dX10_walkedFar_44 rfl ⟨by have e := edS.fr h14.2 nc_2 s; unfold edS at e; rw [f3, f4, h14.1, e]; rfl, h14.2⟩

