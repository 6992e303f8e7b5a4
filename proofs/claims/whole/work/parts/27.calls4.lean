/-- how far a child would come now, led for the stone s with a cake of size sw -/
def wkF (σ : Sg) (c s sw : Int) : Int := gStone (lawV σ 0 (nmF (σ.1 42 c) (σ.1 7 c) (σ.1 43 c) sw (if 50 ≤ σ.1 2 6 then 1 else 0) (σ.1 40 s) (σ.1 39 6))) (σ.1 42 c + sw - σ.1 43 c) (edS σ s) (if 50 ≤ σ.1 2 6 then 1 else 0)
theorem wkF_fr {C : List Nat} {σ τ : Sg} (hF : Fr C σ τ) (hC : ∀ a, 2 ≤ a → a ≤ 16 → a ∉ C) (hD : ∀ a, 39 ≤ a → a ≤ 39 + 4 → a ∉ C) (c s sw : Int) : wkF τ c s sw = wkF σ c s sw := by
  have hV : lawV τ = lawV σ := by
    funext r nm
    exact lawV.fr hF (hC 14 (by decide) (by decide)) (hC 15 (by decide) (by decide)) (hC 16 (by decide) (by decide)) r nm
  unfold wkF
  rw [hV, edS.fr hF (fun a h1 h2 => hC a h1 (by omega)) s, (hF 2 (hC 2 (by decide) (by decide))).1, (hF 7 (hC 7 (by decide) (by decide))).1, (hF 39 (hD 39 (by decide) (by decide))).1, (hF 40 (hD 40 (by decide) (by decide))).1, (hF 42 (hD 42 (by decide) (by decide))).1, (hF 43 (hD 43 (by decide) (by decide))).1]
theorem LI.far {σ : Sg} {L : Nat} (h : LI σ L) {s v : Int} (hv : 0 ≤ v ∧ v ≤ 39) : LI (sI σ (L + 1) s v) L := ((Lp.rf h).far s hv).2.2.2.2

set_option maxHeartbeats 8000000 in
theorem c_X11_cakeFor {G : Gx} {σ : Sg} {p c w r l : Int} (hT : TI σ) (hB : TB σ) (hW : LW σ) (hI : LI σ 39) (hY : σ.1 39 6 ≤ 9800) (hp : R32 p) (hc : R32 c) (hw : R32 w) (hr : R32 r) (hl : R32 l) : Con G 6 mX11_cakeFor [.ref (G.2.2.2 + 0), .int (iZ p), .int (iZ c), .int (iZ w), .int (iZ r), .int (iZ l)] σ (pI (fun z σ' => (¬ ((0 ≤ p ∧ p < σ.1 2 2) ∧ (0 ≤ c ∧ c < σ.1 2 3) ∧ (0 ≤ w ∧ w < 4) ∧ (0 ≤ r ∧ r < σ.1 2 0 ∧ 0 ≤ l ∧ l < σ.1 2 0)) ∧ z = -1 ∧ σ' = σ) ∨ (((0 ≤ p ∧ p < σ.1 2 2) ∧ (0 ≤ c ∧ c < σ.1 2 3) ∧ (0 ≤ w ∧ w < 4) ∧ (0 ≤ r ∧ r < σ.1 2 0 ∧ 0 ≤ l ∧ l < σ.1 2 0)) ∧ ((z = -2 ∧ ∀ k : Int, 0 ≤ k → k ≤ 9 → gHold (σ.1 3) (σ.1 4) (uf (σ.1 40) (4 * p + w) (wkF σ c (4 * p + w) k)) p r l = 0) ∨ (0 ≤ z ∧ z ≤ 9 ∧ gHold (σ.1 3) (σ.1 4) (uf (σ.1 40) (4 * p + w) (wkF σ c (4 * p + w) z)) p r l = 1 ∧ ∀ k : Int, 0 ≤ k → k < z → gHold (σ.1 3) (σ.1 4) (uf (σ.1 40) (4 * p + w) (wkF σ c (4 * p + w) k)) p r l = 0)) ∧ Fr [44, 45, 46, 47, 48, 17, 55] σ σ'))) := by
  obtain ⟨hzz, -, hnp, hnc, hnb, hlb, hrn, hsd, hrw, hrq, hch, hbt, hck⟩ := id hT
  have hyr : 0 ≤ σ.1 39 6 := hI.2.2.2.1.1
  refine e_entry om_X11_cakeFor (Nat.le_of_ble_eq_true rfl) (L := [some (.ref (G.2.2.2 + 0)), some (.int (iZ p)), some (.int (iZ c)), some (.int (iZ w)), some (.int (iZ r)), some (.int (iZ l)), none, none]) rfl ?_
  refine e_aload_n (q := 1) (i := 0) dX11_cakeFor_0 rfl rfl rfl ?_
  refine e_iload_n (q := 2) (i := 1) dX11_cakeFor_1 rfl rfl rfl ?_
  refine e_Vip (q := 5) (vs := [_]) ok_X11_isParish ml_X11_136 dX11_cakeFor_2 rfl ⟨_, _, rfl⟩ (by first | assumption | rfl) rfl rfl (Nat.le_of_ble_eq_true rfl) (by decide) (c_X11_isParish hT (by assumption)) ?_
  refine e_if_eq (q := 8) (tgt := 34) dX11_cakeFor_5 rfl (by decide) (fun c5 => ?_) (fun c5 => ?_)
  · refine e_iconst (q := 35) dX11_cakeFor_34 rfl ?_
    exact r_i dX11_cakeFor_35 rfl (Or.inl ⟨by omega, rfl, rfl⟩)
  · refine e_aload_n (q := 9) (i := 0) dX11_cakeFor_8 rfl rfl rfl ?_
    refine e_iload_n (q := 10) (i := 2) dX11_cakeFor_9 rfl rfl rfl ?_
    refine e_Vip (q := 13) (vs := [_]) ok_X11_isChild ml_X11_167 dX11_cakeFor_10 rfl ⟨_, _, rfl⟩ (by first | assumption | rfl) rfl rfl (Nat.le_of_ble_eq_true rfl) (by decide) (c_X11_isChild hT (by assumption)) ?_
    refine e_if_eq (q := 16) (tgt := 34) dX11_cakeFor_13 rfl (by decide) (fun c13 => ?_) (fun c13 => ?_)
    · refine e_iconst (q := 35) dX11_cakeFor_34 rfl ?_
      exact r_i dX11_cakeFor_35 rfl (Or.inl ⟨by omega, rfl, rfl⟩)
    · refine e_iload_n (q := 17) (i := 3) dX11_cakeFor_16 rfl rfl rfl ?_
      refine e_Sip (q := 20) (vs := [_]) ok_X11_isWay ml_X11_179 dX11_cakeFor_17 rfl rfl rfl (Nat.le_of_ble_eq_true rfl) (by decide) (c_X11_isWay (by assumption)) ?_
      refine e_if_eq (q := 23) (tgt := 34) dX11_cakeFor_20 rfl (by decide) (fun c20 => ?_) (fun c20 => ?_)
      · refine e_iconst (q := 35) dX11_cakeFor_34 rfl ?_
        exact r_i dX11_cakeFor_35 rfl (Or.inl ⟨by omega, rfl, rfl⟩)
      · refine e_aload_n (q := 24) (i := 0) dX11_cakeFor_23 rfl rfl rfl ?_
        refine e_iload (q := 26) dX11_cakeFor_24 rfl rfl ?_
        refine e_iload (q := 28) dX11_cakeFor_26 rfl rfl ?_
        refine e_Vip (q := 31) (vs := [_, _]) ok_X11_isCell ml_X11_185 dX11_cakeFor_28 rfl ⟨_, _, rfl⟩ (by first | assumption | rfl) rfl rfl (Nat.le_of_ble_eq_true rfl) (by decide) (c_X11_isCell hT (by assumption) (by assumption)) ?_
        refine e_if_ne (q := 34) (tgt := 36) dX11_cakeFor_31 rfl (by decide) (fun c31 => ?_) (fun c31 => ?_)
        · refine e_iconst (q := 37) dX11_cakeFor_36 rfl ?_
          refine e_iload_n (q := 38) (i := 1) dX11_cakeFor_37 rfl rfl rfl ?_
          refine e_imul (q := 39) dX11_cakeFor_38 rfl ?_
          refine e_iload_n (q := 40) (i := 3) dX11_cakeFor_39 rfl rfl rfl ?_
          refine e_iadd (q := 41) dX11_cakeFor_40 rfl ?_
          refine e_istore (q := 43) (L' := [_, _, _, _, _, _, _, _]) dX11_cakeFor_41 rfl (by decide) rfl rfl ?_
          refine e_aload_n (q := 44) (i := 0) dX11_cakeFor_43 rfl rfl rfl ?_
          refine e_getR (q := 47) dX11_cakeFor_44 rfl fg_X11_40 (by first | assumption | rfl) rfl ?_
          refine e_aload_n (q := 48) (i := 0) dX11_cakeFor_47 rfl rfl rfl ?_
          refine e_getR (q := 51) dX11_cakeFor_48 rfl fg_X11_36 (by first | assumption | rfl) rfl ?_
          refine e_Vv (q := 54) (vs := [_]) ok_X2_become ml_X11_236 dX11_cakeFor_51 rfl ⟨_, _, rfl⟩ (by first | assumption | rfl) rfl rfl (Nat.le_of_ble_eq_true rfl) (by decide) (c_X2_become (L := 44) (K := 39) (Or.inr (Or.inl rfl)) (Or.inl rfl) (by decide)) (fun s51 h51 => ?_)
          refine e_iconst (q := 55) dX11_cakeFor_54 rfl ?_
          refine e_istore (q := 57) (L' := [_, _, _, _, _, _, _, _]) dX11_cakeFor_55 rfl (by decide) rfl rfl ?_
          have hK : ((0 ≤ p ∧ p < σ.1 2 2) ∧ (0 ≤ c ∧ c < σ.1 2 3) ∧ (0 ≤ w ∧ w < 4) ∧ (0 ≤ r ∧ r < σ.1 2 0 ∧ 0 ≤ l ∧ l < σ.1 2 0)) := by omega
          have lp : ∀ (n : Nat) (τ : Sg) (i : Int), 0 ≤ i → i + n = 10 → (∀ k : Int, 0 ≤ k → k < i → gHold (σ.1 3) (σ.1 4) (uf (σ.1 40) (4 * p + w) (wkF σ c (4 * p + w) k)) p r l = 0) → Fr [44, 45, 46, 47, 48, 17, 55] σ τ → LI τ 44 → (∀ j, 0 ≤ j → j < 16 → j ≠ (4 * p + w) → τ.1 45 j = σ.1 40 j) → J G 6 mX11_cakeFor (pI (fun z σ' => (¬ ((0 ≤ p ∧ p < σ.1 2 2) ∧ (0 ≤ c ∧ c < σ.1 2 3) ∧ (0 ≤ w ∧ w < 4) ∧ (0 ≤ r ∧ r < σ.1 2 0 ∧ 0 ≤ l ∧ l < σ.1 2 0)) ∧ z = -1 ∧ σ' = σ) ∨ (((0 ≤ p ∧ p < σ.1 2 2) ∧ (0 ≤ c ∧ c < σ.1 2 3) ∧ (0 ≤ w ∧ w < 4) ∧ (0 ≤ r ∧ r < σ.1 2 0 ∧ 0 ≤ l ∧ l < σ.1 2 0)) ∧ ((z = -2 ∧ ∀ k : Int, 0 ≤ k → k ≤ 9 → gHold (σ.1 3) (σ.1 4) (uf (σ.1 40) (4 * p + w) (wkF σ c (4 * p + w) k)) p r l = 0) ∨ (0 ≤ z ∧ z ≤ 9 ∧ gHold (σ.1 3) (σ.1 4) (uf (σ.1 40) (4 * p + w) (wkF σ c (4 * p + w) z)) p r l = 1 ∧ ∀ k : Int, 0 ≤ k → k < z → gHold (σ.1 3) (σ.1 4) (uf (σ.1 40) (4 * p + w) (wkF σ c (4 * p + w) k)) p r l = 0)) ∧ Fr [44, 45, 46, 47, 48, 17, 55] σ σ'))) τ 57 [some (.ref (G.2.2.2 + 0)), some (.int (iZ p)), some (.int (iZ c)), some (.int (iZ w)), some (.int (iZ r)), some (.int (iZ l)), some (.int (iZ (4 * p + w))), some (.int (iZ i))] [] := by
            intro n
            induction n with
            | zero =>
              intro τ i h0 hn hR hF hI4 hE
              refine e_iload (q := 59) dX11_cakeFor_57 rfl rfl ?_
              refine e_bipush (q := 61) dX11_cakeFor_59 rfl (by decide) ?_
              refine e_icmp_gt (q := 64) (tgt := 114) dX11_cakeFor_61 rfl (by decide) (fun c61 => ?_) (fun c61 => absurd (by omega) c61)
              refine e_bipush (q := 116) dX11_cakeFor_114 rfl (by decide) ?_
              exact r_i dX11_cakeFor_116 rfl (Or.inr ⟨hK, Or.inl ⟨rfl, fun k a b => hR k a (by omega)⟩, hF⟩)
            | succ n ih =>
              intro τ i h0 hn hR hF hI4 hE
              refine e_iload (q := 59) dX11_cakeFor_57 rfl rfl ?_
              refine e_bipush (q := 61) dX11_cakeFor_59 rfl (by decide) ?_
              refine e_icmp_gt (q := 64) (tgt := 114) dX11_cakeFor_61 rfl (by decide) (fun c61 => absurd c61 (by omega)) (fun c61 => ?_)
              refine e_aload_n (q := 65) (i := 0) dX11_cakeFor_64 rfl rfl rfl ?_
              refine e_getR (q := 68) dX11_cakeFor_65 rfl fg_X11_40 (by first | assumption | rfl) rfl ?_
              refine e_getR (q := 71) dX11_cakeFor_68 rfl fg_X11_164 (by first | assumption | rfl) rfl ?_
              refine e_iload (q := 73) dX11_cakeFor_71 rfl rfl ?_
              refine e_aload_n (q := 74) (i := 0) dX11_cakeFor_73 rfl rfl rfl ?_
              refine e_getR (q := 77) dX11_cakeFor_74 rfl fg_X11_49 (by first | assumption | rfl) rfl ?_
              refine e_aload_n (q := 78) (i := 0) dX11_cakeFor_77 rfl rfl rfl ?_
              refine e_getR (q := 81) dX11_cakeFor_78 rfl fg_X11_36 (by first | assumption | rfl) rfl ?_
              refine e_iload_n (q := 82) (i := 2) dX11_cakeFor_81 rfl rfl rfl ?_
              refine e_iload (q := 84) dX11_cakeFor_82 rfl rfl ?_
              refine e_iload (q := 86) dX11_cakeFor_84 rfl rfl ?_
              refine e_Vi (q := 89) (vs := [_, _, _, _]) ok_X10_walkedFar ml_X11_264 dX11_cakeFor_86 rfl ⟨_, _, rfl⟩ (by first | assumption | rfl) rfl rfl (Nat.le_of_ble_eq_true rfl) (by decide) (c_X10_walkedFar (L := 39) (hT.fr hF (fun a a1 a2 => nc_lb a a1 (by omega))) (hW.fr hF (by decide) (by decide) (by decide)) (hI.fr hF nc_lc) (Or.inl rfl) (by omega) (by omega) (by omega) (by omega) ⟨by omega, by omega⟩) (fun z86 s86 h86 => ?_)
              have ez : z86 = wkF σ c (4 * p + w) i := by rw [h86.1]; exact wkF_fr hF nc_lb nc_lc c (4 * p + w) i
              have hzin : 0 ≤ z86 ∧ z86 ≤ 39 := by rw [ez]; exact gStone_in (edS_in hT (by omega) (by omega))
              have hF2 : Fr [44, 45, 46, 47, 48, 17, 55] σ (sI s86 45 (4 * p + w) z86) := (hF.tr (h86.2.mono (by decide))).sI (by decide) _ _
              have hI5 : LI (sI s86 45 (4 * p + w) z86) 44 := (hI4.fr h86.2 (nc_L (Or.inr (Or.inl rfl)))).far hzin
              have hE2 : ∀ j, 0 ≤ j → j < 16 → (sI s86 45 (4 * p + w) z86).1 45 j = uf (σ.1 40) (4 * p + w) (wkF σ c (4 * p + w) i) j := by
                intro j a b
                rw [sI_uf, ez]
                unfold uf
                by_cases e : j = (4 * p + w)
                · rw [if_pos e, if_pos e]
                · rw [if_neg e, if_neg e, (h86.2 45 (by decide)).1]; exact hE j a b e
              have e3 : (sI s86 45 (4 * p + w) z86).1 3 = σ.1 3 := (hF2 3 (by decide)).1
              have e4 : (sI s86 45 (4 * p + w) z86).1 4 = σ.1 4 := (hF2 4 (by decide)).1
              have eh : gHold ((sI s86 45 (4 * p + w) z86).1 3) ((sI s86 45 (4 * p + w) z86).1 4) ((sI s86 45 (4 * p + w) z86).1 45) p r l = gHold (σ.1 3) (σ.1 4) (uf (σ.1 40) (4 * p + w) (wkF σ c (4 * p + w) i)) p r l := by
                rw [e3, e4]
                exact gHold_c ⟨rfl, rfl⟩ (fun j a b => hE2 j (by omega) (by omega)) r l
              have hg : gHold ((sI s86 45 (4 * p + w) z86).1 3) ((sI s86 45 (4 * p + w) z86).1 4) ((sI s86 45 (4 * p + w) z86).1 45) p r l = 0 ∨ gHold ((sI s86 45 (4 * p + w) z86).1 3) ((sI s86 45 (4 * p + w) z86).1 4) ((sI s86 45 (4 * p + w) z86).1 45) p r l = 1 := by unfold gHold; split <;> simp
              refine e_iast (q := 90) dX11_cakeFor_89 rfl (by first | assumption | rfl) ?_
              refine e_aload_n (q := 91) (i := 0) dX11_cakeFor_90 rfl rfl rfl ?_
              refine e_getR (q := 94) dX11_cakeFor_91 rfl fg_X11_40 (by first | assumption | rfl) rfl ?_
              refine e_iload_n (q := 95) (i := 1) dX11_cakeFor_94 rfl rfl rfl ?_
              refine e_iload (q := 97) dX11_cakeFor_95 rfl rfl ?_
              refine e_iload (q := 99) dX11_cakeFor_97 rfl rfl ?_
              refine e_Vip (q := 102) (vs := [_, _, _]) ok_X2_holds ml_X11_250 dX11_cakeFor_99 rfl ⟨_, _, rfl⟩ (by first | assumption | rfl) rfl rfl (Nat.le_of_ble_eq_true rfl) (by decide) (c44_holds (hT.fr hF2 (fun a a1 a2 => nc_lb a a1 (by omega))) hI5 (by omega) (by omega) (by assumption) (by assumption)) ?_
              refine e_if_eq (q := 105) (tgt := 108) dX11_cakeFor_102 rfl (by decide) (fun c102 => ?_) (fun c102 => ?_) (hx := ⟨by omega, by omega⟩)
              · refine e_iinc (q := 111) (L' := [_, _, _, _, _, _, _, _]) dX11_cakeFor_108 rfl rfl (by decide) rfl rfl ?_
                refine e_goto (tgt := 57) dX11_cakeFor_111 (by decide) ?_
                refine ih _ _ (by omega) (by omega) (fun k a b => ?_) hF2 hI5 (fun j a b c => ?_)
                · by_cases e : k = i
                  · subst e
                    rw [← eh]; exact c102
                  · exact hR k a (by omega)
                · rw [hE2 j a b]
                  unfold uf
                  rw [if_neg c]
              · refine e_iload (q := 107) dX11_cakeFor_105 rfl rfl ?_
                exact r_i dX11_cakeFor_107 rfl (Or.inr ⟨hK, Or.inr ⟨h0, by omega, by rw [← eh]; omega, hR⟩, hF2⟩)
          have hF1 : Fr [44, 45, 46, 47, 48] σ s51 := h51.1
          exact lp 10 _ 0 (by decide) (by decide) (fun k a b => absurd b (by omega)) (hF1.mono (by decide)) (LC_LI h51 hI) (fun j a b _ => (msk_eq (congrArg (fun x : Ld => x.1) h51.2.1) a b))
        · refine e_iconst (q := 35) dX11_cakeFor_34 rfl ?_
          exact r_i dX11_cakeFor_35 rfl (Or.inl ⟨by omega, rfl, rfl⟩)

/-- ten runs by chance: how many reach the area, the number behind them -/
def chF (σ : Sg) (m p ar : Int) : Nat → Int × Int → Int × Int
  | 0, s => s
  | k + 1, s => ((chF σ m p ar k s).1 + (if ar ≤ gArea (σ.1 3) (σ.1 4) (paR σ (σ.1 41) (-1) 0 1 1 m.toNat (ydv σ 39, (chF σ m p ar k s).2)).1.1 p then 1 else 0), (paR σ (σ.1 41) (-1) 0 1 1 m.toNat (ydv σ 39, (chF σ m p ar k s).2)).2)
theorem chF_s (σ : Sg) (m p ar : Int) {k : Int} (h : 0 ≤ k) (s : Int × Int) : chF σ m p ar (k + 1).toNat s = ((chF σ m p ar k.toNat s).1 + (if ar ≤ gArea (σ.1 3) (σ.1 4) (paR σ (σ.1 41) (-1) 0 1 1 m.toNat (ydv σ 39, (chF σ m p ar k.toNat s).2)).1.1 p then 1 else 0), (paR σ (σ.1 41) (-1) 0 1 1 m.toNat (ydv σ 39, (chF σ m p ar k.toNat s).2)).2) := by
  obtain ⟨m, rfl⟩ := Int.eq_ofNat_of_zero_le h
  rfl
theorem LR_n {σ τ : Sg} {ck : Int → Int} {un tl so w : Int} {y : Yd} {n : Int} (h : LR σ ck un tl so w y n 0 τ) {v : Int} (hv : 0 ≤ v ∧ v ≤ 2147483647) : LR σ ck un tl so w y v 0 (sJ τ 44 7 v) := ⟨h.1.sJ (by decide) _ _, h.2.1, h.2.2.1, h.2.2.2.1, by rw [sJ_2, if_pos ⟨rfl, rfl⟩]; rfl, h.2.2.2.2.2.1.s7 hv, h.2.2.2.2.2.2⟩
theorem LC_fr {C : List Nat} {σ τ s : Sg} (hF : Fr C σ τ) (hC : ∀ a, 39 ≤ a → a ≤ 39 + 4 → a ∉ C) (h : LC τ 44 39 s) : ldv s 44 = ldv σ 39 := by
  rw [h.2.1]
  unfold ldv
  rw [(hF 39 (hC 39 (by decide) (by decide))).1, (hF 39 (hC 39 (by decide) (by decide))).2, (hF (39 + 1) (hC 40 (by decide) (by decide))).1, (hF (39 + 2) (hC 41 (by decide) (by decide))).1, (hF (39 + 3) (hC 42 (by decide) (by decide))).1, (hF (39 + 4) (hC 43 (by decide) (by decide))).1]
theorem LR_01 {σ τ s : Sg} (hT : TI σ) (hI : LI σ 39) (hF : Fr [44, 45, 46, 47, 48, 17, 55] σ τ) (h : LC τ 44 39 s) {v : Int} (hv : v = 0 ∨ v = 1) (w : Int) : LR σ (σ.1 41) (-1) 0 v w (ydv σ 39) (σ.2 39 7) 0 (sI s 44 10 v) := by
  have hl : LI s 44 := LC_LI h (hI.fr hF nc_lc)
  obtain ⟨-, -, hnp, hnc, -⟩ := hT
  have hd := LC_fr hF nc_lc h
  obtain ⟨hF2, -, h8, h9, h10⟩ := h
  have q := ldv_YR (np := σ.1 2 2) (nc := σ.1 2 3) hd hnp.2 hnc.2
  have hF' : Fr [44, 45, 46, 47, 48] τ s := hF2
  refine ⟨(hF.tr (hF'.mono (by decide))).sI (by decide) _ _, fun i a b => ?_, ⟨?_, ?_, ?_⟩, ?_, ?_, hl.s10 hv, ?_⟩
  · rw [sI_ne _ (by decide)]
    exact q.2.1 i a (by omega)
  · rw [sI_1, if_neg (by decide)]; exact h8
  · rw [sI_1, if_neg (by decide)]; exact h9
  · rw [sI_1, if_pos ⟨rfl, rfl⟩]
  · exact q.1
  · exact q.2.2
  · have g := q.1.2.2.2
    show s.1 44 6 = σ.1 39 6 + ((0 : Nat) : Int)
    have g2 : s.1 44 6 = σ.1 39 6 := g
    omega

set_option maxHeartbeats 8000000 in
theorem c_X11_chance {G : Gx} {σ : Sg} {x m p a : Int} (hT : TI σ) (hB : TB σ) (hW : LW σ) (hI : LI σ 39) (hY : σ.1 39 6 ≤ 9800) (hx : R32 x) (hm : R32 m) (hp : R32 p) (ha : R32 a) : Con G 8 mX11_chance [.ref (G.2.2.2 + 0), .int (iZ x), .int (iZ m), .int (iZ p), .int (iZ a)] σ (pI (fun z σ' => (¬ (0 ≤ x ∧ 1 ≤ m ∧ m ≤ 99 ∧ (0 ≤ p ∧ p < σ.1 2 2) ∧ 0 ≤ a ∧ a ≤ 9999) ∧ z = -1 ∧ σ' = σ) ∨ ((0 ≤ x ∧ 1 ≤ m ∧ m ≤ 99 ∧ (0 ≤ p ∧ p < σ.1 2 2) ∧ 0 ≤ a ∧ a ≤ 9999) ∧ z = (chF σ m p a 10 (0, x)).1 ∧ Fr [44, 45, 46, 47, 48, 17, 55] σ σ'))) := by
  obtain ⟨hzz, -, hnp, hnc, hnb, hlb, hrn, hsd, hrw, hrq, hch, hbt, hck⟩ := id hT
  have hyr : 0 ≤ σ.1 39 6 := hI.2.2.2.1.1
  refine e_entry om_X11_chance (Nat.le_of_ble_eq_true rfl) (L := [some (.ref (G.2.2.2 + 0)), some (.int (iZ x)), some (.int (iZ m)), some (.int (iZ p)), some (.int (iZ a)), none, none, none, none]) rfl ?_
  refine e_iload_n (q := 1) (i := 1) dX11_chance_0 rfl rfl rfl ?_
  refine e_if_lt (q := 4) (tgt := 36) dX11_chance_1 rfl (by decide) (fun c1 => ?_) (fun c1 => ?_)
  · refine e_iconst (q := 37) dX11_chance_36 rfl ?_
    exact r_i dX11_chance_37 rfl (Or.inl ⟨by omega, rfl, rfl⟩)
  · refine e_iload_n (q := 5) (i := 2) dX11_chance_4 rfl rfl rfl ?_
    refine e_iconst (q := 6) dX11_chance_5 rfl ?_
    refine e_icmp_lt (q := 9) (tgt := 36) dX11_chance_6 rfl (by decide) (fun c6 => ?_) (fun c6 => ?_)
    · refine e_iconst (q := 37) dX11_chance_36 rfl ?_
      exact r_i dX11_chance_37 rfl (Or.inl ⟨by omega, rfl, rfl⟩)
    · refine e_iload_n (q := 10) (i := 2) dX11_chance_9 rfl rfl rfl ?_
      refine e_bipush (q := 12) dX11_chance_10 rfl (by decide) ?_
      refine e_icmp_gt (q := 15) (tgt := 36) dX11_chance_12 rfl (by decide) (fun c12 => ?_) (fun c12 => ?_)
      · refine e_iconst (q := 37) dX11_chance_36 rfl ?_
        exact r_i dX11_chance_37 rfl (Or.inl ⟨by omega, rfl, rfl⟩)
      · refine e_aload_n (q := 16) (i := 0) dX11_chance_15 rfl rfl rfl ?_
        refine e_iload_n (q := 17) (i := 3) dX11_chance_16 rfl rfl rfl ?_
        refine e_Vip (q := 20) (vs := [_]) ok_X11_isParish ml_X11_136 dX11_chance_17 rfl ⟨_, _, rfl⟩ (by first | assumption | rfl) rfl rfl (Nat.le_of_ble_eq_true rfl) (by decide) (c_X11_isParish hT (by assumption)) ?_
        refine e_if_eq (q := 23) (tgt := 36) dX11_chance_20 rfl (by decide) (fun c20 => ?_) (fun c20 => ?_)
        · refine e_iconst (q := 37) dX11_chance_36 rfl ?_
          exact r_i dX11_chance_37 rfl (Or.inl ⟨by omega, rfl, rfl⟩)
        · refine e_iload (q := 25) dX11_chance_23 rfl rfl ?_
          refine e_if_lt (q := 28) (tgt := 36) dX11_chance_25 rfl (by decide) (fun c25 => ?_) (fun c25 => ?_)
          · refine e_iconst (q := 37) dX11_chance_36 rfl ?_
            exact r_i dX11_chance_37 rfl (Or.inl ⟨by omega, rfl, rfl⟩)
          · refine e_iload (q := 30) dX11_chance_28 rfl rfl ?_
            refine e_sipush (q := 33) dX11_chance_30 rfl (by decide) ?_
            refine e_icmp_le (q := 36) (tgt := 38) dX11_chance_33 rfl (by decide) (fun c33 => ?_) (fun c33 => ?_)
            · refine e_iconst (q := 39) dX11_chance_38 rfl ?_
              refine e_istore (q := 41) (L' := [_, _, _, _, _, _, _, _, _]) dX11_chance_39 rfl (by decide) rfl rfl ?_
              refine e_iload_n (q := 42) (i := 1) dX11_chance_41 rfl rfl rfl ?_
              refine e_i2l (q := 43) dX11_chance_42 rfl (by first | assumption | exact ⟨by omega, by omega⟩) ?_
              refine e_lstore (q := 45) (L' := [_, _, _, _, _, _, _, _, _]) dX11_chance_43 rfl (by decide) rfl rfl ?_
              refine e_iconst (q := 46) dX11_chance_45 rfl ?_
              refine e_istore (q := 48) (L' := [_, _, _, _, _, _, _, _, _]) dX11_chance_46 rfl (by decide) rfl rfl ?_
              have hK : (0 ≤ x ∧ 1 ≤ m ∧ m ≤ 99 ∧ (0 ≤ p ∧ p < σ.1 2 2) ∧ 0 ≤ a ∧ a ≤ 9999) := by omega
              have lp : ∀ (n : Nat) (τ : Sg) (q u i : Int), 0 ≤ i → i + n = 10 → u = (chF σ m p a (i).toNat (0, x)).1 → q = (chF σ m p a (i).toNat (0, x)).2 → (0 ≤ q ∧ q ≤ 2147483647) → Fr [44, 45, 46, 47, 48, 17, 55] σ τ → J G 8 mX11_chance (pI (fun z σ' => (¬ (0 ≤ x ∧ 1 ≤ m ∧ m ≤ 99 ∧ (0 ≤ p ∧ p < σ.1 2 2) ∧ 0 ≤ a ∧ a ≤ 9999) ∧ z = -1 ∧ σ' = σ) ∨ ((0 ≤ x ∧ 1 ≤ m ∧ m ≤ 99 ∧ (0 ≤ p ∧ p < σ.1 2 2) ∧ 0 ≤ a ∧ a ≤ 9999) ∧ z = (chF σ m p a 10 (0, x)).1 ∧ Fr [44, 45, 46, 47, 48, 17, 55] σ σ'))) τ 48 [some (.ref (G.2.2.2 + 0)), some (.int (iZ x)), some (.int (iZ m)), some (.int (iZ p)), some (.int (iZ a)), some (.int (iZ u)), some (.long (lZ q)), none, some (.int (iZ i))] [] := by
                intro n
                induction n with
                | zero =>
                  intro τ q u i h0 hn hu hq hq2 hF
                  refine e_iload (q := 50) dX11_chance_48 rfl rfl ?_
                  refine e_bipush (q := 52) dX11_chance_50 rfl (by decide) ?_
                  refine e_icmp_ge (q := 55) (tgt := 127) dX11_chance_52 rfl (by decide) (fun c52 => ?_) (fun c52 => absurd (by omega) c52)
                  refine e_iload (q := 129) dX11_chance_127 rfl rfl ?_
                  exact r_i dX11_chance_129 rfl (Or.inr ⟨hK, by rw [hu, show i = 10 by omega]; rfl, hF⟩)
                | succ n ih =>
                  intro τ q u i h0 hn hu hq hq2 hF
                  refine e_iload (q := 50) dX11_chance_48 rfl rfl ?_
                  refine e_bipush (q := 52) dX11_chance_50 rfl (by decide) ?_
                  refine e_icmp_ge (q := 55) (tgt := 127) dX11_chance_52 rfl (by decide) (fun c52 => absurd c52 (by omega)) (fun c52 => ?_)
                  refine e_aload_n (q := 56) (i := 0) dX11_chance_55 rfl rfl rfl ?_
                  refine e_getR (q := 59) dX11_chance_56 rfl fg_X11_40 (by first | assumption | rfl) rfl ?_
                  refine e_aload_n (q := 60) (i := 0) dX11_chance_59 rfl rfl rfl ?_
                  refine e_getR (q := 63) dX11_chance_60 rfl fg_X11_36 (by first | assumption | rfl) rfl ?_
                  refine e_Vv (q := 66) (vs := [_]) ok_X2_become ml_X11_236 dX11_chance_63 rfl ⟨_, _, rfl⟩ (by first | assumption | rfl) rfl rfl (Nat.le_of_ble_eq_true rfl) (by decide) (c_X2_become (L := 44) (K := 39) (Or.inr (Or.inl rfl)) (Or.inl rfl) (by decide)) (fun s63 h63 => ?_)
                  refine e_aload_n (q := 67) (i := 0) dX11_chance_66 rfl rfl rfl ?_
                  refine e_getR (q := 70) dX11_chance_67 rfl fg_X11_40 (by first | assumption | rfl) rfl ?_
                  refine e_iconst (q := 71) dX11_chance_70 rfl ?_
                  refine e_putZ (q := 74) (jz := 10) dX11_chance_71 rfl fp_X11_240 rfl (by first | assumption | rfl) rfl (by first | exact Or.inl rfl | exact Or.inr rfl | omega) ?_
                  have h00 := LR_n (LR_01 (v := 1) hT hI hF h63 (by decide) 1) hq2
                  refine e_aload_n (q := 75) (i := 0) dX11_chance_74 rfl rfl rfl ?_
                  refine e_getR (q := 78) dX11_chance_75 rfl fg_X11_40 (by first | assumption | rfl) rfl ?_
                  refine e_lload (q := 80) dX11_chance_78 rfl rfl ?_
                  refine e_putL (q := 83) (jz := 7) dX11_chance_80 rfl fp_X11_328 rfl (by first | assumption | rfl) rfl ?_
                  refine e_aload_n (q := 84) (i := 0) dX11_chance_83 rfl rfl rfl ?_
                  refine e_getR (q := 87) dX11_chance_84 rfl fg_X11_49 (by first | assumption | rfl) rfl ?_
                  refine e_aload_n (q := 88) (i := 0) dX11_chance_87 rfl rfl rfl ?_
                  refine e_getR (q := 91) dX11_chance_88 rfl fg_X11_40 (by first | assumption | rfl) rfl ?_
                  refine e_iload_n (q := 92) (i := 2) dX11_chance_91 rfl rfl rfl ?_
                  refine e_iconst (q := 93) dX11_chance_92 rfl ?_
                  refine e_Vv (q := 96) (vs := [_, _, _]) ok_X10_pass ml_X11_233 dX11_chance_93 rfl ⟨_, _, rfl⟩ (by first | assumption | rfl) rfl rfl (Nat.le_of_ble_eq_true rfl) (by decide) (c_X10_pass (L := 44) (m := m) (w := 1) (h00.TI hT) (h00.TB hB) (h00.LW hW) h00.2.2.2.2.2.1 (Or.inr (Or.inl rfl)) (by omega) (by omega) (by rw [h00.2.2.2.2.2.2]; show σ.1 39 6 + ((0 : Nat) : Int) + m ≤ 100000; omega) (by decide) (by decide)) (fun s93 h93 => ?_)
                  have h1 := LR_step hT hB h00 h93
                  rw [Nat.zero_add] at h1
                  have e3 : s93.1 3 = σ.1 3 := h1.c (by decide) (by decide)
                  have e4 : s93.1 4 = σ.1 4 := h1.c (by decide) (by decide)
                  have eA : gArea (s93.1 3) (s93.1 4) (s93.1 45) p = gArea (σ.1 3) (σ.1 4) (paR σ (σ.1 41) (-1) 0 1 1 m.toNat (ydv σ 39, q)).1.1 p := by
                    rw [e3, e4]
                    exact gArea_c ⟨rfl, rfl⟩ (fun j a b => h1.2.2.2.1.1 j (by omega) (by omega))
                  have hA := gArea_in (L := 44) (p := p) (h1.TI hT) h1.2.2.2.2.2.1 (by omega) (by omega)
                  have hA2 : 1 ≤ gArea (s93.1 3) (s93.1 4) (s93.1 45) p ∧ gArea (s93.1 3) (s93.1 4) (s93.1 45) p ≤ 40000 := hA
                  have hN := h1.2.2.2.2.2.1.2.2.2.2.1
                  refine e_aload_n (q := 97) (i := 0) dX11_chance_96 rfl rfl rfl ?_
                  refine e_getR (q := 100) dX11_chance_97 rfl fg_X11_40 (by first | assumption | rfl) rfl ?_
                  refine e_getL (q := 103) (jz := 7) dX11_chance_100 rfl fg_X11_328 rfl (by first | assumption | rfl) rfl ?_
                  refine e_lstore (q := 105) (L' := [_, _, _, _, _, _, _, _, _]) dX11_chance_103 rfl (by decide) rfl rfl ?_
                  refine e_aload_n (q := 106) (i := 0) dX11_chance_105 rfl rfl rfl ?_
                  refine e_getR (q := 109) dX11_chance_106 rfl fg_X11_40 (by first | assumption | rfl) rfl ?_
                  refine e_iload_n (q := 110) (i := 3) dX11_chance_109 rfl rfl rfl ?_
                  refine e_Vip (q := 113) (vs := [_]) ok_X2_area ml_X11_158 dX11_chance_110 rfl ⟨_, _, rfl⟩ (by first | assumption | rfl) rfl rfl (Nat.le_of_ble_eq_true rfl) (by decide) (c44_area (by omega) (by omega)) ?_
                  refine e_iload (q := 115) dX11_chance_113 rfl rfl ?_
                  refine e_icmp_lt (q := 118) (tgt := 121) dX11_chance_115 rfl (by decide) (fun c115 => ?_) (fun c115 => ?_) (hx := ⟨by omega, by omega⟩) (hy := ⟨by omega, by omega⟩)
                  · refine e_iinc (q := 124) (L' := [_, _, _, _, _, _, _, _, _]) dX11_chance_121 rfl rfl (by decide) rfl rfl ?_
                    refine e_goto (tgt := 48) dX11_chance_124 (by decide) ?_
                    refine ih _ _ _ _ (by omega) (by omega) ?_ ?_ hN h1.1
                    · rw [chF_s _ _ _ _ (by omega), ← hu, ← hq]
                      show u = u + _
                      rw [if_neg (by rw [← eA]; omega)]
                      omega
                    · rw [chF_s _ _ _ _ (by omega), ← hq]
                      exact h1.2.2.2.2.1
                  · refine e_iinc (q := 121) (L' := [_, _, _, _, _, _, _, _, _]) dX11_chance_118 rfl rfl (by decide) rfl rfl ?_
                    refine e_iinc (q := 124) (L' := [_, _, _, _, _, _, _, _, _]) dX11_chance_121 rfl rfl (by decide) rfl rfl ?_
                    refine e_goto (tgt := 48) dX11_chance_124 (by decide) ?_
                    refine ih _ _ _ _ (by omega) (by omega) ?_ ?_ hN h1.1
                    · rw [chF_s _ _ _ _ (by omega), ← hu, ← hq]
                      show u + 1 = u + _
                      rw [if_pos (by rw [← eA]; omega)]
                    · rw [chF_s _ _ _ _ (by omega), ← hq]
                      exact h1.2.2.2.2.1
              exact lp 10 _ _ _ 0 (by decide) (by decide) rfl rfl ⟨by omega, by omega⟩ (Fr.rf _ _)
            · refine e_iconst (q := 37) dX11_chance_36 rfl ?_
              exact r_i dX11_chance_37 rfl (Or.inl ⟨by omega, rfl, rfl⟩)

