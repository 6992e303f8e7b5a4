section SY
variable {t : Tk} {S : List Int} {o c : Int} {K : Kn}
theorem sy_num (h : t.1 = 22) : sy1 t (1, S, o, c, K) = if 9999 < t.2.2 then .inl 2 else if 64 ≤ c then .inl 2 else .inr (0, S, o, c + 1, kput K t.2.2) := by
  unfold sy1
  rw [if_pos rfl, if_pos h]
theorem sy_nam (h : 14 ≤ t.1 ∧ t.1 ≤ 20) : sy1 t (1, S, o, c, K) = if 64 ≤ c then .inl 2 else .inr (0, S, o, c + 1, kput K (-t.1)) := by
  unfold sy1
  rw [if_pos rfl, if_neg (by omega), if_pos h]
theorem sy_not (h : t.1 = 13) : sy1 t (1, S, o, c, K) = if 3 < syTr S then .inl 1 else if 64 ≤ c then .inl 2 else .inr (1, 13 :: S, o, c + 1, K) := by
  unfold sy1
  rw [if_pos rfl, if_neg (by omega), if_neg (by omega), if_pos h]
theorem sy_opn (h : t.1 = 24) : sy1 t (1, S, o, c, K) = if 8 ≤ o then .inl 2 else .inr (1, 24 :: S, o + 1, c, K) := by
  unfold sy1
  rw [if_pos rfl, if_neg (by omega), if_neg (by omega), if_neg (by omega), if_pos h]
theorem sy_bad (h1 : t.1 ≠ 22) (h2 : ¬ (14 ≤ t.1 ∧ t.1 ≤ 20)) (h3 : t.1 ≠ 13) (h4 : t.1 ≠ 24) : sy1 t (1, S, o, c, K) = .inl 1 := by
  unfold sy1
  rw [if_pos rfl, if_neg h1, if_neg h2, if_neg h3, if_neg h4]
theorem sy_cls (h : t.1 = 25) (ho : 0 < o) : sy1 t (0, S, o, c, K) = .inr (0, (sySet 1 S K).1.tail, o - 1, c, (sySet 1 S K).2) := by
  unfold sy1
  rw [if_neg (show ¬ (0 : Int) = 1 by decide), if_pos ⟨h, ho⟩]
theorem sy_no (h : ¬ (t.1 = 25 ∧ 0 < o)) (hr : rk t.1 = 0 ∨ t.1 = 13) : sy1 t (0, S, o, c, K) = .inl 1 := by
  unfold sy1
  rw [if_neg (show ¬ (0 : Int) = 1 by decide), if_neg h, if_pos hr]
theorem sy_cmp (hr : rk t.1 = 4) : sy1 t (0, S, o, c, K) = if syTr (sySet 5 S K).1 = 4 then .inl 1 else if 64 ≤ c then .inl 2 else .inr (1, t.1 :: (sySet 5 S K).1, o, c + 1, (sySet 5 S K).2) := by
  have h := (rk_in t.1).2.2 (by omega)
  have h13 : t.1 ≠ 13 := fun q => by rw [q] at hr; exact absurd hr (by decide)
  unfold sy1
  rw [if_neg (show ¬ (0 : Int) = 1 by decide), if_neg (fun q => by have := q.1; omega), if_neg (by omega)]
  simp only [hr, true_and, if_true]
theorem sy_op (hr : 1 ≤ rk t.1) (h4 : rk t.1 ≠ 4) (h13 : t.1 ≠ 13) : sy1 t (0, S, o, c, K) = if 64 ≤ c then .inl 2 else .inr (1, t.1 :: (sySet (rk t.1) S K).1, o, c + 1, (sySet (rk t.1) S K).2) := by
  have h := (rk_in t.1).2.2 hr
  unfold sy1
  rw [if_neg (show ¬ (0 : Int) = 1 by decide), if_neg (fun q => by have := q.1; omega), if_neg (by omega), if_neg (fun q => h4 q.1), if_neg h4]
end SY
theorem sy_I {t : Tk} {w : Int} {S : List Int} {o c : Int} {K : Kn} {s' : Sy} (hw : w = 0 ∨ w = 1) (hI : SyI S o c K) (h : sy1 t (w, S, o, c, K) = .inr s') : SyI s'.2.1 s'.2.2.1 s'.2.2.2.1 s'.2.2.2.2 ∧ s'.1 = (if t.1 = 22 ∨ (14 ≤ t.1 ∧ t.1 ≤ 20) ∨ t.1 = 25 then 0 else 1) := by
  obtain ⟨i1, i2, i3, i4, i5, i6⟩ := id hI
  have hl := sg_len S
  rcases hw with rfl | rfl
  · by_cases q1 : t.1 = 25 ∧ 0 < o
    · rw [sy_cls q1.1 q1.2] at h
      cases h
      have hS := sySet_I (Int.le_refl 1) S o c K hI
      obtain ⟨j1, j2, j3, j4, j5, j6⟩ := hS
      refine ⟨?_, by rw [if_pos (by omega)]⟩
      have htop := sySet_top (l := 1) S K
      obtain ⟨R, hR⟩ : ∃ R, R = sySet 1 S K := ⟨_, rfl⟩
      rw [← hR] at j1 j2 j3 j4 htop
      show SyI (sySet 1 S K).1.tail (o - 1) c (sySet 1 S K).2
      rw [← hR]
      obtain ⟨R1, R2⟩ := R
      match R1, j1, j2, j3, htop with
      | [], j1, j2, j3, _ => simp only [opn] at j3; omega
      | s :: R1, j1, j2, j3, htop =>
        have hs : s = 24 := by
          rcases j1 s List.mem_cons_self with q | q
          · exact q
          · rcases htop with r | r
            · have r : rk s < 1 := r
              omega
            · cases r
        simp only [sgn, opn] at j2 j3
        rw [if_pos hs] at j2 j3
        exact ⟨fun x hx => j1 x (List.mem_cons_of_mem _ hx), by show R2.1 + sgn R1 = c; omega, by show opn R1 = o - 1; omega, j4, j5, by omega⟩
    · by_cases q2 : rk t.1 = 0 ∨ t.1 = 13
      · rw [sy_no q1 q2] at h; cases h
      · have hr0 := rk_in t.1
        have hri := hr0.2.2 (by omega)
        have n24 : t.1 ≠ 24 := hri.2.2.1
        have hpush : ∀ l : Int, 1 ≤ l → c < 64 → SyI (t.1 :: (sySet l S K).1) o (c + 1) (sySet l S K).2 := by
          intro l hl1 hc
          obtain ⟨j1, j2, j3, j4, j5, j6⟩ := sySet_I hl1 S o c K hI
          refine ⟨fun x hx => ?_, ?_, ?_, j4, by omega, j6⟩
          · rcases List.mem_cons.mp hx with rfl | hx
            · exact Or.inr (by omega)
            · exact j1 x hx
          · simp only [sgn]; rw [if_neg n24]; omega
          · simp only [opn]; rw [if_neg n24]; omega
        have hnr : ¬ (14 ≤ t.1 ∧ t.1 ≤ 20) := fun q => by
          have : rk t.1 = 0 := by unfold rk; rw [if_neg (by omega), if_neg (by omega), if_neg (by omega), if_neg (by omega), if_neg (by omega), if_neg (by omega)]
          omega
        have hn22 : t.1 ≠ 22 := fun q => by
          have : rk t.1 = 0 := by rw [q]; decide
          omega
        by_cases q4 : rk t.1 = 4
        · rw [sy_cmp q4] at h
          by_cases e1 : syTr (sySet 5 S K).1 = 4
          · rw [if_pos e1] at h; cases h
          rw [if_neg e1] at h
          by_cases e2 : 64 ≤ c
          · rw [if_pos e2] at h; cases h
          rw [if_neg e2] at h
          cases h
          exact ⟨hpush 5 (by decide) (by omega), by rw [if_neg (by omega)]⟩
        · rw [sy_op (by omega) q4 (by omega)] at h
          by_cases e2 : 64 ≤ c
          · rw [if_pos e2] at h; cases h
          rw [if_neg e2] at h
          cases h
          exact ⟨hpush (rk t.1) (by omega) (by omega), by rw [if_neg (by omega)]⟩
  · by_cases q1 : t.1 = 22
    · rw [sy_num q1] at h
      by_cases e1 : 9999 < t.2.2
      · rw [if_pos e1] at h; cases h
      rw [if_neg e1] at h
      by_cases e2 : 64 ≤ c
      · rw [if_pos e2] at h; cases h
      rw [if_neg e2] at h
      cases h
      exact ⟨⟨i1, by show K.1 + 1 + sgn S = c + 1; omega, i3, by show 0 ≤ K.1 + 1; omega, by show c + 1 ≤ 64; omega, i6⟩, by rw [if_pos (Or.inl q1)]⟩
    by_cases q2 : 14 ≤ t.1 ∧ t.1 ≤ 20
    · rw [sy_nam q2] at h
      by_cases e2 : 64 ≤ c
      · rw [if_pos e2] at h; cases h
      rw [if_neg e2] at h
      cases h
      exact ⟨⟨i1, by show K.1 + 1 + sgn S = c + 1; omega, i3, by show 0 ≤ K.1 + 1; omega, by show c + 1 ≤ 64; omega, i6⟩, by rw [if_pos (Or.inr (Or.inl q2))]⟩
    by_cases q3 : t.1 = 13
    · rw [sy_not q3] at h
      by_cases e1 : 3 < syTr S
      · rw [if_pos e1] at h; cases h
      rw [if_neg e1] at h
      by_cases e2 : 64 ≤ c
      · rw [if_pos e2] at h; cases h
      rw [if_neg e2] at h
      cases h
      refine ⟨⟨fun x hx => ?_, ?_, ?_, i4, by show c + 1 ≤ 64; omega, i6⟩, by rw [if_neg (by omega)]⟩
      · rcases List.mem_cons.mp hx with rfl | hx
        · exact Or.inr (by decide)
        · exact i1 x hx
      · show K.1 + (sgn S + (if (13 : Int) = 24 then 0 else 1)) = c + 1
        rw [if_neg (by decide)]; omega
      · show opn S + (if (13 : Int) = 24 then 1 else 0) = o
        rw [if_neg (by decide)]; omega
    by_cases q4 : t.1 = 24
    · rw [sy_opn q4] at h
      by_cases e1 : 8 ≤ o
      · rw [if_pos e1] at h; cases h
      rw [if_neg e1] at h
      cases h
      refine ⟨⟨fun x hx => ?_, ?_, ?_, i4, i5, by show o + 1 ≤ 8; omega⟩, by rw [if_neg (by omega)]⟩
      · rcases List.mem_cons.mp hx with rfl | hx
        · exact Or.inl rfl
        · exact i1 x hx
      · show K.1 + (sgn S + (if (24 : Int) = 24 then 0 else 1)) = c
        rw [if_pos rfl]; omega
      · show opn S + (if (24 : Int) = 24 then 1 else 0) = o + 1
        rw [if_pos rfl]; omega
    · rw [sy_bad q1 q2 q3 q4] at h; cases h

set_option maxHeartbeats 8000000 in
theorem c_X7_startsPart {G : Gx} {σ : Sg} {t : Tk} {rest : List Tk} {S : List Int} {o c : Int} {K : Kn} (hC : CK σ (t :: rest)) (hR : SyR σ S o c K) (hI : SyI S o c K)  : Con G 3 mX7_startsPart [.ref (G.2.2.2 + 21), .ref (G.2.2.2 + 34)] σ (pI (fun z σ' => SyO σ σ' t.2.1 z (sy1 t (1, S, o, c, K)))) := by
  have hlen := SyR_len hR hI
  obtain ⟨r1, r2, r3, r4, r5, r6⟩ := id hR
  obtain ⟨i1, i2, i3, i4, i5, i6⟩ := id hI
  obtain ⟨k4, k5, ⟨kv1, kv2, kv3⟩, kr, kp⟩ := hC.hd
  have hsl := sg_len S
  refine e_entry om_X7_startsPart (Nat.le_of_ble_eq_true rfl) (L := [some (.ref (G.2.2.2 + 21)), some (.ref (G.2.2.2 + 34)), none]) rfl ?_
  refine e_aload_n (q := 1) (i := 0) dX7_startsPart_0 rfl rfl rfl ?_
  refine e_getR (q := 4) dX7_startsPart_1 rfl fg_X7_9 (by first | assumption | rfl) rfl ?_
  refine e_getI (q := 7) (jz := 4) dX7_startsPart_4 rfl fg_X7_37 rfl (by first | assumption | rfl) rfl ?_
  rw [k4]
  refine e_istore_n (q := 8) (i := 2) (L' := [_, _, _]) dX7_startsPart_7 rfl rfl (by decide) rfl rfl ?_
  refine e_iload_n (q := 9) (i := 2) dX7_startsPart_8 rfl rfl rfl ?_
  refine e_bipush (q := 11) dX7_startsPart_9 rfl (by decide) ?_
  refine e_icmp_ne (q := 14) (tgt := 66) dX7_startsPart_11 rfl (by decide) (fun c11 => ?_) (fun c11 => ?_)
  · refine e_iload_n (q := 67) (i := 2) dX7_startsPart_66 rfl rfl rfl ?_
    refine e_Sip (q := 70) (vs := [_]) ok_X3_isName ml_X7_56 dX7_startsPart_67 rfl rfl rfl (Nat.le_of_ble_eq_true rfl) (by decide) (c_X3_isName ⟨by omega, by omega⟩) ?_
    refine e_if_eq (q := 73) (tgt := 96) dX7_startsPart_70 rfl (by decide) (fun c70 => ?_) (fun c70 => ?_) (hx := by split <;> exact ⟨by decide, by decide⟩)
    · have hnn : ¬ (14 ≤ t.1 ∧ t.1 ≤ 20) := fun q => absurd ((if_pos q).symm.trans c70) (by decide)
      refine e_iload_n (q := 97) (i := 2) dX7_startsPart_96 rfl rfl rfl ?_
      refine e_bipush (q := 99) dX7_startsPart_97 rfl (by decide) ?_
      refine e_icmp_ne (q := 102) (tgt := 142) dX7_startsPart_99 rfl (by decide) (fun c99 => ?_) (fun c99 => ?_)
      · refine e_iload_n (q := 143) (i := 2) dX7_startsPart_142 rfl rfl rfl ?_
        refine e_bipush (q := 145) dX7_startsPart_143 rfl (by decide) ?_
        refine e_icmp_eq (q := 148) (tgt := 157) dX7_startsPart_145 rfl (by decide) (fun c145 => ?_) (fun c145 => ?_)
        · refine e_aload_n (q := 158) (i := 0) dX7_startsPart_157 rfl rfl rfl ?_
          refine e_getI (q := 161) (jz := 3) dX7_startsPart_158 rfl fg_X7_34 rfl (by first | assumption | rfl) rfl ?_
          refine e_bipush (q := 163) dX7_startsPart_161 rfl (by decide) ?_
          refine e_icmp_lt (q := 166) (tgt := 175) dX7_startsPart_163 rfl (by decide) (fun c163 => ?_) (fun c163 => ?_) (hx := ⟨by omega, by omega⟩)
          · refine e_aload_n (q := 176) (i := 0) dX7_startsPart_175 rfl rfl rfl ?_
            refine e_dup (q := 177) dX7_startsPart_176 rfl rfl ?_
            refine e_getI (q := 180) (jz := 3) dX7_startsPart_177 rfl fg_X7_34 rfl (by first | assumption | rfl) rfl ?_
            refine e_iconst (q := 181) dX7_startsPart_180 rfl ?_
            refine e_iadd (q := 182) dX7_startsPart_181 rfl ?_
            refine e_putI (q := 185) (jz := 3) dX7_startsPart_182 rfl fp_X7_34 rfl (by first | assumption | rfl) rfl ?_
            refine e_aload_n (q := 186) (i := 0) dX7_startsPart_185 rfl rfl rfl ?_
            refine e_iload_n (q := 187) (i := 2) dX7_startsPart_186 rfl rfl rfl ?_
            have e21 : (sI σ 21 3 (σ.1 21 3 + 1)).1 21 2 = σ.1 21 2 := by rw [sI_1, if_neg (by decide)]
            refine e_Vi (q := 190) (vs := [_]) ok_X7_pushes ml_X7_81 dX7_startsPart_187 rfl ⟨_, _, rfl⟩ (by first | assumption | rfl) rfl rfl (Nat.le_of_ble_eq_true rfl) (by decide) (c_X7_pushes (by rw [e21]; omega) (by rw [e21]; omega)) (fun z187 s187 h187 => ?_)
            obtain ⟨rfl, rfl⟩ := h187
            rw [e21, c145]
            refine r_z dX7_startsPart_190 rfl (Or.inr rfl) ?_
            rw [sy_opn c145, if_neg (by omega)]
            refine ⟨(((SF.rf σ).s (Or.inl rfl) _ _).s (Or.inr (Or.inl rfl)) _ _).s (Or.inl rfl) _ _, rfl, ⟨⟨?_, ?_⟩, ?_, ?_, ?_, ?_, ?_⟩, ?_, ?_⟩
            · rw [sI_ne _ (by decide), sI_1, r2, if_pos ⟨rfl, rfl⟩]
            · refine r1.upd (fun i a b => ?_)
              rw [sI_ne _ (by decide), sI_1, if_neg (fun q => by have := q.2; omega), sI_ne _ (by decide)]
            · rw [sI_1, if_pos ⟨rfl, rfl⟩, r2]; simp
            · rw [sI_1, if_neg (by decide), sI_ne _ (by decide), sI_1, if_pos ⟨rfl, rfl⟩, r3]
            · rw [sI_1, if_neg (by decide), sI_ne _ (by decide), sI_1, if_neg (by decide)]; exact r4
            · rw [sI_ne _ (by decide), sI_ne _ (by decide), sI_ne _ (by decide)]; exact r5
            · rw [sI_ne _ (by decide), sI_ne _ (by decide), sI_ne _ (by decide)]; exact r6
            · rw [sI_ne _ (by decide), sI_ne _ (by decide), sI_ne _ (by decide)]
            · rw [sI_ne _ (by decide), sI_ne _ (by decide), sI_ne _ (by decide)]
          · refine e_aload_n (q := 167) (i := 0) dX7_startsPart_166 rfl rfl rfl ?_
            refine e_getR (q := 170) dX7_startsPart_167 rfl fg_X7_9 (by first | assumption | rfl) rfl ?_
            refine e_iconst (q := 171) dX7_startsPart_170 rfl ?_
            refine e_Vi (q := 174) (vs := [_]) ok_X8_fail ml_X7_63 dX7_startsPart_171 rfl ⟨_, _, rfl⟩ (by first | assumption | rfl) rfl rfl (Nat.le_of_ble_eq_true rfl) (by decide) (c_X8_fail) (fun z171 s171 h171 => ?_)
            obtain ⟨rfl, rfl⟩ := h171
            exact r_z dX7_startsPart_174 rfl (Or.inl rfl) (by rw [sy_opn c145, if_pos (by omega)]; exact ⟨((SF.rf σ).f (Or.inl rfl) _).f (Or.inr rfl) _, rfl, by rw [sI_1, if_neg (by decide), sI_1, if_pos ⟨rfl, rfl⟩], by rw [sI_1, if_pos ⟨rfl, rfl⟩]; exact k5⟩)
        · refine e_aload_n (q := 149) (i := 0) dX7_startsPart_148 rfl rfl rfl ?_
          refine e_getR (q := 152) dX7_startsPart_149 rfl fg_X7_9 (by first | assumption | rfl) rfl ?_
          refine e_iconst (q := 153) dX7_startsPart_152 rfl ?_
          refine e_Vi (q := 156) (vs := [_]) ok_X8_fail ml_X7_63 dX7_startsPart_153 rfl ⟨_, _, rfl⟩ (by first | assumption | rfl) rfl rfl (Nat.le_of_ble_eq_true rfl) (by decide) (c_X8_fail) (fun z153 s153 h153 => ?_)
          obtain ⟨rfl, rfl⟩ := h153
          exact r_z dX7_startsPart_156 rfl (Or.inl rfl) (by rw [sy_bad c11 hnn c99 c145]; exact ⟨((SF.rf σ).f (Or.inl rfl) _).f (Or.inr rfl) _, rfl, by rw [sI_1, if_neg (by decide), sI_1, if_pos ⟨rfl, rfl⟩], by rw [sI_1, if_pos ⟨rfl, rfl⟩]; exact k5⟩)
      · refine e_aload_n (q := 103) (i := 0) dX7_startsPart_102 rfl rfl rfl ?_
        refine e_Vip (q := 106) (vs := []) ok_X7_topRank ml_X7_77 dX7_startsPart_103 rfl ⟨_, _, rfl⟩ (by first | assumption | rfl) rfl rfl (Nat.le_of_ble_eq_true rfl) (by decide) (c_X7_topRank hR hI) ?_
        refine e_iconst (q := 107) dX7_startsPart_106 rfl ?_
        have htr : 0 ≤ syTr S ∧ syTr S ≤ 6 := by
          cases S with
          | nil => exact ⟨by decide, by decide⟩
          | cons s S => exact ⟨(rk_in s).1, (rk_in s).2.1⟩
        refine e_icmp_le (q := 110) (tgt := 121) dX7_startsPart_107 rfl (by decide) (fun c107 => ?_) (fun c107 => ?_) (hx := ⟨by omega, by omega⟩)
        · refine e_aload_n (q := 122) (i := 0) dX7_startsPart_121 rfl rfl rfl ?_
          refine e_Vi (q := 125) (vs := []) ok_X7_counts ml_X7_69 dX7_startsPart_122 rfl ⟨_, _, rfl⟩ (by first | assumption | rfl) rfl rfl (Nat.le_of_ble_eq_true rfl) (by decide) (c_X7_counts (by omega) (by omega)) (fun z122 s122 h122 => ?_)
          refine e_if_eq (q := 128) (tgt := 140) dX7_startsPart_125 rfl (by decide) (fun c125 => ?_) (fun c125 => ?_) (hx := by rcases h122 with q | q; rw [q.2.1]; exact ⟨by decide, by decide⟩; rw [q.2.1]; exact ⟨by decide, by decide⟩)
          · obtain ⟨n1, n2, n3⟩ : 64 ≤ σ.1 21 4 ∧ z122 = 0 ∧ s122 = sI (sI σ 19 7 2) 19 8 (σ.1 19 5) := by
              rcases h122 with q | q
              · exact q
              · omega
            subst n3
            refine e_iconst (q := 141) dX7_startsPart_140 rfl ?_
            exact r_z dX7_startsPart_141 rfl (by first | exact Or.inl rfl | exact Or.inr rfl | omega) (by rw [sy_not c99, if_neg (by omega), if_pos (by omega)]; exact ⟨((SF.rf σ).f (Or.inl rfl) _).f (Or.inr rfl) _, rfl, by rw [sI_1, if_neg (by decide), sI_1, if_pos ⟨rfl, rfl⟩], by rw [sI_1, if_pos ⟨rfl, rfl⟩]; exact k5⟩)
          · obtain ⟨n1, n2, n3⟩ : ¬ 64 ≤ σ.1 21 4 ∧ z122 = 1 ∧ s122 = (sI σ 21 4 (σ.1 21 4 + 1)) := by
              rcases h122 with q | q
              · omega
              · exact q
            subst n3
            have e21 : (sI σ 21 4 (σ.1 21 4 + 1)).1 21 2 = σ.1 21 2 := by rw [sI_1, if_neg (by decide)]
            refine e_aload_n (q := 129) (i := 0) dX7_startsPart_128 rfl rfl rfl ?_
            refine e_iload_n (q := 130) (i := 2) dX7_startsPart_129 rfl rfl rfl ?_
            refine e_Vi (q := 133) (vs := [_]) ok_X7_pushes ml_X7_81 dX7_startsPart_130 rfl ⟨_, _, rfl⟩ (by first | assumption | rfl) rfl rfl (Nat.le_of_ble_eq_true rfl) (by decide) (c_X7_pushes (by rw [e21]; omega) (by rw [e21]; omega)) (fun z130 s130 h130 => ?_)
            obtain ⟨rfl, rfl⟩ := h130
            refine e_if_eq (q := 136) (tgt := 140) dX7_startsPart_133 rfl (by decide) (fun c133 => absurd c133 (by decide)) (fun c133 => ?_)
            refine e_iconst (q := 137) dX7_startsPart_136 rfl ?_
            refine e_goto (tgt := 141) dX7_startsPart_137 (by decide) ?_
            rw [e21, c99]
            refine r_z dX7_startsPart_141 rfl (by first | exact Or.inl rfl | exact Or.inr rfl | omega) ?_
            rw [sy_not c99, if_neg (by omega), if_neg (by omega)]
            refine ⟨(((SF.rf σ).s (Or.inl rfl) _ _).s (Or.inr (Or.inl rfl)) _ _).s (Or.inl rfl) _ _, rfl, ⟨⟨?_, ?_⟩, ?_, ?_, ?_, ?_, ?_⟩, ?_, ?_⟩
            · rw [sI_ne _ (by decide), sI_1, r2, if_pos ⟨rfl, rfl⟩]
            · refine r1.upd (fun i a b => ?_)
              rw [sI_ne _ (by decide), sI_1, if_neg (fun q => by have := q.2; omega), sI_ne _ (by decide)]
            · rw [sI_1, if_pos ⟨rfl, rfl⟩, r2]; simp
            · rw [sI_1, if_neg (by decide), sI_ne _ (by decide), sI_1, if_neg (by decide)]; exact r3
            · rw [sI_1, if_neg (by decide), sI_ne _ (by decide), sI_1, if_pos ⟨rfl, rfl⟩, r4]
            · rw [sI_ne _ (by decide), sI_ne _ (by decide), sI_ne _ (by decide)]; exact r5
            · rw [sI_ne _ (by decide), sI_ne _ (by decide), sI_ne _ (by decide)]; exact r6
            · rw [sI_ne _ (by decide), sI_ne _ (by decide), sI_ne _ (by decide)]
            · rw [sI_ne _ (by decide), sI_ne _ (by decide), sI_ne _ (by decide)]
        · refine e_aload_n (q := 111) (i := 0) dX7_startsPart_110 rfl rfl rfl ?_
          refine e_getR (q := 114) dX7_startsPart_111 rfl fg_X7_9 (by first | assumption | rfl) rfl ?_
          refine e_iconst (q := 115) dX7_startsPart_114 rfl ?_
          refine e_Vi (q := 118) (vs := [_]) ok_X8_fail ml_X7_63 dX7_startsPart_115 rfl ⟨_, _, rfl⟩ (by first | assumption | rfl) rfl rfl (Nat.le_of_ble_eq_true rfl) (by decide) (c_X8_fail) (fun z115 s115 h115 => ?_)
          refine e_goto (tgt := 141) dX7_startsPart_118 (by decide) ?_
          obtain ⟨rfl, rfl⟩ := h115
          exact r_z dX7_startsPart_141 rfl (by first | exact Or.inl rfl | exact Or.inr rfl | omega) (by rw [sy_not c99, if_pos (by omega)]; exact ⟨((SF.rf σ).f (Or.inl rfl) _).f (Or.inr rfl) _, rfl, by rw [sI_1, if_neg (by decide), sI_1, if_pos ⟨rfl, rfl⟩], by rw [sI_1, if_pos ⟨rfl, rfl⟩]; exact k5⟩)
    · have hnm : 14 ≤ t.1 ∧ t.1 ≤ 20 := Classical.byContradiction (fun q => c70 (if_neg q))
      refine e_aload_n (q := 74) (i := 0) dX7_startsPart_73 rfl rfl rfl ?_
      refine e_Vi (q := 77) (vs := []) ok_X7_counts ml_X7_69 dX7_startsPart_74 rfl ⟨_, _, rfl⟩ (by first | assumption | rfl) rfl rfl (Nat.le_of_ble_eq_true rfl) (by decide) (c_X7_counts (by omega) (by omega)) (fun z74 s74 h74 => ?_)
      refine e_if_eq (q := 80) (tgt := 94) dX7_startsPart_77 rfl (by decide) (fun c77 => ?_) (fun c77 => ?_) (hx := by rcases h74 with q | q; rw [q.2.1]; exact ⟨by decide, by decide⟩; rw [q.2.1]; exact ⟨by decide, by decide⟩)
      · obtain ⟨n1, n2, n3⟩ : 64 ≤ σ.1 21 4 ∧ z74 = 0 ∧ s74 = sI (sI σ 19 7 2) 19 8 (σ.1 19 5) := by
          rcases h74 with q | q
          · exact q
          · omega
        subst n3
        refine e_iconst (q := 95) dX7_startsPart_94 rfl ?_
        exact r_z dX7_startsPart_95 rfl (by first | exact Or.inl rfl | exact Or.inr rfl | omega) (by rw [sy_nam hnm, if_pos (by omega)]; exact ⟨((SF.rf σ).f (Or.inl rfl) _).f (Or.inr rfl) _, rfl, by rw [sI_1, if_neg (by decide), sI_1, if_pos ⟨rfl, rfl⟩], by rw [sI_1, if_pos ⟨rfl, rfl⟩]; exact k5⟩)
      · obtain ⟨n1, n2, n3⟩ : ¬ 64 ≤ σ.1 21 4 ∧ z74 = 1 ∧ s74 = (sI σ 21 4 (σ.1 21 4 + 1)) := by
          rcases h74 with q | q
          · omega
          · exact q
        subst n3
        have e34 : (sI σ 21 4 (σ.1 21 4 + 1)).1 34 4 = σ.1 34 4 := by rw [sI_ne _ (by decide)]
        refine e_aload_n (q := 81) (i := 0) dX7_startsPart_80 rfl rfl rfl ?_
        refine e_aload_n (q := 82) (i := 1) dX7_startsPart_81 rfl rfl rfl ?_
        refine e_iload_n (q := 83) (i := 2) dX7_startsPart_82 rfl rfl rfl ?_
        refine e_ineg (q := 84) dX7_startsPart_83 rfl ?_
        refine e_Vi (q := 87) (vs := [_, _]) ok_X7_puts ml_X7_73 dX7_startsPart_84 rfl ⟨_, _, rfl⟩ (by first | assumption | rfl) rfl rfl (Nat.le_of_ble_eq_true rfl) (by decide) (c_X7_puts (by rw [e34]; omega) (by rw [e34, r5]; omega)) (fun z84 s84 h84 => ?_)
        obtain ⟨rfl, rfl⟩ := h84
        refine e_if_eq (q := 90) (tgt := 94) dX7_startsPart_87 rfl (by decide) (fun c87 => absurd c87 (by decide)) (fun c87 => ?_)
        refine e_iconst (q := 91) dX7_startsPart_90 rfl ?_
        refine e_goto (tgt := 95) dX7_startsPart_91 (by decide) ?_
        refine r_z dX7_startsPart_95 rfl (by first | exact Or.inl rfl | exact Or.inr rfl | omega) ?_
        rw [e34, sy_nam hnm, if_neg (by omega)]
        refine ⟨(((SF.rf σ).s (Or.inl rfl) _ _).s (Or.inr (Or.inr (Or.inr rfl))) _ _).s (Or.inr (Or.inr (Or.inl rfl))) _ _, rfl, ⟨?_, ?_, ?_, ?_, ?_, ?_⟩, ?_, ?_⟩
        · rw [sI_ne _ (by decide), sI_ne _ (by decide), sI_ne _ (by decide)]; exact r1
        · rw [sI_ne _ (by decide), sI_ne _ (by decide), sI_1, if_neg (by decide)]; exact r2
        · rw [sI_ne _ (by decide), sI_ne _ (by decide), sI_1, if_neg (by decide)]; exact r3
        · rw [sI_ne _ (by decide), sI_ne _ (by decide), sI_1, if_pos ⟨rfl, rfl⟩, r4]
        · rw [sI_1, if_pos ⟨rfl, rfl⟩, r5]; rfl
        · rw [sI_ne _ (by decide), sI_uf, sI_ne _ (by decide), r6, r5]; rfl
        · rw [sI_ne _ (by decide), sI_ne _ (by decide), sI_ne _ (by decide)]
        · rw [sI_ne _ (by decide), sI_ne _ (by decide), sI_ne _ (by decide)]
  · refine e_aload_n (q := 15) (i := 0) dX7_startsPart_14 rfl rfl rfl ?_
    refine e_getR (q := 18) dX7_startsPart_15 rfl fg_X7_9 (by first | assumption | rfl) rfl ?_
    refine e_getI (q := 21) (jz := 6) dX7_startsPart_18 rfl fg_X7_66 rfl (by first | assumption | rfl) rfl ?_
    refine e_sipush (q := 24) dX7_startsPart_21 rfl (by decide) ?_
    have kv := kv2 c11
    refine e_icmp_le (q := 27) (tgt := 38) dX7_startsPart_24 rfl (by decide) (fun c24 => ?_) (fun c24 => ?_) (hx := kv3)
    · refine e_aload_n (q := 39) (i := 0) dX7_startsPart_38 rfl rfl rfl ?_
      refine e_Vi (q := 42) (vs := []) ok_X7_counts ml_X7_69 dX7_startsPart_39 rfl ⟨_, _, rfl⟩ (by first | assumption | rfl) rfl rfl (Nat.le_of_ble_eq_true rfl) (by decide) (c_X7_counts (by omega) (by omega)) (fun z39 s39 h39 => ?_)
      refine e_if_eq (q := 45) (tgt := 64) dX7_startsPart_42 rfl (by decide) (fun c42 => ?_) (fun c42 => ?_) (hx := by rcases h39 with q | q; rw [q.2.1]; exact ⟨by decide, by decide⟩; rw [q.2.1]; exact ⟨by decide, by decide⟩)
      · obtain ⟨n1, n2, n3⟩ : 64 ≤ σ.1 21 4 ∧ z39 = 0 ∧ s39 = sI (sI σ 19 7 2) 19 8 (σ.1 19 5) := by
          rcases h39 with q | q
          · exact q
          · omega
        subst n3
        refine e_iconst (q := 65) dX7_startsPart_64 rfl ?_
        exact r_z dX7_startsPart_65 rfl (by first | exact Or.inl rfl | exact Or.inr rfl | omega) (by rw [sy_num c11, if_neg (by omega), if_pos (by omega)]; exact ⟨((SF.rf σ).f (Or.inl rfl) _).f (Or.inr rfl) _, rfl, by rw [sI_1, if_neg (by decide), sI_1, if_pos ⟨rfl, rfl⟩], by rw [sI_1, if_pos ⟨rfl, rfl⟩]; exact k5⟩)
      · obtain ⟨n1, n2, n3⟩ : ¬ 64 ≤ σ.1 21 4 ∧ z39 = 1 ∧ s39 = (sI σ 21 4 (σ.1 21 4 + 1)) := by
          rcases h39 with q | q
          · omega
          · exact q
        subst n3
        have e34 : (sI σ 21 4 (σ.1 21 4 + 1)).1 34 4 = σ.1 34 4 := by rw [sI_ne _ (by decide)]
        refine e_aload_n (q := 46) (i := 0) dX7_startsPart_45 rfl rfl rfl ?_
        refine e_aload_n (q := 47) (i := 1) dX7_startsPart_46 rfl rfl rfl ?_
        refine e_aload_n (q := 48) (i := 0) dX7_startsPart_47 rfl rfl rfl ?_
        refine e_getR (q := 51) dX7_startsPart_48 rfl fg_X7_9 (by first | assumption | rfl) rfl ?_
        refine e_getI (q := 54) (jz := 6) dX7_startsPart_51 rfl fg_X7_66 rfl (by first | assumption | rfl) rfl ?_
        rw [show (sI σ 21 4 (σ.1 21 4 + 1)).1 19 6 = t.2.2 from by rw [sI_ne _ (by decide)]; omega]
        refine e_Vi (q := 57) (vs := [_, _]) ok_X7_puts ml_X7_73 dX7_startsPart_54 rfl ⟨_, _, rfl⟩ (by first | assumption | rfl) rfl rfl (Nat.le_of_ble_eq_true rfl) (by decide) (c_X7_puts (by rw [e34]; omega) (by rw [e34, r5]; omega)) (fun z54 s54 h54 => ?_)
        obtain ⟨rfl, rfl⟩ := h54
        refine e_if_eq (q := 60) (tgt := 64) dX7_startsPart_57 rfl (by decide) (fun c57 => absurd c57 (by decide)) (fun c57 => ?_)
        refine e_iconst (q := 61) dX7_startsPart_60 rfl ?_
        refine e_goto (tgt := 65) dX7_startsPart_61 (by decide) ?_
        refine r_z dX7_startsPart_65 rfl (by first | exact Or.inl rfl | exact Or.inr rfl | omega) ?_
        rw [e34, sy_num c11, if_neg (by omega), if_neg (by omega)]
        refine ⟨(((SF.rf σ).s (Or.inl rfl) _ _).s (Or.inr (Or.inr (Or.inr rfl))) _ _).s (Or.inr (Or.inr (Or.inl rfl))) _ _, rfl, ⟨?_, ?_, ?_, ?_, ?_, ?_⟩, ?_, ?_⟩
        · rw [sI_ne _ (by decide), sI_ne _ (by decide), sI_ne _ (by decide)]; exact r1
        · rw [sI_ne _ (by decide), sI_ne _ (by decide), sI_1, if_neg (by decide)]; exact r2
        · rw [sI_ne _ (by decide), sI_ne _ (by decide), sI_1, if_neg (by decide)]; exact r3
        · rw [sI_ne _ (by decide), sI_ne _ (by decide), sI_1, if_pos ⟨rfl, rfl⟩, r4]
        · rw [sI_1, if_pos ⟨rfl, rfl⟩, r5]; rfl
        · rw [sI_ne _ (by decide), sI_uf, sI_ne _ (by decide), r6, r5]; rfl
        · rw [sI_ne _ (by decide), sI_ne _ (by decide), sI_ne _ (by decide)]
        · rw [sI_ne _ (by decide), sI_ne _ (by decide), sI_ne _ (by decide)]
    · refine e_aload_n (q := 28) (i := 0) dX7_startsPart_27 rfl rfl rfl ?_
      refine e_getR (q := 31) dX7_startsPart_28 rfl fg_X7_9 (by first | assumption | rfl) rfl ?_
      refine e_iconst (q := 32) dX7_startsPart_31 rfl ?_
      refine e_Vi (q := 35) (vs := [_]) ok_X8_fail ml_X7_63 dX7_startsPart_32 rfl ⟨_, _, rfl⟩ (by first | assumption | rfl) rfl rfl (Nat.le_of_ble_eq_true rfl) (by decide) (c_X8_fail) (fun z32 s32 h32 => ?_)
      refine e_goto (tgt := 65) dX7_startsPart_35 (by decide) ?_
      obtain ⟨rfl, rfl⟩ := h32
      exact r_z dX7_startsPart_65 rfl (by first | exact Or.inl rfl | exact Or.inr rfl | omega) (by rw [sy_num c11, if_pos (by omega)]; exact ⟨((SF.rf σ).f (Or.inl rfl) _).f (Or.inr rfl) _, rfl, by rw [sI_1, if_neg (by decide), sI_1, if_pos ⟨rfl, rfl⟩], by rw [sI_1, if_pos ⟨rfl, rfl⟩]; exact k5⟩)

set_option maxHeartbeats 8000000 in
theorem c_X7_followsPart {G : Gx} {σ : Sg} {t : Tk} {rest : List Tk} {S : List Int} {o c : Int} {K : Kn} (hC : CK σ (t :: rest)) (hR : SyR σ S o c K) (hI : SyI S o c K)  : Con G 4 mX7_followsPart [.ref (G.2.2.2 + 21), .ref (G.2.2.2 + 34)] σ (pI (fun z σ' => SyO σ σ' t.2.1 z (sy1 t (0, S, o, c, K)))) := by
  have hlen := SyR_len hR hI
  obtain ⟨r1, r2, r3, r4, r5, r6⟩ := id hR
  obtain ⟨i1, i2, i3, i4, i5, i6⟩ := id hI
  obtain ⟨k4, k5, ⟨kv1, kv2, kv3⟩, kr, kp⟩ := hC.hd
  have hsl := sg_len S
  refine e_entry om_X7_followsPart (Nat.le_of_ble_eq_true rfl) (L := [some (.ref (G.2.2.2 + 21)), some (.ref (G.2.2.2 + 34)), none, none]) rfl ?_
  refine e_aload_n (q := 1) (i := 0) dX7_followsPart_0 rfl rfl rfl ?_
  refine e_getR (q := 4) dX7_followsPart_1 rfl fg_X7_9 (by first | assumption | rfl) rfl ?_
  refine e_getI (q := 7) (jz := 4) dX7_followsPart_4 rfl fg_X7_37 rfl (by first | assumption | rfl) rfl ?_
  rw [k4]
  refine e_istore_n (q := 8) (i := 2) (L' := [_, _, _, _]) dX7_followsPart_7 rfl rfl (by decide) rfl rfl ?_
  refine e_iload_n (q := 9) (i := 2) dX7_followsPart_8 rfl rfl rfl ?_
  refine e_bipush (q := 11) dX7_followsPart_9 rfl (by decide) ?_
  refine e_icmp_ne (q := 14) (tgt := 49) dX7_followsPart_11 rfl (by decide) (fun c11 => ?_) (fun c11 => ?_)
  · refine e_iload_n (q := 50) (i := 2) dX7_followsPart_49 rfl rfl rfl ?_
    refine e_Sip (q := 53) (vs := [_]) ok_X7_rank ml_X7_84 dX7_followsPart_50 rfl rfl rfl (Nat.le_of_ble_eq_true rfl) (by decide) (c_X7_rank ⟨by omega, by omega⟩) ?_
    refine e_istore_n (q := 54) (i := 3) (L' := [_, _, _, _]) dX7_followsPart_53 rfl rfl (by decide) rfl rfl ?_
    refine e_iload_n (q := 55) (i := 3) dX7_followsPart_54 rfl rfl rfl ?_
    have hrk := rk_in t.1
    have hnc : ¬ (t.1 = 25 ∧ 0 < o) := by omega
    refine e_if_eq (q := 58) (tgt := 64) dX7_followsPart_55 rfl (by decide) (fun c55 => ?_) (fun c55 => ?_) (hx := ⟨by omega, by omega⟩)
    · refine e_aload_n (q := 65) (i := 0) dX7_followsPart_64 rfl rfl rfl ?_
      refine e_getR (q := 68) dX7_followsPart_65 rfl fg_X7_9 (by first | assumption | rfl) rfl ?_
      refine e_iconst (q := 69) dX7_followsPart_68 rfl ?_
      refine e_Vi (q := 72) (vs := [_]) ok_X8_fail ml_X7_63 dX7_followsPart_69 rfl ⟨_, _, rfl⟩ (by first | assumption | rfl) rfl rfl (Nat.le_of_ble_eq_true rfl) (by decide) (c_X8_fail) (fun z69 s69 h69 => ?_)
      obtain ⟨rfl, rfl⟩ := h69
      exact r_z dX7_followsPart_72 rfl (Or.inl rfl) (by rw [sy_no hnc (by omega)]; exact ⟨((SF.rf σ).f (Or.inl rfl) _).f (Or.inr rfl) _, rfl, by rw [sI_1, if_neg (by decide), sI_1, if_pos ⟨rfl, rfl⟩], by rw [sI_1, if_pos ⟨rfl, rfl⟩]; exact k5⟩)
    · refine e_iload_n (q := 59) (i := 2) dX7_followsPart_58 rfl rfl rfl ?_
      refine e_bipush (q := 61) dX7_followsPart_59 rfl (by decide) ?_
      refine e_icmp_ne (q := 64) (tgt := 73) dX7_followsPart_61 rfl (by decide) (fun c61 => ?_) (fun c61 => ?_)
      · refine e_aload_n (q := 74) (i := 0) dX7_followsPart_73 rfl rfl rfl ?_
        refine e_aload_n (q := 75) (i := 1) dX7_followsPart_74 rfl rfl rfl ?_
        refine e_iload_n (q := 76) (i := 3) dX7_followsPart_75 rfl rfl rfl ?_
        refine e_iconst (q := 77) dX7_followsPart_76 rfl ?_
        refine e_icmp_ne (q := 80) (tgt := 86) dX7_followsPart_77 rfl (by decide) (fun c77 => ?_) (fun c77 => ?_) (hx := ⟨by omega, by omega⟩)
        · refine e_iload_n (q := 87) (i := 3) dX7_followsPart_86 rfl rfl rfl ?_
          refine e_Vv (q := 90) (vs := [_, _]) ok_X7_settle ml_X7_42 dX7_followsPart_87 rfl ⟨_, _, rfl⟩ (by first | assumption | rfl) rfl rfl (Nat.le_of_ble_eq_true rfl) (by decide) (c_X7_settle hR hI (l := rk t.1) (by omega) (by omega)) (fun s87 h87 => ?_)
          obtain ⟨hR1, hF1, e19⟩ := h87
          rw [show max (rk t.1) 1 = rk t.1 by omega] at hR1
          have hI1 := sySet_I (show (1 : Int) ≤ rk t.1 by omega) S o c K hI
          refine e_iload_n (q := 91) (i := 3) dX7_followsPart_90 rfl rfl rfl ?_
          refine e_iconst (q := 92) dX7_followsPart_91 rfl ?_
          refine e_icmp_ne (q := 95) (tgt := 112) dX7_followsPart_92 rfl (by decide) (fun c92 => ?_) (fun c92 => by exfalso; omega) (hx := ⟨by omega, by omega⟩)
          have hlen1 := SyR_len hR1 hI1
          obtain ⟨q1, q2, q3, q4, q5, q6⟩ := id hR1
          have hsl1 := sg_len (sySet (rk t.1) S K).1
          have hi1 := id hI1
          obtain ⟨-, w2, w3, w4, w5, w6⟩ := hi1
          refine e_aload_n (q := 113) (i := 0) dX7_followsPart_112 rfl rfl rfl ?_
          refine e_Vi (q := 116) (vs := []) ok_X7_counts ml_X7_69 dX7_followsPart_113 rfl ⟨_, _, rfl⟩ (by first | assumption | rfl) rfl rfl (Nat.le_of_ble_eq_true rfl) (by decide) (c_X7_counts (by omega) (by omega)) (fun z113 s113 h113 => ?_)
          refine e_if_eq (q := 119) (tgt := 131) dX7_followsPart_116 rfl (by decide) (fun c116 => ?_) (fun c116 => ?_) (hx := by rcases h113 with q | q; rw [q.2.1]; exact ⟨by decide, by decide⟩; rw [q.2.1]; exact ⟨by decide, by decide⟩)
          · obtain ⟨n1, n2, n3⟩ : 64 ≤ s87.1 21 4 ∧ z113 = 0 ∧ s113 = sI (sI s87 19 7 2) 19 8 (s87.1 19 5) := by
              rcases h113 with q | q
              · exact q
              · omega
            subst n3
            refine e_iconst (q := 132) dX7_followsPart_131 rfl ?_
            exact r_z dX7_followsPart_132 rfl (by first | exact Or.inl rfl | exact Or.inr rfl | omega) (by rw [sy_op (by omega) c77 (by omega), if_pos (by omega)]; exact ⟨(hF1.f (Or.inl rfl) _).f (Or.inr rfl) _, rfl, by rw [sI_1, if_neg (by decide), sI_1, if_pos ⟨rfl, rfl⟩], by rw [sI_1, if_pos ⟨rfl, rfl⟩, e19]; exact k5⟩)
          · obtain ⟨n1, n2, n3⟩ : ¬ 64 ≤ s87.1 21 4 ∧ z113 = 1 ∧ s113 = sI s87 21 4 (s87.1 21 4 + 1) := by
              rcases h113 with q | q
              · omega
              · exact q
            subst n3
            have e21 : (sI s87 21 4 (s87.1 21 4 + 1)).1 21 2 = s87.1 21 2 := by rw [sI_1, if_neg (by decide)]
            refine e_aload_n (q := 120) (i := 0) dX7_followsPart_119 rfl rfl rfl ?_
            refine e_iload_n (q := 121) (i := 2) dX7_followsPart_120 rfl rfl rfl ?_
            refine e_Vi (q := 124) (vs := [_]) ok_X7_pushes ml_X7_81 dX7_followsPart_121 rfl ⟨_, _, rfl⟩ (by first | assumption | rfl) rfl rfl (Nat.le_of_ble_eq_true rfl) (by decide) (c_X7_pushes (by rw [e21]; omega) (by rw [e21]; omega)) (fun z121 s121 h121 => ?_)
            obtain ⟨rfl, rfl⟩ := h121
            refine e_if_eq (q := 127) (tgt := 131) dX7_followsPart_124 rfl (by decide) (fun c124 => absurd c124 (by decide)) (fun c124 => ?_)
            refine e_iconst (q := 128) dX7_followsPart_127 rfl ?_
            refine e_goto (tgt := 132) dX7_followsPart_128 (by decide) ?_
            rw [e21]
            refine r_z dX7_followsPart_132 rfl (by first | exact Or.inl rfl | exact Or.inr rfl | omega) ?_
            rw [sy_op (by omega) c77 (by omega), if_neg (by omega)]
            refine ⟨((hF1.s (Or.inl rfl) _ _).s (Or.inr (Or.inl rfl)) _ _).s (Or.inl rfl) _ _, rfl, ⟨⟨?_, ?_⟩, ?_, ?_, ?_, ?_, ?_⟩, ?_, ?_⟩
            · rw [sI_ne _ (by decide), sI_1, q2, if_pos ⟨rfl, rfl⟩]
            · refine q1.upd (fun i a b => ?_)
              rw [sI_ne _ (by decide), sI_1, if_neg (fun q => by have := q.2; omega), sI_ne _ (by decide)]
            · rw [sI_1, if_pos ⟨rfl, rfl⟩, q2]; simp
            · rw [sI_1, if_neg (by decide), sI_ne _ (by decide), sI_1, if_neg (by decide)]; exact q3
            · rw [sI_1, if_neg (by decide), sI_ne _ (by decide), sI_1, if_pos ⟨rfl, rfl⟩, q4]
            · rw [sI_ne _ (by decide), sI_ne _ (by decide), sI_ne _ (by decide)]; exact q5
            · rw [sI_ne _ (by decide), sI_ne _ (by decide), sI_ne _ (by decide)]; exact q6
            · rw [sI_ne _ (by decide), sI_ne _ (by decide), sI_ne _ (by decide), e19]
            · rw [sI_ne _ (by decide), sI_ne _ (by decide), sI_ne _ (by decide), e19]
        · refine e_iload_n (q := 81) (i := 3) dX7_followsPart_80 rfl rfl rfl ?_
          refine e_iconst (q := 82) dX7_followsPart_81 rfl ?_
          refine e_iadd (q := 83) dX7_followsPart_82 rfl ?_
          refine e_goto (tgt := 87) dX7_followsPart_83 (by decide) ?_
          refine e_Vv (q := 90) (vs := [_, _]) ok_X7_settle ml_X7_42 dX7_followsPart_87 rfl ⟨_, _, rfl⟩ (by first | assumption | rfl) rfl rfl (Nat.le_of_ble_eq_true rfl) (by decide) (c_X7_settle hR hI (l := rk t.1 + 1) (by omega) (by omega)) (fun s87 h87 => ?_)
          obtain ⟨hR1, hF1, e19⟩ := h87
          rw [show max (rk t.1 + 1) 1 = 5 by omega] at hR1
          have hI1 := sySet_I (show (1 : Int) ≤ 5 by decide) S o c K hI
          refine e_iload_n (q := 91) (i := 3) dX7_followsPart_90 rfl rfl rfl ?_
          refine e_iconst (q := 92) dX7_followsPart_91 rfl ?_
          refine e_icmp_ne (q := 95) (tgt := 112) dX7_followsPart_92 rfl (by decide) (fun c92 => absurd c92 (by omega)) (fun c92 => ?_) (hx := ⟨by omega, by omega⟩)
          refine e_aload_n (q := 96) (i := 0) dX7_followsPart_95 rfl rfl rfl ?_
          refine e_Vip (q := 99) (vs := []) ok_X7_topRank ml_X7_77 dX7_followsPart_96 rfl ⟨_, _, rfl⟩ (by first | assumption | rfl) rfl rfl (Nat.le_of_ble_eq_true rfl) (by decide) (c_X7_topRank hR1 hI1) ?_
          refine e_iconst (q := 100) dX7_followsPart_99 rfl ?_
          have htr : 0 ≤ syTr (sySet 5 S K).1 ∧ syTr (sySet 5 S K).1 ≤ 6 := by
            cases (sySet 5 S K).1 with
            | nil => exact ⟨by decide, by decide⟩
            | cons s S => exact ⟨(rk_in s).1, (rk_in s).2.1⟩
          refine e_icmp_ne (q := 103) (tgt := 112) dX7_followsPart_100 rfl (by decide) (fun c100 => ?_) (fun c100 => ?_) (hx := ⟨by omega, by omega⟩)
          · have hlen1 := SyR_len hR1 hI1
            obtain ⟨q1, q2, q3, q4, q5, q6⟩ := id hR1
            have hsl1 := sg_len (sySet 5 S K).1
            have hi1 := id hI1
            obtain ⟨-, w2, w3, w4, w5, w6⟩ := hi1
            refine e_aload_n (q := 113) (i := 0) dX7_followsPart_112 rfl rfl rfl ?_
            refine e_Vi (q := 116) (vs := []) ok_X7_counts ml_X7_69 dX7_followsPart_113 rfl ⟨_, _, rfl⟩ (by first | assumption | rfl) rfl rfl (Nat.le_of_ble_eq_true rfl) (by decide) (c_X7_counts (by omega) (by omega)) (fun z113 s113 h113 => ?_)
            refine e_if_eq (q := 119) (tgt := 131) dX7_followsPart_116 rfl (by decide) (fun c116 => ?_) (fun c116 => ?_) (hx := by rcases h113 with q | q; rw [q.2.1]; exact ⟨by decide, by decide⟩; rw [q.2.1]; exact ⟨by decide, by decide⟩)
            · obtain ⟨n1, n2, n3⟩ : 64 ≤ s87.1 21 4 ∧ z113 = 0 ∧ s113 = sI (sI s87 19 7 2) 19 8 (s87.1 19 5) := by
                rcases h113 with q | q
                · exact q
                · omega
              subst n3
              refine e_iconst (q := 132) dX7_followsPart_131 rfl ?_
              exact r_z dX7_followsPart_132 rfl (by first | exact Or.inl rfl | exact Or.inr rfl | omega) (by rw [sy_cmp c77, if_neg c100, if_pos (by omega)]; exact ⟨(hF1.f (Or.inl rfl) _).f (Or.inr rfl) _, rfl, by rw [sI_1, if_neg (by decide), sI_1, if_pos ⟨rfl, rfl⟩], by rw [sI_1, if_pos ⟨rfl, rfl⟩, e19]; exact k5⟩)
            · obtain ⟨n1, n2, n3⟩ : ¬ 64 ≤ s87.1 21 4 ∧ z113 = 1 ∧ s113 = sI s87 21 4 (s87.1 21 4 + 1) := by
                rcases h113 with q | q
                · omega
                · exact q
              subst n3
              have e21 : (sI s87 21 4 (s87.1 21 4 + 1)).1 21 2 = s87.1 21 2 := by rw [sI_1, if_neg (by decide)]
              refine e_aload_n (q := 120) (i := 0) dX7_followsPart_119 rfl rfl rfl ?_
              refine e_iload_n (q := 121) (i := 2) dX7_followsPart_120 rfl rfl rfl ?_
              refine e_Vi (q := 124) (vs := [_]) ok_X7_pushes ml_X7_81 dX7_followsPart_121 rfl ⟨_, _, rfl⟩ (by first | assumption | rfl) rfl rfl (Nat.le_of_ble_eq_true rfl) (by decide) (c_X7_pushes (by rw [e21]; omega) (by rw [e21]; omega)) (fun z121 s121 h121 => ?_)
              obtain ⟨rfl, rfl⟩ := h121
              refine e_if_eq (q := 127) (tgt := 131) dX7_followsPart_124 rfl (by decide) (fun c124 => absurd c124 (by decide)) (fun c124 => ?_)
              refine e_iconst (q := 128) dX7_followsPart_127 rfl ?_
              refine e_goto (tgt := 132) dX7_followsPart_128 (by decide) ?_
              rw [e21]
              refine r_z dX7_followsPart_132 rfl (by first | exact Or.inl rfl | exact Or.inr rfl | omega) ?_
              rw [sy_cmp c77, if_neg c100, if_neg (by omega)]
              refine ⟨((hF1.s (Or.inl rfl) _ _).s (Or.inr (Or.inl rfl)) _ _).s (Or.inl rfl) _ _, rfl, ⟨⟨?_, ?_⟩, ?_, ?_, ?_, ?_, ?_⟩, ?_, ?_⟩
              · rw [sI_ne _ (by decide), sI_1, q2, if_pos ⟨rfl, rfl⟩]
              · refine q1.upd (fun i a b => ?_)
                rw [sI_ne _ (by decide), sI_1, if_neg (fun q => by have := q.2; omega), sI_ne _ (by decide)]
              · rw [sI_1, if_pos ⟨rfl, rfl⟩, q2]; simp
              · rw [sI_1, if_neg (by decide), sI_ne _ (by decide), sI_1, if_neg (by decide)]; exact q3
              · rw [sI_1, if_neg (by decide), sI_ne _ (by decide), sI_1, if_pos ⟨rfl, rfl⟩, q4]
              · rw [sI_ne _ (by decide), sI_ne _ (by decide), sI_ne _ (by decide)]; exact q5
              · rw [sI_ne _ (by decide), sI_ne _ (by decide), sI_ne _ (by decide)]; exact q6
              · rw [sI_ne _ (by decide), sI_ne _ (by decide), sI_ne _ (by decide), e19]
              · rw [sI_ne _ (by decide), sI_ne _ (by decide), sI_ne _ (by decide), e19]
          · refine e_aload_n (q := 104) (i := 0) dX7_followsPart_103 rfl rfl rfl ?_
            refine e_getR (q := 107) dX7_followsPart_104 rfl fg_X7_9 (by first | assumption | rfl) rfl ?_
            refine e_iconst (q := 108) dX7_followsPart_107 rfl ?_
            refine e_Vi (q := 111) (vs := [_]) ok_X8_fail ml_X7_63 dX7_followsPart_108 rfl ⟨_, _, rfl⟩ (by first | assumption | rfl) rfl rfl (Nat.le_of_ble_eq_true rfl) (by decide) (c_X8_fail) (fun z108 s108 h108 => ?_)
            obtain ⟨rfl, rfl⟩ := h108
            exact r_z dX7_followsPart_111 rfl (Or.inl rfl) (by rw [sy_cmp c77, if_pos c100]; exact ⟨(hF1.f (Or.inl rfl) _).f (Or.inr rfl) _, rfl, by rw [sI_1, if_neg (by decide), sI_1, if_pos ⟨rfl, rfl⟩], by rw [sI_1, if_pos ⟨rfl, rfl⟩, e19]; exact k5⟩)
      · refine e_aload_n (q := 65) (i := 0) dX7_followsPart_64 rfl rfl rfl ?_
        refine e_getR (q := 68) dX7_followsPart_65 rfl fg_X7_9 (by first | assumption | rfl) rfl ?_
        refine e_iconst (q := 69) dX7_followsPart_68 rfl ?_
        refine e_Vi (q := 72) (vs := [_]) ok_X8_fail ml_X7_63 dX7_followsPart_69 rfl ⟨_, _, rfl⟩ (by first | assumption | rfl) rfl rfl (Nat.le_of_ble_eq_true rfl) (by decide) (c_X8_fail) (fun z69 s69 h69 => ?_)
        obtain ⟨rfl, rfl⟩ := h69
        exact r_z dX7_followsPart_72 rfl (Or.inl rfl) (by rw [sy_no hnc (by omega)]; exact ⟨((SF.rf σ).f (Or.inl rfl) _).f (Or.inr rfl) _, rfl, by rw [sI_1, if_neg (by decide), sI_1, if_pos ⟨rfl, rfl⟩], by rw [sI_1, if_pos ⟨rfl, rfl⟩]; exact k5⟩)
  · refine e_aload_n (q := 15) (i := 0) dX7_followsPart_14 rfl rfl rfl ?_
    refine e_getI (q := 18) (jz := 3) dX7_followsPart_15 rfl fg_X7_34 rfl (by first | assumption | rfl) rfl ?_
    refine e_if_le (q := 21) (tgt := 49) dX7_followsPart_18 rfl (by decide) (fun c18 => ?_) (fun c18 => ?_) (hx := ⟨by omega, by omega⟩)
    · refine e_iload_n (q := 50) (i := 2) dX7_followsPart_49 rfl rfl rfl ?_
      refine e_Sip (q := 53) (vs := [_]) ok_X7_rank ml_X7_84 dX7_followsPart_50 rfl rfl rfl (Nat.le_of_ble_eq_true rfl) (by decide) (c_X7_rank ⟨by omega, by omega⟩) ?_
      refine e_istore_n (q := 54) (i := 3) (L' := [_, _, _, _]) dX7_followsPart_53 rfl rfl (by decide) rfl rfl ?_
      refine e_iload_n (q := 55) (i := 3) dX7_followsPart_54 rfl rfl rfl ?_
      have hrk := rk_in t.1
      have hnc : ¬ (t.1 = 25 ∧ 0 < o) := by omega
      refine e_if_eq (q := 58) (tgt := 64) dX7_followsPart_55 rfl (by decide) (fun c55 => ?_) (fun c55 => ?_) (hx := ⟨by omega, by omega⟩)
      · refine e_aload_n (q := 65) (i := 0) dX7_followsPart_64 rfl rfl rfl ?_
        refine e_getR (q := 68) dX7_followsPart_65 rfl fg_X7_9 (by first | assumption | rfl) rfl ?_
        refine e_iconst (q := 69) dX7_followsPart_68 rfl ?_
        refine e_Vi (q := 72) (vs := [_]) ok_X8_fail ml_X7_63 dX7_followsPart_69 rfl ⟨_, _, rfl⟩ (by first | assumption | rfl) rfl rfl (Nat.le_of_ble_eq_true rfl) (by decide) (c_X8_fail) (fun z69 s69 h69 => ?_)
        obtain ⟨rfl, rfl⟩ := h69
        exact r_z dX7_followsPart_72 rfl (Or.inl rfl) (by rw [sy_no hnc (by omega)]; exact ⟨((SF.rf σ).f (Or.inl rfl) _).f (Or.inr rfl) _, rfl, by rw [sI_1, if_neg (by decide), sI_1, if_pos ⟨rfl, rfl⟩], by rw [sI_1, if_pos ⟨rfl, rfl⟩]; exact k5⟩)
      · refine e_iload_n (q := 59) (i := 2) dX7_followsPart_58 rfl rfl rfl ?_
        refine e_bipush (q := 61) dX7_followsPart_59 rfl (by decide) ?_
        refine e_icmp_ne (q := 64) (tgt := 73) dX7_followsPart_61 rfl (by decide) (fun c61 => ?_) (fun c61 => ?_)
        · refine e_aload_n (q := 74) (i := 0) dX7_followsPart_73 rfl rfl rfl ?_
          refine e_aload_n (q := 75) (i := 1) dX7_followsPart_74 rfl rfl rfl ?_
          refine e_iload_n (q := 76) (i := 3) dX7_followsPart_75 rfl rfl rfl ?_
          refine e_iconst (q := 77) dX7_followsPart_76 rfl ?_
          refine e_icmp_ne (q := 80) (tgt := 86) dX7_followsPart_77 rfl (by decide) (fun c77 => ?_) (fun c77 => ?_) (hx := ⟨by omega, by omega⟩)
          · refine e_iload_n (q := 87) (i := 3) dX7_followsPart_86 rfl rfl rfl ?_
            refine e_Vv (q := 90) (vs := [_, _]) ok_X7_settle ml_X7_42 dX7_followsPart_87 rfl ⟨_, _, rfl⟩ (by first | assumption | rfl) rfl rfl (Nat.le_of_ble_eq_true rfl) (by decide) (c_X7_settle hR hI (l := rk t.1) (by omega) (by omega)) (fun s87 h87 => ?_)
            obtain ⟨hR1, hF1, e19⟩ := h87
            rw [show max (rk t.1) 1 = rk t.1 by omega] at hR1
            have hI1 := sySet_I (show (1 : Int) ≤ rk t.1 by omega) S o c K hI
            refine e_iload_n (q := 91) (i := 3) dX7_followsPart_90 rfl rfl rfl ?_
            refine e_iconst (q := 92) dX7_followsPart_91 rfl ?_
            refine e_icmp_ne (q := 95) (tgt := 112) dX7_followsPart_92 rfl (by decide) (fun c92 => ?_) (fun c92 => by exfalso; omega) (hx := ⟨by omega, by omega⟩)
            have hlen1 := SyR_len hR1 hI1
            obtain ⟨q1, q2, q3, q4, q5, q6⟩ := id hR1
            have hsl1 := sg_len (sySet (rk t.1) S K).1
            have hi1 := id hI1
            obtain ⟨-, w2, w3, w4, w5, w6⟩ := hi1
            refine e_aload_n (q := 113) (i := 0) dX7_followsPart_112 rfl rfl rfl ?_
            refine e_Vi (q := 116) (vs := []) ok_X7_counts ml_X7_69 dX7_followsPart_113 rfl ⟨_, _, rfl⟩ (by first | assumption | rfl) rfl rfl (Nat.le_of_ble_eq_true rfl) (by decide) (c_X7_counts (by omega) (by omega)) (fun z113 s113 h113 => ?_)
            refine e_if_eq (q := 119) (tgt := 131) dX7_followsPart_116 rfl (by decide) (fun c116 => ?_) (fun c116 => ?_) (hx := by rcases h113 with q | q; rw [q.2.1]; exact ⟨by decide, by decide⟩; rw [q.2.1]; exact ⟨by decide, by decide⟩)
            · obtain ⟨n1, n2, n3⟩ : 64 ≤ s87.1 21 4 ∧ z113 = 0 ∧ s113 = sI (sI s87 19 7 2) 19 8 (s87.1 19 5) := by
                rcases h113 with q | q
                · exact q
                · omega
              subst n3
              refine e_iconst (q := 132) dX7_followsPart_131 rfl ?_
              exact r_z dX7_followsPart_132 rfl (by first | exact Or.inl rfl | exact Or.inr rfl | omega) (by rw [sy_op (by omega) c77 (by omega), if_pos (by omega)]; exact ⟨(hF1.f (Or.inl rfl) _).f (Or.inr rfl) _, rfl, by rw [sI_1, if_neg (by decide), sI_1, if_pos ⟨rfl, rfl⟩], by rw [sI_1, if_pos ⟨rfl, rfl⟩, e19]; exact k5⟩)
            · obtain ⟨n1, n2, n3⟩ : ¬ 64 ≤ s87.1 21 4 ∧ z113 = 1 ∧ s113 = sI s87 21 4 (s87.1 21 4 + 1) := by
                rcases h113 with q | q
                · omega
                · exact q
              subst n3
              have e21 : (sI s87 21 4 (s87.1 21 4 + 1)).1 21 2 = s87.1 21 2 := by rw [sI_1, if_neg (by decide)]
              refine e_aload_n (q := 120) (i := 0) dX7_followsPart_119 rfl rfl rfl ?_
              refine e_iload_n (q := 121) (i := 2) dX7_followsPart_120 rfl rfl rfl ?_
              refine e_Vi (q := 124) (vs := [_]) ok_X7_pushes ml_X7_81 dX7_followsPart_121 rfl ⟨_, _, rfl⟩ (by first | assumption | rfl) rfl rfl (Nat.le_of_ble_eq_true rfl) (by decide) (c_X7_pushes (by rw [e21]; omega) (by rw [e21]; omega)) (fun z121 s121 h121 => ?_)
              obtain ⟨rfl, rfl⟩ := h121
              refine e_if_eq (q := 127) (tgt := 131) dX7_followsPart_124 rfl (by decide) (fun c124 => absurd c124 (by decide)) (fun c124 => ?_)
              refine e_iconst (q := 128) dX7_followsPart_127 rfl ?_
              refine e_goto (tgt := 132) dX7_followsPart_128 (by decide) ?_
              rw [e21]
              refine r_z dX7_followsPart_132 rfl (by first | exact Or.inl rfl | exact Or.inr rfl | omega) ?_
              rw [sy_op (by omega) c77 (by omega), if_neg (by omega)]
              refine ⟨((hF1.s (Or.inl rfl) _ _).s (Or.inr (Or.inl rfl)) _ _).s (Or.inl rfl) _ _, rfl, ⟨⟨?_, ?_⟩, ?_, ?_, ?_, ?_, ?_⟩, ?_, ?_⟩
              · rw [sI_ne _ (by decide), sI_1, q2, if_pos ⟨rfl, rfl⟩]
              · refine q1.upd (fun i a b => ?_)
                rw [sI_ne _ (by decide), sI_1, if_neg (fun q => by have := q.2; omega), sI_ne _ (by decide)]
              · rw [sI_1, if_pos ⟨rfl, rfl⟩, q2]; simp
              · rw [sI_1, if_neg (by decide), sI_ne _ (by decide), sI_1, if_neg (by decide)]; exact q3
              · rw [sI_1, if_neg (by decide), sI_ne _ (by decide), sI_1, if_pos ⟨rfl, rfl⟩, q4]
              · rw [sI_ne _ (by decide), sI_ne _ (by decide), sI_ne _ (by decide)]; exact q5
              · rw [sI_ne _ (by decide), sI_ne _ (by decide), sI_ne _ (by decide)]; exact q6
              · rw [sI_ne _ (by decide), sI_ne _ (by decide), sI_ne _ (by decide), e19]
              · rw [sI_ne _ (by decide), sI_ne _ (by decide), sI_ne _ (by decide), e19]
          · refine e_iload_n (q := 81) (i := 3) dX7_followsPart_80 rfl rfl rfl ?_
            refine e_iconst (q := 82) dX7_followsPart_81 rfl ?_
            refine e_iadd (q := 83) dX7_followsPart_82 rfl ?_
            refine e_goto (tgt := 87) dX7_followsPart_83 (by decide) ?_
            refine e_Vv (q := 90) (vs := [_, _]) ok_X7_settle ml_X7_42 dX7_followsPart_87 rfl ⟨_, _, rfl⟩ (by first | assumption | rfl) rfl rfl (Nat.le_of_ble_eq_true rfl) (by decide) (c_X7_settle hR hI (l := rk t.1 + 1) (by omega) (by omega)) (fun s87 h87 => ?_)
            obtain ⟨hR1, hF1, e19⟩ := h87
            rw [show max (rk t.1 + 1) 1 = 5 by omega] at hR1
            have hI1 := sySet_I (show (1 : Int) ≤ 5 by decide) S o c K hI
            refine e_iload_n (q := 91) (i := 3) dX7_followsPart_90 rfl rfl rfl ?_
            refine e_iconst (q := 92) dX7_followsPart_91 rfl ?_
            refine e_icmp_ne (q := 95) (tgt := 112) dX7_followsPart_92 rfl (by decide) (fun c92 => absurd c92 (by omega)) (fun c92 => ?_) (hx := ⟨by omega, by omega⟩)
            refine e_aload_n (q := 96) (i := 0) dX7_followsPart_95 rfl rfl rfl ?_
            refine e_Vip (q := 99) (vs := []) ok_X7_topRank ml_X7_77 dX7_followsPart_96 rfl ⟨_, _, rfl⟩ (by first | assumption | rfl) rfl rfl (Nat.le_of_ble_eq_true rfl) (by decide) (c_X7_topRank hR1 hI1) ?_
            refine e_iconst (q := 100) dX7_followsPart_99 rfl ?_
            have htr : 0 ≤ syTr (sySet 5 S K).1 ∧ syTr (sySet 5 S K).1 ≤ 6 := by
              cases (sySet 5 S K).1 with
              | nil => exact ⟨by decide, by decide⟩
              | cons s S => exact ⟨(rk_in s).1, (rk_in s).2.1⟩
            refine e_icmp_ne (q := 103) (tgt := 112) dX7_followsPart_100 rfl (by decide) (fun c100 => ?_) (fun c100 => ?_) (hx := ⟨by omega, by omega⟩)
            · have hlen1 := SyR_len hR1 hI1
              obtain ⟨q1, q2, q3, q4, q5, q6⟩ := id hR1
              have hsl1 := sg_len (sySet 5 S K).1
              have hi1 := id hI1
              obtain ⟨-, w2, w3, w4, w5, w6⟩ := hi1
              refine e_aload_n (q := 113) (i := 0) dX7_followsPart_112 rfl rfl rfl ?_
              refine e_Vi (q := 116) (vs := []) ok_X7_counts ml_X7_69 dX7_followsPart_113 rfl ⟨_, _, rfl⟩ (by first | assumption | rfl) rfl rfl (Nat.le_of_ble_eq_true rfl) (by decide) (c_X7_counts (by omega) (by omega)) (fun z113 s113 h113 => ?_)
              refine e_if_eq (q := 119) (tgt := 131) dX7_followsPart_116 rfl (by decide) (fun c116 => ?_) (fun c116 => ?_) (hx := by rcases h113 with q | q; rw [q.2.1]; exact ⟨by decide, by decide⟩; rw [q.2.1]; exact ⟨by decide, by decide⟩)
              · obtain ⟨n1, n2, n3⟩ : 64 ≤ s87.1 21 4 ∧ z113 = 0 ∧ s113 = sI (sI s87 19 7 2) 19 8 (s87.1 19 5) := by
                  rcases h113 with q | q
                  · exact q
                  · omega
                subst n3
                refine e_iconst (q := 132) dX7_followsPart_131 rfl ?_
                exact r_z dX7_followsPart_132 rfl (by first | exact Or.inl rfl | exact Or.inr rfl | omega) (by rw [sy_cmp c77, if_neg c100, if_pos (by omega)]; exact ⟨(hF1.f (Or.inl rfl) _).f (Or.inr rfl) _, rfl, by rw [sI_1, if_neg (by decide), sI_1, if_pos ⟨rfl, rfl⟩], by rw [sI_1, if_pos ⟨rfl, rfl⟩, e19]; exact k5⟩)
              · obtain ⟨n1, n2, n3⟩ : ¬ 64 ≤ s87.1 21 4 ∧ z113 = 1 ∧ s113 = sI s87 21 4 (s87.1 21 4 + 1) := by
                  rcases h113 with q | q
                  · omega
                  · exact q
                subst n3
                have e21 : (sI s87 21 4 (s87.1 21 4 + 1)).1 21 2 = s87.1 21 2 := by rw [sI_1, if_neg (by decide)]
                refine e_aload_n (q := 120) (i := 0) dX7_followsPart_119 rfl rfl rfl ?_
                refine e_iload_n (q := 121) (i := 2) dX7_followsPart_120 rfl rfl rfl ?_
                refine e_Vi (q := 124) (vs := [_]) ok_X7_pushes ml_X7_81 dX7_followsPart_121 rfl ⟨_, _, rfl⟩ (by first | assumption | rfl) rfl rfl (Nat.le_of_ble_eq_true rfl) (by decide) (c_X7_pushes (by rw [e21]; omega) (by rw [e21]; omega)) (fun z121 s121 h121 => ?_)
                obtain ⟨rfl, rfl⟩ := h121
                refine e_if_eq (q := 127) (tgt := 131) dX7_followsPart_124 rfl (by decide) (fun c124 => absurd c124 (by decide)) (fun c124 => ?_)
                refine e_iconst (q := 128) dX7_followsPart_127 rfl ?_
                refine e_goto (tgt := 132) dX7_followsPart_128 (by decide) ?_
                rw [e21]
                refine r_z dX7_followsPart_132 rfl (by first | exact Or.inl rfl | exact Or.inr rfl | omega) ?_
                rw [sy_cmp c77, if_neg c100, if_neg (by omega)]
                refine ⟨((hF1.s (Or.inl rfl) _ _).s (Or.inr (Or.inl rfl)) _ _).s (Or.inl rfl) _ _, rfl, ⟨⟨?_, ?_⟩, ?_, ?_, ?_, ?_, ?_⟩, ?_, ?_⟩
                · rw [sI_ne _ (by decide), sI_1, q2, if_pos ⟨rfl, rfl⟩]
                · refine q1.upd (fun i a b => ?_)
                  rw [sI_ne _ (by decide), sI_1, if_neg (fun q => by have := q.2; omega), sI_ne _ (by decide)]
                · rw [sI_1, if_pos ⟨rfl, rfl⟩, q2]; simp
                · rw [sI_1, if_neg (by decide), sI_ne _ (by decide), sI_1, if_neg (by decide)]; exact q3
                · rw [sI_1, if_neg (by decide), sI_ne _ (by decide), sI_1, if_pos ⟨rfl, rfl⟩, q4]
                · rw [sI_ne _ (by decide), sI_ne _ (by decide), sI_ne _ (by decide)]; exact q5
                · rw [sI_ne _ (by decide), sI_ne _ (by decide), sI_ne _ (by decide)]; exact q6
                · rw [sI_ne _ (by decide), sI_ne _ (by decide), sI_ne _ (by decide), e19]
                · rw [sI_ne _ (by decide), sI_ne _ (by decide), sI_ne _ (by decide), e19]
            · refine e_aload_n (q := 104) (i := 0) dX7_followsPart_103 rfl rfl rfl ?_
              refine e_getR (q := 107) dX7_followsPart_104 rfl fg_X7_9 (by first | assumption | rfl) rfl ?_
              refine e_iconst (q := 108) dX7_followsPart_107 rfl ?_
              refine e_Vi (q := 111) (vs := [_]) ok_X8_fail ml_X7_63 dX7_followsPart_108 rfl ⟨_, _, rfl⟩ (by first | assumption | rfl) rfl rfl (Nat.le_of_ble_eq_true rfl) (by decide) (c_X8_fail) (fun z108 s108 h108 => ?_)
              obtain ⟨rfl, rfl⟩ := h108
              exact r_z dX7_followsPart_111 rfl (Or.inl rfl) (by rw [sy_cmp c77, if_pos c100]; exact ⟨(hF1.f (Or.inl rfl) _).f (Or.inr rfl) _, rfl, by rw [sI_1, if_neg (by decide), sI_1, if_pos ⟨rfl, rfl⟩], by rw [sI_1, if_pos ⟨rfl, rfl⟩, e19]; exact k5⟩)
        · refine e_aload_n (q := 65) (i := 0) dX7_followsPart_64 rfl rfl rfl ?_
          refine e_getR (q := 68) dX7_followsPart_65 rfl fg_X7_9 (by first | assumption | rfl) rfl ?_
          refine e_iconst (q := 69) dX7_followsPart_68 rfl ?_
          refine e_Vi (q := 72) (vs := [_]) ok_X8_fail ml_X7_63 dX7_followsPart_69 rfl ⟨_, _, rfl⟩ (by first | assumption | rfl) rfl rfl (Nat.le_of_ble_eq_true rfl) (by decide) (c_X8_fail) (fun z69 s69 h69 => ?_)
          obtain ⟨rfl, rfl⟩ := h69
          exact r_z dX7_followsPart_72 rfl (Or.inl rfl) (by rw [sy_no hnc (by omega)]; exact ⟨((SF.rf σ).f (Or.inl rfl) _).f (Or.inr rfl) _, rfl, by rw [sI_1, if_neg (by decide), sI_1, if_pos ⟨rfl, rfl⟩], by rw [sI_1, if_pos ⟨rfl, rfl⟩]; exact k5⟩)
    · refine e_aload_n (q := 22) (i := 0) dX7_followsPart_21 rfl rfl rfl ?_
      refine e_aload_n (q := 23) (i := 1) dX7_followsPart_22 rfl rfl rfl ?_
      refine e_iconst (q := 24) dX7_followsPart_23 rfl ?_
      refine e_Vv (q := 27) (vs := [_, _]) ok_X7_settle ml_X7_42 dX7_followsPart_24 rfl ⟨_, _, rfl⟩ (by first | assumption | rfl) rfl rfl (Nat.le_of_ble_eq_true rfl) (by decide) (c_X7_settle hR hI (by decide) (by decide)) (fun s24 h24 => ?_)
      obtain ⟨hR1, hF1, e19⟩ := h24
      rw [show max (1 : Int) 1 = 1 by decide] at hR1
      have hI1 := sySet_I (Int.le_refl 1) S o c K hI
      have hne : ∃ R, (sySet 1 S K).1 = 24 :: R := by
        have htop := sySet_top (l := 1) S K
        cases hq : (sySet 1 S K).1 with
        | nil => have := hI1.2.2.1; rw [hq] at this; simp only [opn] at this; omega
        | cons x R =>
          have hx := hI1.1 x (by rw [hq]; exact List.mem_cons_self)
          rw [hq] at htop
          rcases hx with q | q
          · exact ⟨R, by rw [q]⟩
          · rcases htop with r | r
            · have r : rk x < 1 := r
              omega
            · cases r
      obtain ⟨R, hRR⟩ := hne
      rw [hRR] at hR1
      obtain ⟨q1, q2, q3, q4, q5, q6⟩ := id hR1
      refine e_aload_n (q := 28) (i := 0) dX7_followsPart_27 rfl rfl rfl ?_
      refine e_dup (q := 29) dX7_followsPart_28 rfl rfl ?_
      refine e_getI (q := 32) (jz := 2) dX7_followsPart_29 rfl fg_X7_31 rfl (by first | assumption | rfl) rfl ?_
      refine e_iconst (q := 33) dX7_followsPart_32 rfl ?_
      refine e_isub (q := 34) dX7_followsPart_33 rfl ?_
      refine e_putI (q := 37) (jz := 2) dX7_followsPart_34 rfl fp_X7_31 rfl (by first | assumption | rfl) rfl ?_
      refine e_aload_n (q := 38) (i := 0) dX7_followsPart_37 rfl rfl rfl ?_
      refine e_dup (q := 39) dX7_followsPart_38 rfl rfl ?_
      refine e_getI (q := 42) (jz := 3) dX7_followsPart_39 rfl fg_X7_34 rfl (by first | assumption | rfl) rfl ?_
      rw [show (sI s24 21 2 (s24.1 21 2 - 1)).1 21 3 = s24.1 21 3 from by rw [sI_1, if_neg (by decide)]]
      refine e_iconst (q := 43) dX7_followsPart_42 rfl ?_
      refine e_isub (q := 44) dX7_followsPart_43 rfl ?_
      refine e_putI (q := 47) (jz := 3) dX7_followsPart_44 rfl fp_X7_34 rfl (by first | assumption | rfl) rfl ?_
      refine e_iconst (q := 48) dX7_followsPart_47 rfl ?_
      refine r_z dX7_followsPart_48 rfl (by first | exact Or.inl rfl | exact Or.inr rfl | omega) ?_
      rw [sy_cls c11 (by omega), hRR]
      refine ⟨(hF1.s (Or.inl rfl) _ _).s (Or.inl rfl) _ _, rfl, ⟨?_, ?_, ?_, ?_, ?_, ?_⟩, ?_, ?_⟩
      · rw [sI_ne _ (by decide), sI_ne _ (by decide)]; exact q1.2
      · rw [sI_1, if_neg (by decide), sI_1, if_pos ⟨rfl, rfl⟩, q2]; simp
      · rw [sI_1, if_pos ⟨rfl, rfl⟩, q3]
      · rw [sI_1, if_neg (by decide), sI_1, if_neg (by decide)]; exact q4
      · rw [sI_ne _ (by decide), sI_ne _ (by decide)]; exact q5
      · rw [sI_ne _ (by decide), sI_ne _ (by decide)]; exact q6
      · rw [sI_ne _ (by decide), sI_ne _ (by decide), e19]
      · rw [sI_ne _ (by decide), sI_ne _ (by decide), e19]

