/-! ===== the class's reader ===== -/
def DR (σ : Sg) (δ : Dl) : Prop := (∀ a, (a = 18 ∨ (23 ≤ a ∧ a ≤ 33) ∨ (35 ≤ a ∧ a ≤ 37)) → σ.1 a = δ a) ∧ σ.1 34 4 = δ 34 4
theorem DR.fr {σ τ : Sg} {δ : Dl} (h : DR σ δ) (hF : Fr [19] σ τ) : DR τ δ := ⟨fun a ha => by rw [(hF a (by simp only [List.mem_cons, List.not_mem_nil, or_false]; omega)).1]; exact h.1 a ha, by rw [(hF 34 (by decide)).1]; exact h.2⟩
theorem DR.s {σ : Sg} {δ : Dl} (h : DR σ δ) (k : Nat) (j v : Int) : DR (sI σ k j v) (u2 δ k j v) := ⟨fun a ha => by
  funext i
  rw [sI_1, u2_1, h.1 a ha], by rw [sI_1, u2_1, h.2]⟩
theorem DR.c {σ : Sg} {δ : Dl} (h : DR σ δ) {a : Nat} (ha : a = 18 ∨ (23 ≤ a ∧ a ≤ 33) ∨ (35 ≤ a ∧ a ≤ 37)) : σ.1 a = δ a := h.1 a ha
/-- the tokens' part: length as it was; a fault, or none new -/
def RdN (σ σ' : Sg) (no z : Int) (R : Pn) : Prop := (Fr [19] σ σ' ∧ σ'.1 19 2 = σ.1 19 2) ∧ match R with
  | .inl fp => z = no ∧ σ'.1 19 7 = fp.1 ∧ σ'.1 19 8 = fp.2
  | .inr q => z = q.1 ∧ CK σ' q.2 ∧ σ'.1 19 7 = σ.1 19 7 ∧ σ'.1 19 8 = σ.1 19 8
def RdL (σ σ' : Sg) (z : Int) (R : Rs) : Prop := (Fr [18, 19, 21, 22, 23, 24, 25, 26, 27, 28, 29, 30, 31, 32, 33, 34, 35, 36, 37] σ σ' ∧ σ'.1 19 2 = σ.1 19 2) ∧ match R with
  | .inl fp => z = 0 ∧ σ'.1 19 7 = fp.1 ∧ σ'.1 19 8 = fp.2 ∧ Fr [19, 21, 22, 34, 35, 36, 37] σ σ'
  | .inr q => z = 1 ∧ DR σ' q.1 ∧ CK σ' q.2 ∧ σ'.1 19 7 = σ.1 19 7 ∧ σ'.1 19 8 = σ.1 19 8
theorem fail_N {σ : Sg} {t : Tk} {f no : Int} (k5 : σ.1 19 5 = t.2.1) : RdN σ (sI (sI σ 19 7 f) 19 8 (σ.1 19 5)) no no (.inl (f, t.2.1)) :=
  ⟨⟨((Fr.rf _ σ).sI (by decide) _ _).sI (by decide) _ _, by rw [sI_1, if_neg (by decide), sI_1, if_neg (by decide)]⟩, rfl, by rw [sI_1, if_neg (by decide), sI_1, if_pos ⟨rfl, rfl⟩], by rw [sI_1, if_pos ⟨rfl, rfl⟩]; exact k5⟩
theorem fail_L {σ s : Sg} {f p : Int} (hF : Fr [19, 21, 22, 34, 35, 36, 37] σ s) (hn : s.1 19 2 = σ.1 19 2) : RdL σ (sI (sI s 19 7 f) 19 8 p) 0 (.inl (f, p)) :=
  ⟨⟨((hF.mono (by decide)).sI (by decide) _ _).sI (by decide) _ _, by rw [sI_1, if_neg (by decide), sI_1, if_neg (by decide)]; exact hn⟩, rfl, by rw [sI_1, if_neg (by decide), sI_1, if_pos ⟨rfl, rfl⟩], by rw [sI_1, if_pos ⟨rfl, rfl⟩], (hF.sI (by decide) _ _).sI (by decide) _ _⟩

set_option maxHeartbeats 4000000 in
theorem c_X5_number {G : Gx} {σ : Sg} {t : Tk} {r : List Tk} {lo hi : Int} (hC : CK σ (t :: r)) (hlo : 0 ≤ lo) (hlo1 : lo ≤ 99) (hhi0 : 0 ≤ hi) (hhi : hi ≤ 99999) : Con G 5 mX5_number [.ref (G.2.2.2 + 18), .int (iZ lo), .int (iZ hi)] σ (pI (fun z σ' => RdN σ σ' (-1) z (pNum lo hi (t :: r)))) := by
  obtain ⟨k4, k5, ⟨kv1, kv2, kv3⟩, kr, kp⟩ := hC.hd
  refine e_entry om_X5_number (Nat.le_of_ble_eq_true rfl) (L := [some (.ref (G.2.2.2 + 18)), some (.int (iZ lo)), some (.int (iZ hi)), none]) rfl ?_
  refine e_aload_n (q := 1) (i := 0) dX5_number_0 rfl rfl rfl ?_
  refine e_getR (q := 4) dX5_number_1 rfl fg_X5_14 (by first | assumption | rfl) rfl ?_
  refine e_getI (q := 7) (jz := 4) dX5_number_4 rfl fg_X5_50 rfl (by first | assumption | rfl) rfl ?_
  refine e_bipush (q := 9) dX5_number_7 rfl (by decide) ?_
  rw [k4]
  refine e_icmp_eq (q := 12) (tgt := 23) dX5_number_9 rfl (by decide) (fun c9 => ?_) (fun c9 => ?_)
  · refine e_aload_n (q := 24) (i := 0) dX5_number_23 rfl rfl rfl ?_
    refine e_getR (q := 27) dX5_number_24 rfl fg_X5_14 (by first | assumption | rfl) rfl ?_
    refine e_getI (q := 30) (jz := 6) dX5_number_27 rfl fg_X5_95 rfl (by first | assumption | rfl) rfl ?_
    have kv := kv2 c9
    refine e_istore_n (q := 31) (i := 3) (L' := [_, _, _, _]) dX5_number_30 rfl rfl (by decide) rfl rfl ?_
    refine e_iload_n (q := 32) (i := 3) dX5_number_31 rfl rfl rfl ?_
    refine e_iload_n (q := 33) (i := 1) dX5_number_32 rfl rfl rfl ?_
    refine e_icmp_lt (q := 36) (tgt := 41) dX5_number_33 rfl (by decide) (fun c33 => ?_) (fun c33 => ?_) (hx := kv3) (hy := ⟨by omega, by omega⟩)
    · refine e_aload_n (q := 42) (i := 0) dX5_number_41 rfl rfl rfl ?_
      refine e_getR (q := 45) dX5_number_42 rfl fg_X5_14 (by first | assumption | rfl) rfl ?_
      refine e_iconst (q := 46) dX5_number_45 rfl ?_
      refine e_Vi (q := 49) (vs := [_]) ok_X8_fail ml_X5_88 dX5_number_46 rfl ⟨_, _, rfl⟩ (by first | assumption | rfl) rfl rfl (Nat.le_of_ble_eq_true rfl) (by decide) (c_X8_fail) (fun z46 s46 h46 => ?_)
      obtain ⟨rfl, rfl⟩ := h46
      refine e_pop (q := 50) dX5_number_49 rfl rfl ?_
      refine e_iconst (q := 51) dX5_number_50 rfl ?_
      exact r_i dX5_number_51 rfl (by rw [show pNum lo hi (t :: r) = .inl (2, t.2.1) from (if_neg (by omega)).trans (if_pos (by omega))]; exact fail_N k5)
    · refine e_iload_n (q := 37) (i := 3) dX5_number_36 rfl rfl rfl ?_
      refine e_iload_n (q := 38) (i := 2) dX5_number_37 rfl rfl rfl ?_
      refine e_icmp_le (q := 41) (tgt := 52) dX5_number_38 rfl (by decide) (fun c38 => ?_) (fun c38 => ?_) (hx := kv3) (hy := ⟨by omega, by omega⟩)
      · refine e_aload_n (q := 53) (i := 0) dX5_number_52 rfl rfl rfl ?_
        refine e_getR (q := 56) dX5_number_53 rfl fg_X5_14 (by first | assumption | rfl) rfl ?_
        refine e_Vv (q := 59) (vs := []) ok_X8_step ml_X5_92 dX5_number_56 rfl ⟨_, _, rfl⟩ (by first | assumption | rfl) rfl rfl (Nat.le_of_ble_eq_true rfl) (by decide) (c_step hC (by omega)) (fun s56 h56 => ?_)
        refine e_iload_n (q := 60) (i := 3) dX5_number_59 rfl rfl rfl ?_
        rw [show σ.1 19 6 = t.2.2 by omega]
        exact r_i dX5_number_60 rfl (by rw [show pNum lo hi (t :: r) = .inr (t.2.2, r) from (if_neg (by omega)).trans (if_neg (by omega))]; exact ⟨⟨h56.1.1, h56.1.n⟩, rfl, h56.2, h56.1.2 7 (by decide) (by decide) (by decide) (by decide), h56.1.2 8 (by decide) (by decide) (by decide) (by decide)⟩)
      · refine e_aload_n (q := 42) (i := 0) dX5_number_41 rfl rfl rfl ?_
        refine e_getR (q := 45) dX5_number_42 rfl fg_X5_14 (by first | assumption | rfl) rfl ?_
        refine e_iconst (q := 46) dX5_number_45 rfl ?_
        refine e_Vi (q := 49) (vs := [_]) ok_X8_fail ml_X5_88 dX5_number_46 rfl ⟨_, _, rfl⟩ (by first | assumption | rfl) rfl rfl (Nat.le_of_ble_eq_true rfl) (by decide) (c_X8_fail) (fun z46 s46 h46 => ?_)
        obtain ⟨rfl, rfl⟩ := h46
        refine e_pop (q := 50) dX5_number_49 rfl rfl ?_
        refine e_iconst (q := 51) dX5_number_50 rfl ?_
        exact r_i dX5_number_51 rfl (by rw [show pNum lo hi (t :: r) = .inl (2, t.2.1) from (if_neg (by omega)).trans (if_pos (by omega))]; exact fail_N k5)
  · refine e_aload_n (q := 13) (i := 0) dX5_number_12 rfl rfl rfl ?_
    refine e_getR (q := 16) dX5_number_13 rfl fg_X5_14 (by first | assumption | rfl) rfl ?_
    refine e_iconst (q := 17) dX5_number_16 rfl ?_
    refine e_Vi (q := 20) (vs := [_]) ok_X8_fail ml_X5_88 dX5_number_17 rfl ⟨_, _, rfl⟩ (by first | assumption | rfl) rfl rfl (Nat.le_of_ble_eq_true rfl) (by decide) (c_X8_fail) (fun z17 s17 h17 => ?_)
    obtain ⟨rfl, rfl⟩ := h17
    refine e_pop (q := 21) dX5_number_20 rfl rfl ?_
    refine e_iconst (q := 22) dX5_number_21 rfl ?_
    exact r_i dX5_number_22 rfl (by rw [show pNum lo hi (t :: r) = .inl (1, t.2.1) from if_pos (by omega)]; exact fail_N k5)

set_option maxHeartbeats 4000000 in
theorem c_X5_newName_p {G : Gx} {σ : Sg} {t : Tk} {r : List Tk} (hC : CK σ (t :: r)) (hn0 : 0 ≤ (σ.1 23 2)) (hn1 : (σ.1 23 2) ≤ 4) (hR : ∀ i, 0 ≤ i → i < (σ.1 23 2) → R32 (σ.1 26 i)) : Con G 5 mX5_newName [.ref (G.2.2.2 + 18), .int (iZ 1)] σ (pI (fun z σ' => RdN σ σ' 0 z (pNew (σ.1 26) (σ.1 23 2) (t :: r)))) := by
  obtain ⟨k4, k5, ⟨kv1, kv2, kv3⟩, kr, kp⟩ := hC.hd
  refine e_entry om_X5_newName (Nat.le_of_ble_eq_true rfl) (L := [some (.ref (G.2.2.2 + 18)), some (.int (iZ 1)), none]) rfl ?_
  refine e_aload_n (q := 1) (i := 0) dX5_newName_0 rfl rfl rfl ?_
  refine e_getR (q := 4) dX5_newName_1 rfl fg_X5_14 (by first | assumption | rfl) rfl ?_
  refine e_getI (q := 7) (jz := 4) dX5_newName_4 rfl fg_X5_50 rfl (by first | assumption | rfl) rfl ?_
  refine e_bipush (q := 9) dX5_newName_7 rfl (by decide) ?_
  rw [k4]
  refine e_icmp_eq (q := 12) (tgt := 23) dX5_newName_9 rfl (by decide) (fun c9 => ?_) (fun c9 => ?_)
  · have kv := kv1 c9
    refine e_aload_n (q := 24) (i := 0) dX5_newName_23 rfl rfl rfl ?_
    refine e_getR (q := 27) dX5_newName_24 rfl fg_X5_14 (by first | assumption | rfl) rfl ?_
    refine e_getI (q := 30) (jz := 6) dX5_newName_27 rfl fg_X5_95 rfl (by first | assumption | rfl) rfl ?_
    refine e_istore_n (q := 31) (i := 2) (L' := [_, _, _]) dX5_newName_30 rfl rfl (by decide) rfl rfl ?_
    refine e_iload_n (q := 32) (i := 1) dX5_newName_31 rfl rfl rfl ?_
    refine e_if_eq (q := 35) (tgt := 46) dX5_newName_32 rfl (by decide) (fun c32 => absurd c32 (by decide)) (fun c32 => ?_)
    refine e_aload_n (q := 36) (i := 0) dX5_newName_35 rfl rfl rfl ?_
    refine e_getR (q := 39) dX5_newName_36 rfl fg_X5_32 (by first | assumption | rfl) rfl ?_
    refine e_iload_n (q := 40) (i := 2) dX5_newName_39 rfl rfl rfl ?_
    refine e_Vip (q := 43) (vs := [_]) ok_X9_parishNamed ml_X5_98 dX5_newName_40 rfl ⟨_, _, rfl⟩ (by first | assumption | rfl) rfl rfl (Nat.le_of_ble_eq_true rfl) (by decide) (c_X9_parishNamed (T := 23) (Or.inr rfl) (by omega) (by omega) hR kv3) ?_
    refine e_goto (tgt := 54) dX5_newName_43 (by decide) ?_
    refine e_iconst (q := 55) dX5_newName_54 rfl ?_
    have hfi := fd_in (σ.1 26) (σ.1 19 6) (n := (σ.1 23 2)) (by omega)
    rw [show σ.1 (23 + 3) = σ.1 26 from rfl]
    refine e_icmp_eq (q := 58) (tgt := 69) dX5_newName_55 rfl (by decide) (fun c55 => ?_) (fun c55 => ?_) (hx := ⟨by omega, by omega⟩)
    · refine e_aload_n (q := 70) (i := 0) dX5_newName_69 rfl rfl rfl ?_
      refine e_getR (q := 73) dX5_newName_70 rfl fg_X5_14 (by first | assumption | rfl) rfl ?_
      refine e_Vv (q := 76) (vs := []) ok_X8_step ml_X5_92 dX5_newName_73 rfl ⟨_, _, rfl⟩ (by first | assumption | rfl) rfl rfl (Nat.le_of_ble_eq_true rfl) (by decide) (c_step hC (by omega)) (fun s73 h73 => ?_)
      refine e_iload_n (q := 77) (i := 2) dX5_newName_76 rfl rfl rfl ?_
      rw [kv]
      exact r_i dX5_newName_77 rfl (by rw [show pNew (σ.1 26) (σ.1 23 2) (t :: r) = .inr (t.2.2, r) from (if_neg (by omega)).trans (if_neg (by rw [← kv]; exact fun q => q c55))]; exact ⟨⟨h73.1.1, h73.1.n⟩, rfl, h73.2, h73.1.2 7 (by decide) (by decide) (by decide) (by decide), h73.1.2 8 (by decide) (by decide) (by decide) (by decide)⟩)
    · refine e_aload_n (q := 59) (i := 0) dX5_newName_58 rfl rfl rfl ?_
      refine e_getR (q := 62) dX5_newName_59 rfl fg_X5_14 (by first | assumption | rfl) rfl ?_
      refine e_iconst (q := 63) dX5_newName_62 rfl ?_
      refine e_Vi (q := 66) (vs := [_]) ok_X8_fail ml_X5_88 dX5_newName_63 rfl ⟨_, _, rfl⟩ (by first | assumption | rfl) rfl rfl (Nat.le_of_ble_eq_true rfl) (by decide) (c_X8_fail) (fun z63 s63 h63 => ?_)
      obtain ⟨rfl, rfl⟩ := h63
      refine e_pop (q := 67) dX5_newName_66 rfl rfl ?_
      refine e_iconst (q := 68) dX5_newName_67 rfl ?_
      exact r_i dX5_newName_68 rfl (by rw [show pNew (σ.1 26) (σ.1 23 2) (t :: r) = .inl (3, t.2.1) from (if_neg (by omega)).trans (if_pos (by rw [← kv]; exact c55))]; exact fail_N k5)
  · refine e_aload_n (q := 13) (i := 0) dX5_newName_12 rfl rfl rfl ?_
    refine e_getR (q := 16) dX5_newName_13 rfl fg_X5_14 (by first | assumption | rfl) rfl ?_
    refine e_iconst (q := 17) dX5_newName_16 rfl ?_
    refine e_Vi (q := 20) (vs := [_]) ok_X8_fail ml_X5_88 dX5_newName_17 rfl ⟨_, _, rfl⟩ (by first | assumption | rfl) rfl rfl (Nat.le_of_ble_eq_true rfl) (by decide) (c_X8_fail) (fun z17 s17 h17 => ?_)
    obtain ⟨rfl, rfl⟩ := h17
    refine e_pop (q := 21) dX5_newName_20 rfl rfl ?_
    refine e_iconst (q := 22) dX5_newName_21 rfl ?_
    exact r_i dX5_newName_22 rfl (by rw [show pNew (σ.1 26) (σ.1 23 2) (t :: r) = .inl (1, t.2.1) from if_pos (by omega)]; exact fail_N k5)

set_option maxHeartbeats 4000000 in
theorem c_X5_newName_c {G : Gx} {σ : Sg} {t : Tk} {r : List Tk} (hC : CK σ (t :: r)) (hn0 : 0 ≤ (σ.1 23 3)) (hn1 : (σ.1 23 3) ≤ 6) (hR : ∀ i, 0 ≤ i → i < (σ.1 23 3) → R32 (σ.1 29 i)) : Con G 5 mX5_newName [.ref (G.2.2.2 + 18), .int (iZ 0)] σ (pI (fun z σ' => RdN σ σ' 0 z (pNew (σ.1 29) (σ.1 23 3) (t :: r)))) := by
  obtain ⟨k4, k5, ⟨kv1, kv2, kv3⟩, kr, kp⟩ := hC.hd
  refine e_entry om_X5_newName (Nat.le_of_ble_eq_true rfl) (L := [some (.ref (G.2.2.2 + 18)), some (.int (iZ 0)), none]) rfl ?_
  refine e_aload_n (q := 1) (i := 0) dX5_newName_0 rfl rfl rfl ?_
  refine e_getR (q := 4) dX5_newName_1 rfl fg_X5_14 (by first | assumption | rfl) rfl ?_
  refine e_getI (q := 7) (jz := 4) dX5_newName_4 rfl fg_X5_50 rfl (by first | assumption | rfl) rfl ?_
  refine e_bipush (q := 9) dX5_newName_7 rfl (by decide) ?_
  rw [k4]
  refine e_icmp_eq (q := 12) (tgt := 23) dX5_newName_9 rfl (by decide) (fun c9 => ?_) (fun c9 => ?_)
  · have kv := kv1 c9
    refine e_aload_n (q := 24) (i := 0) dX5_newName_23 rfl rfl rfl ?_
    refine e_getR (q := 27) dX5_newName_24 rfl fg_X5_14 (by first | assumption | rfl) rfl ?_
    refine e_getI (q := 30) (jz := 6) dX5_newName_27 rfl fg_X5_95 rfl (by first | assumption | rfl) rfl ?_
    refine e_istore_n (q := 31) (i := 2) (L' := [_, _, _]) dX5_newName_30 rfl rfl (by decide) rfl rfl ?_
    refine e_iload_n (q := 32) (i := 1) dX5_newName_31 rfl rfl rfl ?_
    refine e_if_eq (q := 35) (tgt := 46) dX5_newName_32 rfl (by decide) (fun c32 => ?_) (fun c32 => absurd (rfl) c32)
    refine e_aload_n (q := 47) (i := 0) dX5_newName_46 rfl rfl rfl ?_
    refine e_getR (q := 50) dX5_newName_47 rfl fg_X5_32 (by first | assumption | rfl) rfl ?_
    refine e_iload_n (q := 51) (i := 2) dX5_newName_50 rfl rfl rfl ?_
    refine e_Vip (q := 54) (vs := [_]) ok_X9_childNamed ml_X5_102 dX5_newName_51 rfl ⟨_, _, rfl⟩ (by first | assumption | rfl) rfl rfl (Nat.le_of_ble_eq_true rfl) (by decide) (c_X9_childNamed (T := 23) (Or.inr rfl) (by omega) (by omega) hR kv3) ?_
    refine e_iconst (q := 55) dX5_newName_54 rfl ?_
    have hfi := fd_in (σ.1 29) (σ.1 19 6) (n := (σ.1 23 3)) (by omega)
    rw [show σ.1 (23 + 6) = σ.1 29 from rfl]
    refine e_icmp_eq (q := 58) (tgt := 69) dX5_newName_55 rfl (by decide) (fun c55 => ?_) (fun c55 => ?_) (hx := ⟨by omega, by omega⟩)
    · refine e_aload_n (q := 70) (i := 0) dX5_newName_69 rfl rfl rfl ?_
      refine e_getR (q := 73) dX5_newName_70 rfl fg_X5_14 (by first | assumption | rfl) rfl ?_
      refine e_Vv (q := 76) (vs := []) ok_X8_step ml_X5_92 dX5_newName_73 rfl ⟨_, _, rfl⟩ (by first | assumption | rfl) rfl rfl (Nat.le_of_ble_eq_true rfl) (by decide) (c_step hC (by omega)) (fun s73 h73 => ?_)
      refine e_iload_n (q := 77) (i := 2) dX5_newName_76 rfl rfl rfl ?_
      rw [kv]
      exact r_i dX5_newName_77 rfl (by rw [show pNew (σ.1 29) (σ.1 23 3) (t :: r) = .inr (t.2.2, r) from (if_neg (by omega)).trans (if_neg (by rw [← kv]; exact fun q => q c55))]; exact ⟨⟨h73.1.1, h73.1.n⟩, rfl, h73.2, h73.1.2 7 (by decide) (by decide) (by decide) (by decide), h73.1.2 8 (by decide) (by decide) (by decide) (by decide)⟩)
    · refine e_aload_n (q := 59) (i := 0) dX5_newName_58 rfl rfl rfl ?_
      refine e_getR (q := 62) dX5_newName_59 rfl fg_X5_14 (by first | assumption | rfl) rfl ?_
      refine e_iconst (q := 63) dX5_newName_62 rfl ?_
      refine e_Vi (q := 66) (vs := [_]) ok_X8_fail ml_X5_88 dX5_newName_63 rfl ⟨_, _, rfl⟩ (by first | assumption | rfl) rfl rfl (Nat.le_of_ble_eq_true rfl) (by decide) (c_X8_fail) (fun z63 s63 h63 => ?_)
      obtain ⟨rfl, rfl⟩ := h63
      refine e_pop (q := 67) dX5_newName_66 rfl rfl ?_
      refine e_iconst (q := 68) dX5_newName_67 rfl ?_
      exact r_i dX5_newName_68 rfl (by rw [show pNew (σ.1 29) (σ.1 23 3) (t :: r) = .inl (3, t.2.1) from (if_neg (by omega)).trans (if_pos (by rw [← kv]; exact c55))]; exact fail_N k5)
  · refine e_aload_n (q := 13) (i := 0) dX5_newName_12 rfl rfl rfl ?_
    refine e_getR (q := 16) dX5_newName_13 rfl fg_X5_14 (by first | assumption | rfl) rfl ?_
    refine e_iconst (q := 17) dX5_newName_16 rfl ?_
    refine e_Vi (q := 20) (vs := [_]) ok_X8_fail ml_X5_88 dX5_newName_17 rfl ⟨_, _, rfl⟩ (by first | assumption | rfl) rfl rfl (Nat.le_of_ble_eq_true rfl) (by decide) (c_X8_fail) (fun z17 s17 h17 => ?_)
    obtain ⟨rfl, rfl⟩ := h17
    refine e_pop (q := 21) dX5_newName_20 rfl rfl ?_
    refine e_iconst (q := 22) dX5_newName_21 rfl ?_
    exact r_i dX5_newName_22 rfl (by rw [show pNew (σ.1 29) (σ.1 23 3) (t :: r) = .inl (1, t.2.1) from if_pos (by omega)]; exact fail_N k5)

set_option maxHeartbeats 4000000 in
theorem c_X5_toldName_p {G : Gx} {σ : Sg} {t : Tk} {r : List Tk} (hC : CK σ (t :: r)) (hn0 : 0 ≤ (σ.1 23 2)) (hn1 : (σ.1 23 2) ≤ 4) (hR : ∀ i, 0 ≤ i → i < (σ.1 23 2) → R32 (σ.1 26 i)) : Con G 5 mX5_toldName [.ref (G.2.2.2 + 18), .int (iZ 1)] σ (pI (fun z σ' => RdN σ σ' (-1) z (pTold (σ.1 26) (σ.1 23 2) (t :: r)))) := by
  obtain ⟨k4, k5, ⟨kv1, kv2, kv3⟩, kr, kp⟩ := hC.hd
  refine e_entry om_X5_toldName (Nat.le_of_ble_eq_true rfl) (L := [some (.ref (G.2.2.2 + 18)), some (.int (iZ 1)), none]) rfl ?_
  refine e_aload_n (q := 1) (i := 0) dX5_toldName_0 rfl rfl rfl ?_
  refine e_getR (q := 4) dX5_toldName_1 rfl fg_X5_14 (by first | assumption | rfl) rfl ?_
  refine e_getI (q := 7) (jz := 4) dX5_toldName_4 rfl fg_X5_50 rfl (by first | assumption | rfl) rfl ?_
  refine e_bipush (q := 9) dX5_toldName_7 rfl (by decide) ?_
  rw [k4]
  refine e_icmp_eq (q := 12) (tgt := 23) dX5_toldName_9 rfl (by decide) (fun c9 => ?_) (fun c9 => ?_)
  · have kv := kv1 c9
    refine e_iload_n (q := 24) (i := 1) dX5_toldName_23 rfl rfl rfl ?_
    refine e_if_eq (q := 27) (tgt := 44) dX5_toldName_24 rfl (by decide) (fun c24 => absurd c24 (by decide)) (fun c24 => ?_)
    refine e_aload_n (q := 28) (i := 0) dX5_toldName_27 rfl rfl rfl ?_
    refine e_getR (q := 31) dX5_toldName_28 rfl fg_X5_32 (by first | assumption | rfl) rfl ?_
    refine e_aload_n (q := 32) (i := 0) dX5_toldName_31 rfl rfl rfl ?_
    refine e_getR (q := 35) dX5_toldName_32 rfl fg_X5_14 (by first | assumption | rfl) rfl ?_
    refine e_getI (q := 38) (jz := 6) dX5_toldName_35 rfl fg_X5_95 rfl (by first | assumption | rfl) rfl ?_
    refine e_Vip (q := 41) (vs := [_]) ok_X9_parishNamed ml_X5_98 dX5_toldName_38 rfl ⟨_, _, rfl⟩ (by first | assumption | rfl) rfl rfl (Nat.le_of_ble_eq_true rfl) (by decide) (c_X9_parishNamed (T := 23) (Or.inr rfl) (by omega) (by omega) hR kv3) ?_
    refine e_goto (tgt := 58) dX5_toldName_41 (by decide) ?_
    have hfi := fd_in (σ.1 26) (σ.1 19 6) (n := (σ.1 23 2)) (by omega)
    rw [show σ.1 (23 + 3) = σ.1 26 from rfl]
    refine e_istore_n (q := 59) (i := 2) (L' := [_, _, _]) dX5_toldName_58 rfl rfl (by decide) rfl rfl ?_
    refine e_iload_n (q := 60) (i := 2) dX5_toldName_59 rfl rfl rfl ?_
    refine e_iconst (q := 61) dX5_toldName_60 rfl ?_
    refine e_icmp_ne (q := 64) (tgt := 75) dX5_toldName_61 rfl (by decide) (fun c61 => ?_) (fun c61 => ?_) (hx := ⟨by omega, by omega⟩)
    · refine e_aload_n (q := 76) (i := 0) dX5_toldName_75 rfl rfl rfl ?_
      refine e_getR (q := 79) dX5_toldName_76 rfl fg_X5_14 (by first | assumption | rfl) rfl ?_
      refine e_Vv (q := 82) (vs := []) ok_X8_step ml_X5_92 dX5_toldName_79 rfl ⟨_, _, rfl⟩ (by first | assumption | rfl) rfl rfl (Nat.le_of_ble_eq_true rfl) (by decide) (c_step hC (by omega)) (fun s79 h79 => ?_)
      refine e_iload_n (q := 83) (i := 2) dX5_toldName_82 rfl rfl rfl ?_
      rw [kv]
      exact r_i dX5_toldName_83 rfl (by rw [show pTold (σ.1 26) (σ.1 23 2) (t :: r) = .inr (fd (σ.1 26) t.2.2 (σ.1 23 2), r) from (if_neg (by omega)).trans (if_neg (by rw [← kv]; exact c61))]; exact ⟨⟨h79.1.1, h79.1.n⟩, rfl, h79.2, h79.1.2 7 (by decide) (by decide) (by decide) (by decide), h79.1.2 8 (by decide) (by decide) (by decide) (by decide)⟩)
    · refine e_aload_n (q := 65) (i := 0) dX5_toldName_64 rfl rfl rfl ?_
      refine e_getR (q := 68) dX5_toldName_65 rfl fg_X5_14 (by first | assumption | rfl) rfl ?_
      refine e_iconst (q := 69) dX5_toldName_68 rfl ?_
      refine e_Vi (q := 72) (vs := [_]) ok_X8_fail ml_X5_88 dX5_toldName_69 rfl ⟨_, _, rfl⟩ (by first | assumption | rfl) rfl rfl (Nat.le_of_ble_eq_true rfl) (by decide) (c_X8_fail) (fun z69 s69 h69 => ?_)
      obtain ⟨rfl, rfl⟩ := h69
      refine e_pop (q := 73) dX5_toldName_72 rfl rfl ?_
      refine e_iconst (q := 74) dX5_toldName_73 rfl ?_
      exact r_i dX5_toldName_74 rfl (by rw [show pTold (σ.1 26) (σ.1 23 2) (t :: r) = .inl (4, t.2.1) from (if_neg (by omega)).trans (if_pos (by rw [← kv]; exact c61))]; exact fail_N k5)
  · refine e_aload_n (q := 13) (i := 0) dX5_toldName_12 rfl rfl rfl ?_
    refine e_getR (q := 16) dX5_toldName_13 rfl fg_X5_14 (by first | assumption | rfl) rfl ?_
    refine e_iconst (q := 17) dX5_toldName_16 rfl ?_
    refine e_Vi (q := 20) (vs := [_]) ok_X8_fail ml_X5_88 dX5_toldName_17 rfl ⟨_, _, rfl⟩ (by first | assumption | rfl) rfl rfl (Nat.le_of_ble_eq_true rfl) (by decide) (c_X8_fail) (fun z17 s17 h17 => ?_)
    obtain ⟨rfl, rfl⟩ := h17
    refine e_pop (q := 21) dX5_toldName_20 rfl rfl ?_
    refine e_iconst (q := 22) dX5_toldName_21 rfl ?_
    exact r_i dX5_toldName_22 rfl (by rw [show pTold (σ.1 26) (σ.1 23 2) (t :: r) = .inl (1, t.2.1) from if_pos (by omega)]; exact fail_N k5)

set_option maxHeartbeats 4000000 in
theorem c_X5_toldName_c {G : Gx} {σ : Sg} {t : Tk} {r : List Tk} (hC : CK σ (t :: r)) (hn0 : 0 ≤ (σ.1 23 3)) (hn1 : (σ.1 23 3) ≤ 6) (hR : ∀ i, 0 ≤ i → i < (σ.1 23 3) → R32 (σ.1 29 i)) : Con G 5 mX5_toldName [.ref (G.2.2.2 + 18), .int (iZ 0)] σ (pI (fun z σ' => RdN σ σ' (-1) z (pTold (σ.1 29) (σ.1 23 3) (t :: r)))) := by
  obtain ⟨k4, k5, ⟨kv1, kv2, kv3⟩, kr, kp⟩ := hC.hd
  refine e_entry om_X5_toldName (Nat.le_of_ble_eq_true rfl) (L := [some (.ref (G.2.2.2 + 18)), some (.int (iZ 0)), none]) rfl ?_
  refine e_aload_n (q := 1) (i := 0) dX5_toldName_0 rfl rfl rfl ?_
  refine e_getR (q := 4) dX5_toldName_1 rfl fg_X5_14 (by first | assumption | rfl) rfl ?_
  refine e_getI (q := 7) (jz := 4) dX5_toldName_4 rfl fg_X5_50 rfl (by first | assumption | rfl) rfl ?_
  refine e_bipush (q := 9) dX5_toldName_7 rfl (by decide) ?_
  rw [k4]
  refine e_icmp_eq (q := 12) (tgt := 23) dX5_toldName_9 rfl (by decide) (fun c9 => ?_) (fun c9 => ?_)
  · have kv := kv1 c9
    refine e_iload_n (q := 24) (i := 1) dX5_toldName_23 rfl rfl rfl ?_
    refine e_if_eq (q := 27) (tgt := 44) dX5_toldName_24 rfl (by decide) (fun c24 => ?_) (fun c24 => absurd (rfl) c24)
    refine e_aload_n (q := 45) (i := 0) dX5_toldName_44 rfl rfl rfl ?_
    refine e_getR (q := 48) dX5_toldName_45 rfl fg_X5_32 (by first | assumption | rfl) rfl ?_
    refine e_aload_n (q := 49) (i := 0) dX5_toldName_48 rfl rfl rfl ?_
    refine e_getR (q := 52) dX5_toldName_49 rfl fg_X5_14 (by first | assumption | rfl) rfl ?_
    refine e_getI (q := 55) (jz := 6) dX5_toldName_52 rfl fg_X5_95 rfl (by first | assumption | rfl) rfl ?_
    refine e_Vip (q := 58) (vs := [_]) ok_X9_childNamed ml_X5_102 dX5_toldName_55 rfl ⟨_, _, rfl⟩ (by first | assumption | rfl) rfl rfl (Nat.le_of_ble_eq_true rfl) (by decide) (c_X9_childNamed (T := 23) (Or.inr rfl) (by omega) (by omega) hR kv3) ?_
    have hfi := fd_in (σ.1 29) (σ.1 19 6) (n := (σ.1 23 3)) (by omega)
    rw [show σ.1 (23 + 6) = σ.1 29 from rfl]
    refine e_istore_n (q := 59) (i := 2) (L' := [_, _, _]) dX5_toldName_58 rfl rfl (by decide) rfl rfl ?_
    refine e_iload_n (q := 60) (i := 2) dX5_toldName_59 rfl rfl rfl ?_
    refine e_iconst (q := 61) dX5_toldName_60 rfl ?_
    refine e_icmp_ne (q := 64) (tgt := 75) dX5_toldName_61 rfl (by decide) (fun c61 => ?_) (fun c61 => ?_) (hx := ⟨by omega, by omega⟩)
    · refine e_aload_n (q := 76) (i := 0) dX5_toldName_75 rfl rfl rfl ?_
      refine e_getR (q := 79) dX5_toldName_76 rfl fg_X5_14 (by first | assumption | rfl) rfl ?_
      refine e_Vv (q := 82) (vs := []) ok_X8_step ml_X5_92 dX5_toldName_79 rfl ⟨_, _, rfl⟩ (by first | assumption | rfl) rfl rfl (Nat.le_of_ble_eq_true rfl) (by decide) (c_step hC (by omega)) (fun s79 h79 => ?_)
      refine e_iload_n (q := 83) (i := 2) dX5_toldName_82 rfl rfl rfl ?_
      rw [kv]
      exact r_i dX5_toldName_83 rfl (by rw [show pTold (σ.1 29) (σ.1 23 3) (t :: r) = .inr (fd (σ.1 29) t.2.2 (σ.1 23 3), r) from (if_neg (by omega)).trans (if_neg (by rw [← kv]; exact c61))]; exact ⟨⟨h79.1.1, h79.1.n⟩, rfl, h79.2, h79.1.2 7 (by decide) (by decide) (by decide) (by decide), h79.1.2 8 (by decide) (by decide) (by decide) (by decide)⟩)
    · refine e_aload_n (q := 65) (i := 0) dX5_toldName_64 rfl rfl rfl ?_
      refine e_getR (q := 68) dX5_toldName_65 rfl fg_X5_14 (by first | assumption | rfl) rfl ?_
      refine e_iconst (q := 69) dX5_toldName_68 rfl ?_
      refine e_Vi (q := 72) (vs := [_]) ok_X8_fail ml_X5_88 dX5_toldName_69 rfl ⟨_, _, rfl⟩ (by first | assumption | rfl) rfl rfl (Nat.le_of_ble_eq_true rfl) (by decide) (c_X8_fail) (fun z69 s69 h69 => ?_)
      obtain ⟨rfl, rfl⟩ := h69
      refine e_pop (q := 73) dX5_toldName_72 rfl rfl ?_
      refine e_iconst (q := 74) dX5_toldName_73 rfl ?_
      exact r_i dX5_toldName_74 rfl (by rw [show pTold (σ.1 29) (σ.1 23 3) (t :: r) = .inl (4, t.2.1) from (if_neg (by omega)).trans (if_pos (by rw [← kv]; exact c61))]; exact fail_N k5)
  · refine e_aload_n (q := 13) (i := 0) dX5_toldName_12 rfl rfl rfl ?_
    refine e_getR (q := 16) dX5_toldName_13 rfl fg_X5_14 (by first | assumption | rfl) rfl ?_
    refine e_iconst (q := 17) dX5_toldName_16 rfl ?_
    refine e_Vi (q := 20) (vs := [_]) ok_X8_fail ml_X5_88 dX5_toldName_17 rfl ⟨_, _, rfl⟩ (by first | assumption | rfl) rfl rfl (Nat.le_of_ble_eq_true rfl) (by decide) (c_X8_fail) (fun z17 s17 h17 => ?_)
    obtain ⟨rfl, rfl⟩ := h17
    refine e_pop (q := 21) dX5_toldName_20 rfl rfl ?_
    refine e_iconst (q := 22) dX5_toldName_21 rfl ?_
    exact r_i dX5_toldName_22 rfl (by rw [show pTold (σ.1 29) (σ.1 23 3) (t :: r) = .inl (1, t.2.1) from if_pos (by omega)]; exact fail_N k5)

theorem c_X5_ends {G : Gx} {σ : Sg} {t : Tk} {r : List Tk} (hC : CK σ (t :: r)) : Con G 5 mX5_ends [.ref (G.2.2.2 + 18)] σ (pI (fun z σ' => (t.1 ≠ 23 ∧ z = 0 ∧ σ' = sI (sI σ 19 7 1) 19 8 (σ.1 19 5)) ∨ (t.1 = 23 ∧ z = 1 ∧ T19 σ σ' ∧ CK σ' r))) := by
  obtain ⟨k4, k5, ⟨kv1, kv2, kv3⟩, kr, kp⟩ := hC.hd
  refine e_entry om_X5_ends (Nat.le_of_ble_eq_true rfl) (L := [some (.ref (G.2.2.2 + 18))]) rfl ?_
  refine e_aload_n (q := 1) (i := 0) dX5_ends_0 rfl rfl rfl ?_
  refine e_getR (q := 4) dX5_ends_1 rfl fg_X5_14 (by first | assumption | rfl) rfl ?_
  refine e_getI (q := 7) (jz := 4) dX5_ends_4 rfl fg_X5_50 rfl (by first | assumption | rfl) rfl ?_
  refine e_bipush (q := 9) dX5_ends_7 rfl (by decide) ?_
  rw [k4]
  refine e_icmp_eq (q := 12) (tgt := 21) dX5_ends_9 rfl (by decide) (fun c9 => ?_) (fun c9 => ?_)
  · refine e_aload_n (q := 22) (i := 0) dX5_ends_21 rfl rfl rfl ?_
    refine e_getR (q := 25) dX5_ends_22 rfl fg_X5_14 (by first | assumption | rfl) rfl ?_
    refine e_Vv (q := 28) (vs := []) ok_X8_step ml_X5_92 dX5_ends_25 rfl ⟨_, _, rfl⟩ (by first | assumption | rfl) rfl rfl (Nat.le_of_ble_eq_true rfl) (by decide) (c_step hC (by omega)) (fun s25 h25 => ?_)
    refine e_iconst (q := 29) dX5_ends_28 rfl ?_
    exact r_z dX5_ends_29 rfl (by first | exact Or.inl rfl | exact Or.inr rfl | omega) (Or.inr ⟨c9, rfl, h25⟩)
  · refine e_aload_n (q := 13) (i := 0) dX5_ends_12 rfl rfl rfl ?_
    refine e_getR (q := 16) dX5_ends_13 rfl fg_X5_14 (by first | assumption | rfl) rfl ?_
    refine e_iconst (q := 17) dX5_ends_16 rfl ?_
    refine e_Vi (q := 20) (vs := [_]) ok_X8_fail ml_X5_88 dX5_ends_17 rfl ⟨_, _, rfl⟩ (by first | assumption | rfl) rfl rfl (Nat.le_of_ble_eq_true rfl) (by decide) (c_X8_fail) (fun z17 s17 h17 => ?_)
    obtain ⟨rfl, rfl⟩ := h17
    exact r_z dX5_ends_20 rfl (Or.inl rfl) (Or.inl ⟨c9, rfl, rfl⟩)

