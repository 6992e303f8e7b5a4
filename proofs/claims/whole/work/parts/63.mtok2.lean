theorem iZ_shl5 {v : Int} (h0 : 0 ≤ v) (h1 : v < 33554432) : iZ v <<< (iZ 5 &&& 31) = iZ (2 ^ 5 * v) := by
  apply iZ_ext
  rw [pk_shl _ _ 5 (by decide +kernel), iZ_bv h0 (by omega), iZ_bv (by omega) (by omega)]
  omega
theorem mt_ss (σ : Sg) (k : Nat) (j v w : Int) : sI (sI σ k j v) k j w = sI σ k j w := by
  refine Prod.ext ?_ rfl
  funext a i
  show (sI (sI σ k j v) k j w).1 a i = (sI σ k j w).1 a i
  rw [sI_1, sI_1, sI_1]
  by_cases h : a = k ∧ i = j
  · rw [if_pos h, if_pos h]
  · rw [if_neg h, if_neg h, if_neg h]

theorem c_X12_name {G : Gx} {σ : Sg} (hM : MTp σ) (hp0 : 0 ≤ σ.1 82 23) (hpe : σ.1 82 23 < σ.1 82 22) (he : σ.1 82 22 ≤ 700) (hlt : ∀ j, σ.1 82 23 ≤ j → j < σ.1 82 22 → 97 ≤ σ.1 83 j ∧ σ.1 83 j ≤ 122) : Con G 1 mX12_name [.ref (G.2.2.2 + 82)] σ (pV (fun σ' => σ' = sI σ 82 25 (pkV (σ.1 83) (σ.1 82 23) (σ.1 82 22)))) := by
  have lp : ∀ (n : Nat) (i : Int) (v : Int), 0 ≤ i → i + n = 6 → v = hrn (pkD (σ.1 83) (σ.1 82 23) (σ.1 82 22)) i.toNat → J G 1 mX12_name (pV (fun σ' => σ' = sI σ 82 25 (pkV (σ.1 83) (σ.1 82 23) (σ.1 82 22)))) (sI σ 82 25 v) 7 [some (.ref (G.2.2.2 + 82)), some (.int (iZ i))] [] := by
    intro n
    induction n with
    | zero =>
      intro i v h0 hi hvv
      have hd := hrn_in (f := pkD (σ.1 83) (σ.1 82 23) (σ.1 82 22)) i.toNat (fun j a b => pkD_in hlt a)
      have hDi := pkD_in (i := i) hlt h0
      have hvp : 6 ≤ i ∨ (0 ≤ v ∧ v < 33554432) := by
        by_cases q6 : 6 ≤ i
        · exact Or.inl q6
        · rw [hvv]
          rcases (show i = 0 ∨ i = 1 ∨ i = 2 ∨ i = 3 ∨ i = 4 ∨ i = 5 by omega) with rfl | rfl | rfl | rfl | rfl | rfl <;> exact Or.inr ⟨hd.1, Int.lt_of_lt_of_le hd.2 (by decide)⟩
      have e22 : (sI σ 82 25 v).1 82 22 = σ.1 82 22 := rfl
      have e23 : (sI σ 82 25 v).1 82 23 = σ.1 82 23 := rfl
      have e25 : (sI σ 82 25 v).1 82 25 = v := by rw [sI_1, if_pos ⟨rfl, rfl⟩]
      have e83 : ∀ q, (sI σ 82 25 v).1 83 q = σ.1 83 q := fun _ => rfl
      refine e_iload_n (q := 8) (i := 1) dX12_name_7 rfl rfl rfl ?_
      refine e_bipush (q := 10) dX12_name_8 rfl (by decide) ?_
      refine e_icmp_ge (q := 13) (tgt := 63) dX12_name_10 rfl (by decide) (fun c10 => ?_) (fun c10 => by exfalso; omega)
      have hv6 : v = pkV (σ.1 83) (σ.1 82 23) (σ.1 82 22) := by rw [hvv, show i.toNat = 6 by omega]; rfl
      exact r_v dX12_name_63 rfl (by rw [hv6])
    | succ n ih =>
      intro i v h0 hi hvv
      have hd := hrn_in (f := pkD (σ.1 83) (σ.1 82 23) (σ.1 82 22)) i.toNat (fun j a b => pkD_in hlt a)
      have hDi := pkD_in (i := i) hlt h0
      have hvp : 6 ≤ i ∨ (0 ≤ v ∧ v < 33554432) := by
        by_cases q6 : 6 ≤ i
        · exact Or.inl q6
        · rw [hvv]
          rcases (show i = 0 ∨ i = 1 ∨ i = 2 ∨ i = 3 ∨ i = 4 ∨ i = 5 by omega) with rfl | rfl | rfl | rfl | rfl | rfl <;> exact Or.inr ⟨hd.1, Int.lt_of_lt_of_le hd.2 (by decide)⟩
      have e22 : (sI σ 82 25 v).1 82 22 = σ.1 82 22 := rfl
      have e23 : (sI σ 82 25 v).1 82 23 = σ.1 82 23 := rfl
      have e25 : (sI σ 82 25 v).1 82 25 = v := by rw [sI_1, if_pos ⟨rfl, rfl⟩]
      have e83 : ∀ q, (sI σ 82 25 v).1 83 q = σ.1 83 q := fun _ => rfl
      refine e_iload_n (q := 8) (i := 1) dX12_name_7 rfl rfl rfl ?_
      refine e_bipush (q := 10) dX12_name_8 rfl (by decide) ?_
      refine e_icmp_ge (q := 13) (tgt := 63) dX12_name_10 rfl (by decide) (fun c10 => by exfalso; omega) (fun c10 => ?_)
      refine e_aload_n (q := 14) (i := 0) dX12_name_13 rfl rfl rfl ?_
      refine e_aload_n (q := 15) (i := 0) dX12_name_14 rfl rfl rfl ?_
      refine e_getI (q := 18) (jz := 25) dX12_name_15 rfl fg_X12_165 rfl (by first | assumption | rfl) rfl ?_
      rw [e25]
      refine e_iconst (q := 19) dX12_name_18 rfl ?_
      refine e_ishl (q := 20) dX12_name_19 rfl (iZ_shl5 (by omega) (by omega)) ?_
      refine e_aload_n (q := 21) (i := 0) dX12_name_20 rfl rfl rfl ?_
      refine e_getI (q := 24) (jz := 23) dX12_name_21 rfl fg_X12_152 rfl (by first | assumption | rfl) rfl ?_
      rw [e23]
      refine e_iload_n (q := 25) (i := 1) dX12_name_24 rfl rfl rfl ?_
      refine e_iadd (q := 26) dX12_name_25 rfl ?_
      refine e_aload_n (q := 27) (i := 0) dX12_name_26 rfl rfl rfl ?_
      refine e_getI (q := 30) (jz := 22) dX12_name_27 rfl fg_X12_142 rfl (by first | assumption | rfl) rfl ?_
      rw [e22]
      refine e_icmp_ge (q := 33) (tgt := 52) dX12_name_30 rfl (by decide) (fun c30 => ?_) (fun c30 => ?_) (hx := ⟨by omega, by omega⟩) (hy := ⟨by omega, by omega⟩)
      · have hD : pkD (σ.1 83) (σ.1 82 23) (σ.1 82 22) i = 0 := by unfold pkD; rw [if_neg (by omega)]
        refine e_iconst (q := 53) dX12_name_52 rfl ?_
        refine e_ior (q := 54) dX12_name_53 rfl (iZ_orA (by omega) (by decide) (by decide) (by omega)) ?_
        refine e_putI (q := 57) (jz := 25) dX12_name_54 rfl fp_X12_165 rfl (by first | assumption | rfl) rfl ?_
        refine e_iinc (q := 60) (L' := [_, _]) dX12_name_57 rfl rfl (by decide) rfl rfl ?_
        refine e_goto (tgt := 7) dX12_name_60 (by decide) ?_
        rw [mt_ss]
        refine ih (i + 1) _ (by omega) (by omega) ?_
        rw [show (i + 1).toNat = i.toNat + 1 by omega]
        show _ = hrn (pkD (σ.1 83) (σ.1 82 23) (σ.1 82 22)) i.toNat * 32 + pkD (σ.1 83) (σ.1 82 23) (σ.1 82 22) ((i.toNat : Nat) : Int)
        rw [show ((i.toNat : Nat) : Int) = i by omega, ← hvv, hD]
        omega
      · refine e_aload_n (q := 34) (i := 0) dX12_name_33 rfl rfl rfl ?_
        refine e_getR (q := 37) dX12_name_34 rfl fg_X12_7 (by first | assumption | rfl) rfl ?_
        refine e_aload_n (q := 38) (i := 0) dX12_name_37 rfl rfl rfl ?_
        refine e_getI (q := 41) (jz := 23) dX12_name_38 rfl fg_X12_152 rfl (by first | assumption | rfl) rfl ?_
        rw [e23]
        refine e_iload_n (q := 42) (i := 1) dX12_name_41 rfl rfl rfl ?_
        refine e_iadd (q := 43) dX12_name_42 rfl ?_
        refine e_iald (q := 44) dX12_name_43 rfl (by first | assumption | rfl) ?_ (by omega) (by omega)
        have hD : pkD (σ.1 83) (σ.1 82 23) (σ.1 82 22) i = σ.1 83 (σ.1 82 23 + i) - 96 := by unfold pkD; rw [if_pos (by omega)]
        rw [hD] at hDi
        rw [e83]
        refine e_bipush (q := 46) dX12_name_44 rfl (by decide) ?_
        refine e_isub (q := 47) dX12_name_46 rfl ?_
        refine e_iconst (q := 48) dX12_name_47 rfl ?_
        refine e_iadd (q := 49) dX12_name_48 rfl ?_
        refine e_goto (tgt := 53) dX12_name_49 (by decide) ?_
        refine e_ior (q := 54) dX12_name_53 rfl (iZ_orA (by omega) (by omega) (by omega) (by omega)) ?_
        refine e_putI (q := 57) (jz := 25) dX12_name_54 rfl fp_X12_165 rfl (by first | assumption | rfl) rfl ?_
        refine e_iinc (q := 60) (L' := [_, _]) dX12_name_57 rfl rfl (by decide) rfl rfl ?_
        refine e_goto (tgt := 7) dX12_name_60 (by decide) ?_
        rw [mt_ss]
        refine ih (i + 1) _ (by omega) (by omega) ?_
        rw [show (i + 1).toNat = i.toNat + 1 by omega]
        show _ = hrn (pkD (σ.1 83) (σ.1 82 23) (σ.1 82 22)) i.toNat * 32 + pkD (σ.1 83) (σ.1 82 23) (σ.1 82 22) ((i.toNat : Nat) : Int)
        rw [show ((i.toNat : Nat) : Int) = i by omega, ← hvv, hD]
        omega
  refine e_entry om_X12_name (Nat.le_of_ble_eq_true rfl) (L := [some (.ref (G.2.2.2 + 82)), none]) rfl ?_
  refine e_aload_n (q := 1) (i := 0) dX12_name_0 rfl rfl rfl ?_
  refine e_iconst (q := 2) dX12_name_1 rfl ?_
  refine e_putI (q := 5) (jz := 25) dX12_name_2 rfl fp_X12_165 rfl (by first | assumption | rfl) rfl ?_
  refine e_iconst (q := 6) dX12_name_5 rfl ?_
  refine e_istore_n (q := 7) (i := 1) (L' := [_, _]) dX12_name_6 rfl rfl (by decide) rfl rfl ?_
  exact lp 6 0 0 (by decide) (by decide) rfl

def woL : List Nat := [0, 5, 12, 18, 23, 28, 33, 38, 42, 47, 53, 58, 61, 65, 69, 74, 79, 85, 91, 95, 99, 104]
def wlL : List Nat := [4, 6, 5, 4, 4, 4, 4, 3, 4, 5, 4, 2, 3, 3, 4, 4, 5, 5, 3, 3, 4]
def wo (i : Nat) : Nat := woL.getD i 104
def wl (i : Nat) : Nat := wlL.getD i 0
theorem w_tab : ∀ i : Nat, i < 21 → (wo (i + 1) = wo i + wl i + 1 ∧ wo i + wl i < 104 ∧ 1 ≤ wl i ∧ wl i ≤ 6 ∧ chV 0 ((wo i + wl i : Nat) : Int) = 32) := by decide +kernel
theorem w_let : ∀ i : Nat, i < 21 → ∀ k : Nat, k < wl i → 97 ≤ chV 0 ((wo i + k : Nat) : Int) ∧ chV 0 ((wo i + k : Nat) : Int) ≤ 122 := by decide +kernel
theorem w_val : ∀ i : Nat, i < 21 → wv (i : Int) = hrn (fun k => if k < wl i then chV 0 (wo i + k) - 96 else 0) 6 := by decide +kernel
def mwM (b : Int → Int) (p e : Int) (i : Nat) : Prop := e - p = wl i ∧ ∀ k : Nat, k < wl i → b (p + k) = chV 0 ((wo i + k : Nat) : Int)
theorem mw_iff {b : Int → Int} {p e : Int} (hpe : p < e) (hlt : ∀ j, p ≤ j → j < e → 97 ≤ b j ∧ b j ≤ 122) {i : Nat} (hi : i < 21) : mwM b p e i ↔ (e - p ≤ 6 ∧ wv (i : Int) = pkV b p e) := by
  obtain ⟨-, -, h1, h6, -⟩ := w_tab i hi
  have hL := w_let i hi
  rw [w_val i hi]
  have hr : ∀ k : Int, 0 ≤ k → k < 6 → ((0 ≤ (if k < wl i then chV 0 (wo i + k) - 96 else 0) ∧ (if k < wl i then chV 0 (wo i + k) - 96 else 0) < 32) ∧ 0 ≤ pkD b p e k ∧ pkD b p e k < 32) := by
    intro k a c
    refine ⟨?_, pkD_in hlt a⟩
    by_cases q : k < wl i
    · rw [if_pos q]
      have := hL k.toNat (by omega)
      rw [show ((wo i + k.toNat : Nat) : Int) = wo i + k by omega] at this
      omega
    · rw [if_neg q]; omega
  constructor
  · rintro ⟨m1, m2⟩
    refine ⟨by omega, hrn_c 6 (fun k a c => ?_)⟩
    unfold pkD
    by_cases q : k < wl i
    · rw [if_pos q, if_pos (by omega)]
      have := m2 k.toNat (by omega)
      rw [show ((wo i + k.toNat : Nat) : Int) = wo i + k by omega, show p + ((k.toNat : Nat) : Int) = p + k by omega] at this
      omega
    · rw [if_neg q, if_neg (by omega)]
  · rintro ⟨m1, m2⟩
    have hj := hrn_inj 6 hr m2
    have hlen : e - p = wl i := by
      by_cases q : e - p < wl i
      · have h := hj (e - p) (by omega) (by omega)
        have hc := hL (e - p).toNat (by omega)
        rw [show ((wo i + (e - p).toNat : Nat) : Int) = wo i + (e - p) by omega] at hc
        unfold pkD at h
        rw [if_pos q, if_neg (by omega)] at h
        omega
      · by_cases q2 : (wl i : Int) < e - p
        · have h := hj (wl i) (by omega) (by omega)
          have hc := hlt (p + wl i) (by omega) (by omega)
          unfold pkD at h
          rw [if_neg (by omega), if_pos (by omega)] at h
          omega
        · omega
    refine ⟨hlen, fun k hk => ?_⟩
    have h := hj k (by omega) (by omega)
    unfold pkD at h
    rw [if_pos (by omega), if_pos (by omega)] at h
    rw [show ((wo i + k : Nat) : Int) = (wo i : Int) + (k : Int) by omega]
    omega
/-- which word it is -/
def mwd (b : Int → Int) (p e : Int) : Int := if 6 < e - p then -1 else fd wv (pkV b p e) 21
theorem fd_no {f : Int → Int} {x : Int} : ∀ n : Nat, (∀ i : Nat, i < n → f (i : Int) ≠ x) → fd f x n = -1
  | 0, _ => rfl
  | n + 1, h => by
    have ih := fd_no n (fun i hi => h i (by omega))
    rw [show ((n + 1 : Nat) : Int) = (n : Int) + 1 by omega, fd_succ f x (by omega), ih, if_neg (by omega), if_neg (h n (by omega))]
theorem mwd_at {b : Int → Int} {p e : Int} (hpe : p < e) (hlt : ∀ j, p ≤ j → j < e → 97 ≤ b j ∧ b j ≤ 122) {i : Nat} (hi : i < 21) (hno : ∀ j : Nat, j < i → ¬ mwM b p e j) (hm : mwM b p e i) : mwd b p e = i := by
  have h := (mw_iff hpe hlt hi).1 hm
  unfold mwd
  rw [if_neg (by omega)]
  exact fd_at (by omega) (fd_no i (fun j hj q => hno j hj ((mw_iff hpe hlt (by omega)).2 ⟨h.1, q⟩))) h.2 (by omega)
theorem mwd_no {b : Int → Int} {p e : Int} (hpe : p < e) (hlt : ∀ j, p ≤ j → j < e → 97 ≤ b j ∧ b j ≤ 122) (hno : ∀ j : Nat, j < 21 → ¬ mwM b p e j) : mwd b p e = -1 := by
  unfold mwd
  by_cases q : 6 < e - p
  · rw [if_pos q]
  · rw [if_neg q]
    exact fd_no 21 (fun j hj r => hno j hj ((mw_iff hpe hlt hj).2 ⟨by omega, r⟩))

set_option maxHeartbeats 4000000 in
theorem c_X12_word {G : Gx} {σ : Sg} (hM : MTp σ) (hp0 : 0 ≤ σ.1 82 23) (hpe : σ.1 82 23 < σ.1 82 22) (he : σ.1 82 22 ≤ 700) (hlt : ∀ j, σ.1 82 23 ≤ j → j < σ.1 82 22 → 97 ≤ σ.1 83 j ∧ σ.1 83 j ≤ 122) : Con G 5 mX12_word [.ref (G.2.2.2 + 82)] σ (pI (pE σ (mwd (σ.1 83) (σ.1 82 23) (σ.1 82 22)))) := by
  have hs104 : ((strL.getD 0 0 : Nat) : Int) = 104 := rfl
  have lp : ∀ (n : Nat) (i : Nat) (x3 : Option Value), i + n = 21 → (∀ q : Nat, q < i → ¬ mwM (σ.1 83) (σ.1 82 23) (σ.1 82 22) q) → J G 5 mX12_word (pI (pE σ (mwd (σ.1 83) (σ.1 82 23) (σ.1 82 22)))) σ 4 [some (.ref (G.2.2.2 + 82)), some (.int (iZ (i : Int))), some (.int (iZ (wo i : Int))), x3] [] := by
    intro n
    induction n with
    | zero =>
      intro i x3 hi hno
      have hi : i = 21 := by omega
      subst hi
      have h104 : ((wo 21 : Nat) : Int) = 104 := rfl
      refine e_iload_n (q := 5) (i := 2) dX12_word_4 rfl rfl rfl ?_
      refine e_ldcS (q := 7) (i := 0) dX12_word_5 rfl rfl ?_
      refine e_VipS (q := 10) (i := 0) (vs := []) ok_J0_length_8abf5 ml_X12_181 dX12_word_7 rfl rfl (by decide) rfl rfl (Nat.le_of_ble_eq_true rfl) (by decide) (c_length (nz := 104) (by decide) rfl) ?_
      refine e_icmp_ge (q := 13) (tgt := 123) dX12_word_10 rfl (by decide) (fun c10 => ?_) (fun c10 => by exfalso; omega)
      refine e_iconst (q := 124) dX12_word_123 rfl ?_
      exact r_i dX12_word_124 rfl ⟨by rw [mwd_no hpe hlt (fun q hq => hno q (by omega))], rfl⟩
    | succ n ih =>
      intro i x3 hi hno
      obtain ⟨t1, t2, t3, t4, t5⟩ := w_tab i (by omega)
      have hL := w_let i (by omega)
      have sk : ¬ mwM (σ.1 83) (σ.1 82 23) (σ.1 82 22) i → ∀ (n : Nat) (j : Nat) (x3 : Option Value), j + n = wl i → J G 5 mX12_word (pI (pE σ (mwd (σ.1 83) (σ.1 82 23) (σ.1 82 22)))) σ 97 [some (.ref (G.2.2.2 + 82)), some (.int (iZ (i : Int))), some (.int (iZ ((wo i : Int) + (j : Int)))), x3] [] := by
        intro hnm n
        induction n with
        | zero =>
          intro j x3 hj
          have hch : chV 0 ((wo i : Int) + (j : Int)) = 32 := by rw [show (wo i : Int) + (j : Int) = ((wo i + wl i : Nat) : Int) by omega]; exact t5
          refine e_ldcS (q := 99) (i := 0) dX12_word_97 rfl rfl ?_
          refine e_iload_n (q := 100) (i := 2) dX12_word_99 rfl rfl rfl ?_
          refine e_VipS (q := 103) (i := 0) (vs := [_]) ok_J0_charAt_5068e ml_X12_186 dX12_word_100 rfl rfl (by decide) rfl rfl (Nat.le_of_ble_eq_true rfl) (by decide) (c_charAt (z := ((wo i : Int) + (j : Int))) (by decide) (by omega) (by rw [hs104]; omega)) ?_
          refine e_bipush (q := 105) dX12_word_103 rfl (by decide) ?_
          refine e_icmp_eq (q := 108) (tgt := 114) dX12_word_105 rfl (by decide) (fun c105 => ?_) (fun c105 => by exfalso; omega) (hx := ⟨by omega, by omega⟩)
          refine e_iinc (q := 117) (L' := [_, _, _, _]) dX12_word_114 rfl rfl (by decide) rfl rfl ?_
          refine e_iinc (q := 120) (L' := [_, _, _, _]) dX12_word_117 rfl rfl (by decide) rfl rfl ?_
          refine e_goto (tgt := 4) dX12_word_120 (by decide) ?_
          rw [show (wo i : Int) + (j : Int) + 1 = ((wo (i + 1) : Nat) : Int) by omega, show (i : Int) + 1 = ((i + 1 : Nat) : Int) by omega]
          exact ih (i + 1) _ (by omega) (fun q hq => by rcases (show q < i ∨ q = i by omega) with r | r; exact hno q r; rw [r]; exact hnm)
        | succ n ih2 =>
          intro j x3 hj
          have hch := hL j (by omega)
          rw [show ((wo i + j : Nat) : Int) = (wo i : Int) + (j : Int) by omega] at hch
          refine e_ldcS (q := 99) (i := 0) dX12_word_97 rfl rfl ?_
          refine e_iload_n (q := 100) (i := 2) dX12_word_99 rfl rfl rfl ?_
          refine e_VipS (q := 103) (i := 0) (vs := [_]) ok_J0_charAt_5068e ml_X12_186 dX12_word_100 rfl rfl (by decide) rfl rfl (Nat.le_of_ble_eq_true rfl) (by decide) (c_charAt (z := ((wo i : Int) + (j : Int))) (by decide) (by omega) (by rw [hs104]; omega)) ?_
          refine e_bipush (q := 105) dX12_word_103 rfl (by decide) ?_
          refine e_icmp_eq (q := 108) (tgt := 114) dX12_word_105 rfl (by decide) (fun c105 => by exfalso; omega) (fun c105 => ?_) (hx := ⟨by omega, by omega⟩)
          refine e_iinc (q := 111) (L' := [_, _, _, _]) dX12_word_108 rfl rfl (by decide) rfl rfl ?_
          refine e_goto (tgt := 97) dX12_word_111 (by decide) ?_
          rw [show (wo i : Int) + (j : Int) + 1 = (wo i : Int) + ((j + 1 : Nat) : Int) by omega]
          exact ih2 (j + 1) _ (by omega)
      have lk : ∀ (n : Nat) (k : Nat), k + n = wl i → (k : Int) ≤ σ.1 82 22 - σ.1 82 23 → (∀ q : Nat, q < k → σ.1 83 (σ.1 82 23 + q) = chV 0 ((wo i + q : Nat) : Int)) → J G 5 mX12_word (pI (pE σ (mwd (σ.1 83) (σ.1 82 23) (σ.1 82 22)))) σ 15 [some (.ref (G.2.2.2 + 82)), some (.int (iZ (i : Int))), some (.int (iZ (wo i : Int))), some (.int (iZ (k : Int)))] [] := by
        intro n
        induction n with
        | zero =>
          intro k hk hke hk2
          have hch : chV 0 ((wo i : Int) + (k : Int)) = 32 := by rw [show (wo i : Int) + (k : Int) = ((wo i + wl i : Nat) : Int) by omega]; exact t5
          refine e_ldcS (q := 17) (i := 0) dX12_word_15 rfl rfl ?_
          refine e_iload_n (q := 18) (i := 2) dX12_word_17 rfl rfl rfl ?_
          refine e_iload_n (q := 19) (i := 3) dX12_word_18 rfl rfl rfl ?_
          refine e_iadd (q := 20) dX12_word_19 rfl ?_
          refine e_VipS (q := 23) (i := 0) (vs := [_]) ok_J0_charAt_5068e ml_X12_186 dX12_word_20 rfl rfl (by decide) rfl rfl (Nat.le_of_ble_eq_true rfl) (by decide) (c_charAt (z := ((wo i : Int) + (k : Int))) (by decide) (by omega) (by rw [hs104]; omega)) ?_
          refine e_bipush (q := 25) dX12_word_23 rfl (by decide) ?_
          refine e_icmp_eq (q := 28) (tgt := 69) dX12_word_25 rfl (by decide) (fun c25 => ?_) (fun c25 => by exfalso; omega) (hx := ⟨by omega, by omega⟩)
          refine e_ldcS (q := 71) (i := 0) dX12_word_69 rfl rfl ?_
          refine e_iload_n (q := 72) (i := 2) dX12_word_71 rfl rfl rfl ?_
          refine e_iload_n (q := 73) (i := 3) dX12_word_72 rfl rfl rfl ?_
          refine e_iadd (q := 74) dX12_word_73 rfl ?_
          refine e_VipS (q := 77) (i := 0) (vs := [_]) ok_J0_charAt_5068e ml_X12_186 dX12_word_74 rfl rfl (by decide) rfl rfl (Nat.le_of_ble_eq_true rfl) (by decide) (c_charAt (z := ((wo i : Int) + (k : Int))) (by decide) (by omega) (by rw [hs104]; omega)) ?_
          refine e_bipush (q := 79) dX12_word_77 rfl (by decide) ?_
          refine e_icmp_ne (q := 82) (tgt := 97) dX12_word_79 rfl (by decide) (fun c79 => by exfalso; omega) (fun c79 => ?_) (hx := ⟨by omega, by omega⟩)
          refine e_aload_n (q := 83) (i := 0) dX12_word_82 rfl rfl rfl ?_
          refine e_getI (q := 86) (jz := 23) dX12_word_83 rfl fg_X12_152 rfl (by first | assumption | rfl) rfl ?_
          refine e_iload_n (q := 87) (i := 3) dX12_word_86 rfl rfl rfl ?_
          refine e_iadd (q := 88) dX12_word_87 rfl ?_
          refine e_aload_n (q := 89) (i := 0) dX12_word_88 rfl rfl rfl ?_
          refine e_getI (q := 92) (jz := 22) dX12_word_89 rfl fg_X12_142 rfl (by first | assumption | rfl) rfl ?_
          refine e_icmp_ne (q := 95) (tgt := 97) dX12_word_92 rfl (by decide) (fun c92 => ?_) (fun c92 => ?_) (hx := ⟨by omega, by omega⟩) (hy := ⟨by omega, by omega⟩)
          · rw [show (wo i : Int) = (wo i : Int) + ((0 : Nat) : Int) by omega]
            exact sk (fun q => by have := q.1; omega) (wl i) 0 _ (by omega)
          · refine e_iload_n (q := 96) (i := 1) dX12_word_95 rfl rfl rfl ?_
            exact r_i dX12_word_96 rfl ⟨by rw [mwd_at hpe hlt (by omega) hno ⟨by omega, fun q hq => hk2 q (by omega)⟩], rfl⟩
        | succ n ih3 =>
          intro k hk hke hk2
          have hch := hL k (by omega)
          rw [show ((wo i + k : Nat) : Int) = (wo i : Int) + (k : Int) by omega] at hch
          refine e_ldcS (q := 17) (i := 0) dX12_word_15 rfl rfl ?_
          refine e_iload_n (q := 18) (i := 2) dX12_word_17 rfl rfl rfl ?_
          refine e_iload_n (q := 19) (i := 3) dX12_word_18 rfl rfl rfl ?_
          refine e_iadd (q := 20) dX12_word_19 rfl ?_
          refine e_VipS (q := 23) (i := 0) (vs := [_]) ok_J0_charAt_5068e ml_X12_186 dX12_word_20 rfl rfl (by decide) rfl rfl (Nat.le_of_ble_eq_true rfl) (by decide) (c_charAt (z := ((wo i : Int) + (k : Int))) (by decide) (by omega) (by rw [hs104]; omega)) ?_
          refine e_bipush (q := 25) dX12_word_23 rfl (by decide) ?_
          refine e_icmp_eq (q := 28) (tgt := 69) dX12_word_25 rfl (by decide) (fun c25 => by exfalso; omega) (fun c25 => ?_) (hx := ⟨by omega, by omega⟩)
          refine e_aload_n (q := 29) (i := 0) dX12_word_28 rfl rfl rfl ?_
          refine e_getI (q := 32) (jz := 23) dX12_word_29 rfl fg_X12_152 rfl (by first | assumption | rfl) rfl ?_
          refine e_iload_n (q := 33) (i := 3) dX12_word_32 rfl rfl rfl ?_
          refine e_iadd (q := 34) dX12_word_33 rfl ?_
          refine e_aload_n (q := 35) (i := 0) dX12_word_34 rfl rfl rfl ?_
          refine e_getI (q := 38) (jz := 22) dX12_word_35 rfl fg_X12_142 rfl (by first | assumption | rfl) rfl ?_
          refine e_icmp_ge (q := 41) (tgt := 69) dX12_word_38 rfl (by decide) (fun c38 => ?_) (fun c38 => ?_) (hx := ⟨by omega, by omega⟩) (hy := ⟨by omega, by omega⟩)
          · refine e_ldcS (q := 71) (i := 0) dX12_word_69 rfl rfl ?_
            refine e_iload_n (q := 72) (i := 2) dX12_word_71 rfl rfl rfl ?_
            refine e_iload_n (q := 73) (i := 3) dX12_word_72 rfl rfl rfl ?_
            refine e_iadd (q := 74) dX12_word_73 rfl ?_
            refine e_VipS (q := 77) (i := 0) (vs := [_]) ok_J0_charAt_5068e ml_X12_186 dX12_word_74 rfl rfl (by decide) rfl rfl (Nat.le_of_ble_eq_true rfl) (by decide) (c_charAt (z := ((wo i : Int) + (k : Int))) (by decide) (by omega) (by rw [hs104]; omega)) ?_
            refine e_bipush (q := 79) dX12_word_77 rfl (by decide) ?_
            refine e_icmp_ne (q := 82) (tgt := 97) dX12_word_79 rfl (by decide) (fun c79 => ?_) (fun c79 => by exfalso; omega) (hx := ⟨by omega, by omega⟩)
            rw [show (wo i : Int) = (wo i : Int) + ((0 : Nat) : Int) by omega]
            exact sk (fun q => by have := q.1; omega) (wl i) 0 _ (by omega)
          · refine e_aload_n (q := 42) (i := 0) dX12_word_41 rfl rfl rfl ?_
            refine e_getR (q := 45) dX12_word_42 rfl fg_X12_7 (by first | assumption | rfl) rfl ?_
            refine e_aload_n (q := 46) (i := 0) dX12_word_45 rfl rfl rfl ?_
            refine e_getI (q := 49) (jz := 23) dX12_word_46 rfl fg_X12_152 rfl (by first | assumption | rfl) rfl ?_
            refine e_iload_n (q := 50) (i := 3) dX12_word_49 rfl rfl rfl ?_
            refine e_iadd (q := 51) dX12_word_50 rfl ?_
            refine e_iald (q := 52) dX12_word_51 rfl (by first | assumption | rfl) ?_ (by omega) (by omega)
            refine e_ldcS (q := 54) (i := 0) dX12_word_52 rfl rfl ?_
            refine e_iload_n (q := 55) (i := 2) dX12_word_54 rfl rfl rfl ?_
            refine e_iload_n (q := 56) (i := 3) dX12_word_55 rfl rfl rfl ?_
            refine e_iadd (q := 57) dX12_word_56 rfl ?_
            refine e_VipS (q := 60) (i := 0) (vs := [_]) ok_J0_charAt_5068e ml_X12_186 dX12_word_57 rfl rfl (by decide) rfl rfl (Nat.le_of_ble_eq_true rfl) (by decide) (c_charAt (z := ((wo i : Int) + (k : Int))) (by decide) (by omega) (by rw [hs104]; omega)) ?_
            refine e_icmp_ne (q := 63) (tgt := 69) dX12_word_60 rfl (by decide) (fun c60 => ?_) (fun c60 => ?_) (hx := ⟨by have := (hM.2 (σ.1 82 23 + k) (by omega) (by omega)); omega, by have := (hM.2 (σ.1 82 23 + k) (by omega) (by omega)); omega⟩) (hy := ⟨by omega, by omega⟩)
            · refine e_ldcS (q := 71) (i := 0) dX12_word_69 rfl rfl ?_
              refine e_iload_n (q := 72) (i := 2) dX12_word_71 rfl rfl rfl ?_
              refine e_iload_n (q := 73) (i := 3) dX12_word_72 rfl rfl rfl ?_
              refine e_iadd (q := 74) dX12_word_73 rfl ?_
              refine e_VipS (q := 77) (i := 0) (vs := [_]) ok_J0_charAt_5068e ml_X12_186 dX12_word_74 rfl rfl (by decide) rfl rfl (Nat.le_of_ble_eq_true rfl) (by decide) (c_charAt (z := ((wo i : Int) + (k : Int))) (by decide) (by omega) (by rw [hs104]; omega)) ?_
              refine e_bipush (q := 79) dX12_word_77 rfl (by decide) ?_
              refine e_icmp_ne (q := 82) (tgt := 97) dX12_word_79 rfl (by decide) (fun c79 => ?_) (fun c79 => by exfalso; omega) (hx := ⟨by omega, by omega⟩)
              rw [show (wo i : Int) = (wo i : Int) + ((0 : Nat) : Int) by omega]
              exact sk (fun q => by have h := q.2 k (by omega); rw [show ((wo i + k : Nat) : Int) = (wo i : Int) + (k : Int) by omega] at h; exact c60 h) (wl i) 0 _ (by omega)
            · refine e_iinc (q := 66) (L' := [_, _, _, _]) dX12_word_63 rfl rfl (by decide) rfl rfl ?_
              refine e_goto (tgt := 15) dX12_word_66 (by decide) ?_
              rw [show (k : Int) + 1 = ((k + 1 : Nat) : Int) by omega]
              exact ih3 (k + 1) (by omega) (by omega) (fun q hq => by rcases (show q < k ∨ q = k by omega) with r | r; exact hk2 q r; rw [r, show ((wo i + k : Nat) : Int) = (wo i : Int) + (k : Int) by omega]; omega)
      refine e_iload_n (q := 5) (i := 2) dX12_word_4 rfl rfl rfl ?_
      refine e_ldcS (q := 7) (i := 0) dX12_word_5 rfl rfl ?_
      refine e_VipS (q := 10) (i := 0) (vs := []) ok_J0_length_8abf5 ml_X12_181 dX12_word_7 rfl rfl (by decide) rfl rfl (Nat.le_of_ble_eq_true rfl) (by decide) (c_length (nz := 104) (by decide) rfl) ?_
      refine e_icmp_ge (q := 13) (tgt := 123) dX12_word_10 rfl (by decide) (fun c10 => by exfalso; omega) (fun c10 => ?_)
      refine e_iconst (q := 14) dX12_word_13 rfl ?_
      refine e_istore_n (q := 15) (i := 3) (L' := [_, _, _, _]) dX12_word_14 rfl rfl (by decide) rfl rfl ?_
      exact lk (wl i) 0 (by omega) (by omega) (fun q hq => absurd hq (by omega))
  refine e_entry om_X12_word (Nat.le_of_ble_eq_true rfl) (L := [some (.ref (G.2.2.2 + 82)), none, none, none]) rfl ?_
  refine e_iconst (q := 1) dX12_word_0 rfl ?_
  refine e_istore_n (q := 2) (i := 1) (L' := [_, _, _, _]) dX12_word_1 rfl rfl (by decide) rfl rfl ?_
  refine e_iconst (q := 3) dX12_word_2 rfl ?_
  refine e_istore_n (q := 4) (i := 2) (L' := [_, _, _, _]) dX12_word_3 rfl rfl (by decide) rfl rfl ?_
  exact lp 21 0 _ (by decide) (fun q hq => absurd hq (by omega))

