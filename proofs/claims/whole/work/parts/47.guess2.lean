theorem zbits_and (f g : Int → Int) : ∀ n : Nat, ((zbits f n).toNat &&& (zbits g n).toNat) = (zbits (fun k => if f k = 1 ∧ g k = 1 then 1 else 0) n).toNat
  | 0 => by simp [zbits]
  | n + 1 => by
    have ih := zbits_and f g n
    have hf := zbits_lt f n
    have hg := zbits_lt g n
    have hh := zbits_lt (fun k => if f k = 1 ∧ g k = 1 then 1 else 0) n
    have e2 : ((2 : Int) ^ n) = ((2 ^ n : Nat) : Int) := by simp
    have key : ∀ (h : Int → Int), (zbits h (n + 1)).toNat = 2 ^ n * (if h n = 1 then 1 else 0) + (zbits h n).toNat := by
      intro h
      have hl := zbits_lt h n
      simp only [zbits]
      rw [e2] at hl ⊢
      split <;> omega
    rw [key f, key g, key, and_low (by omega) (by omega), ih]
    congr 2
    by_cases q : f n = 1
    · by_cases r : g n = 1
      · rw [if_pos q, if_pos r, if_pos (by rw [if_pos ⟨q, r⟩])]
        rfl
      · rw [if_pos q, if_neg r, if_neg (by rw [if_neg (fun s => r s.2)]; decide)]
        rfl
    · rw [if_neg q, Nat.zero_and, if_neg (by rw [if_neg (fun s => q s.1)]; decide)]
theorem zb_and (f g : Int → Int) : iZ (zb f 30) &&& iZ (zb g 30) = iZ (zb (fun k => if f k = 1 ∧ g k = 1 then 1 else 0) 30) := by
  have hf := zb_lt f (i := 30)
  have hg := zb_lt g (i := 30)
  have hh := zb_lt (fun k => if f k = 1 ∧ g k = 1 then 1 else 0) (i := 30)
  have e : (2 : Int) ^ (30 : Int).toNat = 1073741824 := by decide
  rw [e] at hf hg hh
  apply iZ_ext
  rw [Int32.toBitVec_and, BitVec.toNat_and, iZ_bv hf.1 (by omega), iZ_bv hg.1 (by omega), iZ_bv hh.1 (by omega)]
  exact zbits_and f g 30
theorem bts_zb {f : Int → Int} (h01 : ∀ k, f k = 0 ∨ f k = 1) : bts (zb f 30) = zs f 30 := by
  unfold bts
  refine zs_congr (fun i a b => ?_)
  rw [zb_bit f a b]
  rcases h01 i with q | q
  · rw [q]; rfl
  · rw [q]; rfl
/-- the first best of cells, counted row by row -/
def akB (W : Int → Int) (K b : Int) : Prop := 0 ≤ b ∧ b < K ∧ (∀ c, 0 ≤ c → c < b → W b < W c) ∧ (∀ c, 0 ≤ c → c < K → W b ≤ W c)
theorem akB_un {W : Int → Int} {K b b' : Int} (h : akB W K b) (h' : akB W K b') : b = b' := by
  obtain ⟨a0, a1, a2, a3⟩ := h
  obtain ⟨c0, c1, c2, c3⟩ := h'
  by_cases q : b < b'
  · have := c2 b a0 q
    have := a3 b' c0 c1
    omega
  · by_cases r : b' < b
    · have := a2 b' c0 r
      have := c3 b a0 a1
      omega
    · omega
def AkS (W : Int → Int) (z K : Int) (ini : Prop) (le ce : Int) : Prop := (K = 0 ∧ ini) ∨ ∃ b, akB W K b ∧ le = W b ∧ ce = 100 * (b / z) + b % z
theorem AkS_no {W : Int → Int} {z K : Int} {ini : Prop} {le ce : Int} (h : AkS W z K ini le ce) (hi : K = 0 → ¬ ini) (hl : le ≤ W K) : AkS W z (K + 1) ini le ce := by
  rcases h with ⟨h1, h2⟩ | ⟨b, ⟨b0, b1, b2, b3⟩, h2, h3⟩
  · exact absurd h2 (hi h1)
  · refine Or.inr ⟨b, ⟨b0, by omega, b2, fun c a e => ?_⟩, h2, h3⟩
    by_cases q : c = K
    · rw [q]; omega
    · exact b3 c a (by omega)
theorem AkS_up {W : Int → Int} {z K : Int} {ini : Prop} {le ce : Int} (h : AkS W z K ini le ce) (h0 : 0 ≤ K) (hl : K ≠ 0 → W K < le) : AkS W z (K + 1) ini (W K) (100 * (K / z) + K % z) := by
  refine Or.inr ⟨K, ⟨h0, by omega, fun c a e => ?_, fun c a e => ?_⟩, rfl, rfl⟩
  · have hlk := hl (by omega)
    rcases h with ⟨h1, h2⟩ | ⟨b, ⟨b0, b1, b2, b3⟩, h2, h3⟩
    · omega
    · have := b3 c a e
      omega
  · by_cases q : c = K
    · rw [q]; omega
    · have hlk := hl (by omega)
      rcases h with ⟨h1, h2⟩ | ⟨b, ⟨b0, b1, b2, b3⟩, h2, h3⟩
      · omega
      · have := b3 c a (by omega)
        omega
theorem rc_div {z r c : Int} (h0 : 0 ≤ c) (h1 : c < z) : (r * z + c) / z = r ∧ (r * z + c) % z = c := by
  constructor
  · rw [Int.add_comm, Int.add_mul_ediv_right _ _ (by omega), Int.ediv_eq_zero_of_lt h0 h1, Int.zero_add]
  · rw [Int.mul_comm, Int.mul_add_emod_self_left, Int.emod_eq_of_lt h0 h1]
/-- of the legs that are left (bits v), those whose land has the cell in 20 years -/
def yeF (rw cl : Int → Int) (R : Int → Int → Int) (v p r c k : Int) : Int := if v / 2 ^ k.toNat % 2 = 1 ∧ gHold rw cl (R (k + 1)) p r c = 1 then 1 else 0
def yeN (rw cl : Int → Int) (R : Int → Int → Int) (v p r c : Int) : Int := zs (yeF rw cl R v p r c) 30
def woN (rw cl : Int → Int) (R : Int → Int → Int) (v p z x : Int) : Int := max (yeN rw cl R v p (x / z) (x % z)) (bts v - yeN rw cl R v p (x / z) (x % z))
theorem yeN_in (rw cl : Int → Int) (R : Int → Int → Int) (v p r c : Int) : 0 ≤ yeN rw cl R v p r c ∧ yeN rw cl R v p r c ≤ 30 := zs_01 (fun k => by unfold yeF; split <;> simp) (by decide)
def g20 (σ : Sg) (c g : Int) : Int → Int := (gRn σ c g 20).1.1
def rwF (σ : Sg) (c p v r k : Int) : Int := if v / 2 ^ k.toNat % 2 = 1 ∧ gTop (σ.1 3) (g20 σ c (k + 1)) p ≤ r ∧ r ≤ gBot (σ.1 3) (g20 σ c (k + 1)) p then 1 else 0
def clF (σ : Sg) (c p v r k : Int) : Int := if v / 2 ^ k.toNat % 2 = 1 ∧ gLft (σ.1 4) (g20 σ c (k + 1)) p ≤ r ∧ r ≤ gRgt (σ.1 4) (g20 σ c (k + 1)) p then 1 else 0
theorem rc_ye (σ : Sg) (c p v r e k : Int) : (if rwF σ c p v r k = 1 ∧ clF σ c p v e k = 1 then (1 : Int) else 0) = yeF (σ.1 3) (σ.1 4) (g20 σ c) v p r e k := by
  have i1 : ∀ (P : Prop) [Decidable P], ((if P then (1 : Int) else 0) = 1) = P := fun P _ => propext ⟨fun h => by
    by_cases q : P
    · exact q
    · rw [if_neg q] at h; omega, fun h => if_pos h⟩
  unfold rwF clF yeF gHold
  simp only [i1]
  by_cases h : v / 2 ^ k.toNat % 2 = 1 ∧ gTop (σ.1 3) (g20 σ c (k + 1)) p ≤ r ∧ r ≤ gBot (σ.1 3) (g20 σ c (k + 1)) p ∧ gLft (σ.1 4) (g20 σ c (k + 1)) p ≤ e ∧ e ≤ gRgt (σ.1 4) (g20 σ c (k + 1)) p
  · rw [if_pos ⟨⟨h.1, h.2.1, h.2.2.1⟩, h.1, h.2.2.2⟩, if_pos h]
  · rw [if_neg (fun q => h ⟨q.1.1, q.1.2.1, q.1.2.2, q.2.2⟩), if_neg h]
theorem p2_30 {k : Int} (h : k < 30) : (1 : Int) ≤ 2 ^ k.toNat ∧ (2 : Int) ^ k.toNat ≤ 536870912 := by
  have : ∀ k : Nat, k < 30 → (1 : Int) ≤ 2 ^ k ∧ (2 : Int) ^ k ≤ 536870912 := by decide +kernel
  exact this k.toNat (by omega)

set_option maxHeartbeats 8000000 in
theorem c_X1_mark {G : Gx} {σ : Sg} {p e : Int} (hT : TI σ) (hI : LI σ 71) (hp : 0 ≤ p) (hp4 : p < 4) (he : e < 30) (hV : ∀ r, 0 ≤ r → r < 40 → 0 ≤ σ.1 76 r ∧ σ.1 76 r < (2 ^ e.toNat) ∧ 0 ≤ σ.1 77 r ∧ σ.1 77 r < (2 ^ e.toNat)) : Con G 2 mX1_mark [.ref (G.2.2.2 + 70), .int (iZ p), .int (iZ (2 ^ e.toNat))] σ (pV (fun σ' => Fr [76, 77] σ σ' ∧ (∀ r, 0 ≤ r → r < 40 → σ'.1 76 r = (if gTop (σ.1 3) (σ.1 72) p ≤ r ∧ r ≤ gBot (σ.1 3) (σ.1 72) p then σ.1 76 r + (2 ^ e.toNat) else σ.1 76 r)) ∧ ∀ r, 0 ≤ r → r < 40 → σ'.1 77 r = (if gLft (σ.1 4) (σ.1 72) p ≤ r ∧ r ≤ gRgt (σ.1 4) (σ.1 72) p then σ.1 77 r + (2 ^ e.toNat) else σ.1 77 r))) := by
  have hsd := LI_side (L := 71) hT hI hp hp4
  rw [show σ.1 (71 + 1) = σ.1 72 from rfl] at hsd
  refine e_entry om_X1_mark (Nat.le_of_ble_eq_true rfl) (L := [some (.ref (G.2.2.2 + 70)), some (.int (iZ p)), some (.int (iZ (2 ^ e.toNat))), none]) rfl ?_
  refine e_aload_n (q := 1) (i := 0) dX1_mark_0 rfl rfl rfl ?_
  refine e_getR (q := 4) dX1_mark_1 rfl fg_X1_28 (by first | assumption | rfl) rfl ?_
  refine e_iload_n (q := 5) (i := 1) dX1_mark_4 rfl rfl rfl ?_
  refine e_Vip (q := 8) (vs := [_]) ok_X2_top ml_X1_103 dX1_mark_5 rfl ⟨_, _, rfl⟩ (by first | assumption | rfl) rfl rfl (Nat.le_of_ble_eq_true rfl) (by decide) (c71_top hp (by omega)) ?_
  refine e_istore_n (q := 9) (i := 3) (L' := [_, _, _, _]) dX1_mark_8 rfl rfl (by decide) rfl rfl ?_
  have lr : ∀ (n : Nat) (ρ : Sg) (j : Int), gTop (σ.1 3) (σ.1 72) p ≤ j → j ≤ gBot (σ.1 3) (σ.1 72) p + 1 → j + n = gBot (σ.1 3) (σ.1 72) p + 1 → Fr [76] σ ρ → (∀ r, 0 ≤ r → r < 40 → ρ.1 76 r = (if gTop (σ.1 3) (σ.1 72) p ≤ r ∧ r < j then σ.1 76 r + (2 ^ e.toNat) else σ.1 76 r)) → J G 2 mX1_mark (pV (fun σ' => Fr [76, 77] σ σ' ∧ (∀ r, 0 ≤ r → r < 40 → σ'.1 76 r = (if gTop (σ.1 3) (σ.1 72) p ≤ r ∧ r ≤ gBot (σ.1 3) (σ.1 72) p then σ.1 76 r + (2 ^ e.toNat) else σ.1 76 r)) ∧ ∀ r, 0 ≤ r → r < 40 → σ'.1 77 r = (if gLft (σ.1 4) (σ.1 72) p ≤ r ∧ r ≤ gRgt (σ.1 4) (σ.1 72) p then σ.1 77 r + (2 ^ e.toNat) else σ.1 77 r))) ρ 9 [some (.ref (G.2.2.2 + 70)), some (.int (iZ p)), some (.int (iZ (2 ^ e.toNat))), some (.int (iZ j))] [] := by
    intro n
    induction n with
    | zero =>
      intro ρ j hl hu hn hF hb
      have e72 : ρ.1 72 = σ.1 72 := (hF 72 (by decide)).1
      have e3 : ρ.1 3 = σ.1 3 := (hF 3 (by decide)).1
      have e4 : ρ.1 4 = σ.1 4 := (hF 4 (by decide)).1
      refine e_iload_n (q := 10) (i := 3) dX1_mark_9 rfl rfl rfl ?_
      refine e_aload_n (q := 11) (i := 0) dX1_mark_10 rfl rfl rfl ?_
      refine e_getR (q := 14) dX1_mark_11 rfl fg_X1_28 (by first | assumption | rfl) rfl ?_
      refine e_iload_n (q := 15) (i := 1) dX1_mark_14 rfl rfl rfl ?_
      refine e_Vip (q := 18) (vs := [_]) ok_X2_bottom ml_X1_106 dX1_mark_15 rfl ⟨_, _, rfl⟩ (by first | assumption | rfl) rfl rfl (Nat.le_of_ble_eq_true rfl) (by decide) (c71_bottom hp (by omega)) ?_
      rw [e3, e72]
      refine e_icmp_gt (q := 21) (tgt := 47) dX1_mark_18 rfl (by decide) (fun c18 => ?_) (fun c18 => absurd (by omega) c18)
      refine e_aload_n (q := 48) (i := 0) dX1_mark_47 rfl rfl rfl ?_
      refine e_getR (q := 51) dX1_mark_48 rfl fg_X1_28 (by first | assumption | rfl) rfl ?_
      refine e_iload_n (q := 52) (i := 1) dX1_mark_51 rfl rfl rfl ?_
      refine e_Vip (q := 55) (vs := [_]) ok_X2_left ml_X1_109 dX1_mark_52 rfl ⟨_, _, rfl⟩ (by first | assumption | rfl) rfl rfl (Nat.le_of_ble_eq_true rfl) (by decide) (c71_left hp (by omega)) ?_
      rw [e4, e72]
      obtain ⟨s, es⟩ : ∃ s, s = ρ := ⟨_, rfl⟩
      have h76 : ∀ r, 0 ≤ r → r < 40 → s.1 76 r = (if gTop (σ.1 3) (σ.1 72) p ≤ r ∧ r ≤ gBot (σ.1 3) (σ.1 72) p then σ.1 76 r + (2 ^ e.toNat) else σ.1 76 r) := fun r a b => by rw [es, hb r a b]; congr 2; exact propext ⟨fun q => by omega, fun q => by omega⟩
      refine e_istore_n (q := 56) (i := 3) (L' := [_, _, _, _]) dX1_mark_55 rfl rfl (by decide) rfl rfl ?_
      have lc : ∀ (n : Nat) (ρ : Sg) (j : Int), gLft (σ.1 4) (σ.1 72) p ≤ j → j ≤ gRgt (σ.1 4) (σ.1 72) p + 1 → j + n = gRgt (σ.1 4) (σ.1 72) p + 1 → Fr [76, 77] σ ρ → ρ.1 76 = s.1 76 → (∀ r, 0 ≤ r → r < 40 → ρ.1 77 r = (if gLft (σ.1 4) (σ.1 72) p ≤ r ∧ r < j then σ.1 77 r + (2 ^ e.toNat) else σ.1 77 r)) → J G 2 mX1_mark (pV (fun σ' => Fr [76, 77] σ σ' ∧ (∀ r, 0 ≤ r → r < 40 → σ'.1 76 r = (if gTop (σ.1 3) (σ.1 72) p ≤ r ∧ r ≤ gBot (σ.1 3) (σ.1 72) p then σ.1 76 r + (2 ^ e.toNat) else σ.1 76 r)) ∧ ∀ r, 0 ≤ r → r < 40 → σ'.1 77 r = (if gLft (σ.1 4) (σ.1 72) p ≤ r ∧ r ≤ gRgt (σ.1 4) (σ.1 72) p then σ.1 77 r + (2 ^ e.toNat) else σ.1 77 r))) ρ 56 [some (.ref (G.2.2.2 + 70)), some (.int (iZ p)), some (.int (iZ (2 ^ e.toNat))), some (.int (iZ j))] [] := by
        intro n
        induction n with
        | zero =>
          intro ρ j hl hu hn hF e76 hb
          have e72 : ρ.1 72 = σ.1 72 := (hF 72 (by decide)).1
          have e3 : ρ.1 3 = σ.1 3 := (hF 3 (by decide)).1
          have e4 : ρ.1 4 = σ.1 4 := (hF 4 (by decide)).1
          refine e_iload_n (q := 57) (i := 3) dX1_mark_56 rfl rfl rfl ?_
          refine e_aload_n (q := 58) (i := 0) dX1_mark_57 rfl rfl rfl ?_
          refine e_getR (q := 61) dX1_mark_58 rfl fg_X1_28 (by first | assumption | rfl) rfl ?_
          refine e_iload_n (q := 62) (i := 1) dX1_mark_61 rfl rfl rfl ?_
          refine e_Vip (q := 65) (vs := [_]) ok_X2_right ml_X1_112 dX1_mark_62 rfl ⟨_, _, rfl⟩ (by first | assumption | rfl) rfl rfl (Nat.le_of_ble_eq_true rfl) (by decide) (c71_right hp (by omega)) ?_
          rw [e4, e72]
          refine e_icmp_gt (q := 68) (tgt := 94) dX1_mark_65 rfl (by decide) (fun c65 => ?_) (fun c65 => absurd (by omega) c65)
          exact r_v dX1_mark_94 rfl ⟨hF, fun r a b => by rw [e76]; exact h76 r a b, fun r a b => by rw [hb r a b]; congr 2; exact propext ⟨fun q => by omega, fun q => by omega⟩⟩
        | succ n ih =>
          intro ρ j hl hu hn hF e76 hb
          have e72 : ρ.1 72 = σ.1 72 := (hF 72 (by decide)).1
          have e3 : ρ.1 3 = σ.1 3 := (hF 3 (by decide)).1
          have e4 : ρ.1 4 = σ.1 4 := (hF 4 (by decide)).1
          refine e_iload_n (q := 57) (i := 3) dX1_mark_56 rfl rfl rfl ?_
          refine e_aload_n (q := 58) (i := 0) dX1_mark_57 rfl rfl rfl ?_
          refine e_getR (q := 61) dX1_mark_58 rfl fg_X1_28 (by first | assumption | rfl) rfl ?_
          refine e_iload_n (q := 62) (i := 1) dX1_mark_61 rfl rfl rfl ?_
          refine e_Vip (q := 65) (vs := [_]) ok_X2_right ml_X1_112 dX1_mark_62 rfl ⟨_, _, rfl⟩ (by first | assumption | rfl) rfl rfl (Nat.le_of_ble_eq_true rfl) (by decide) (c71_right hp (by omega)) ?_
          rw [e4, e72]
          refine e_icmp_gt (q := 68) (tgt := 94) dX1_mark_65 rfl (by decide) (fun c65 => absurd c65 (by omega)) (fun c65 => ?_)
          refine e_iload_n (q := 69) (i := 3) dX1_mark_68 rfl rfl rfl ?_
          refine e_if_lt (q := 72) (tgt := 88) dX1_mark_69 rfl (by decide) (fun c69 => ?_) (fun c69 => ?_)
          · refine e_iinc (q := 91) (L' := [_, _, _, _]) dX1_mark_88 rfl rfl (by decide) rfl rfl ?_
            refine e_goto (tgt := 56) dX1_mark_91 (by decide) ?_
            refine ih _ _ (by omega) (by omega) (by omega) hF e76 (fun r a b => ?_)
            rw [hb r a b]
            by_cases q : gLft (σ.1 4) (σ.1 72) p ≤ r ∧ r < j
            · rw [if_pos q, if_pos ⟨q.1, by omega⟩]
            · rw [if_neg q, if_neg (by omega)]
          · refine e_iload_n (q := 73) (i := 3) dX1_mark_72 rfl rfl rfl ?_
            refine e_bipush (q := 75) dX1_mark_73 rfl (by decide) ?_
            refine e_icmp_ge (q := 78) (tgt := 88) dX1_mark_75 rfl (by decide) (fun c75 => ?_) (fun c75 => ?_)
            · refine e_iinc (q := 91) (L' := [_, _, _, _]) dX1_mark_88 rfl rfl (by decide) rfl rfl ?_
              refine e_goto (tgt := 56) dX1_mark_91 (by decide) ?_
              refine ih _ _ (by omega) (by omega) (by omega) hF e76 (fun r a b => ?_)
              rw [hb r a b]
              by_cases q : gLft (σ.1 4) (σ.1 72) p ≤ r ∧ r < j
              · rw [if_pos q, if_pos ⟨q.1, by omega⟩]
              · rw [if_neg q, if_neg (by omega)]
            · refine e_aload_n (q := 79) (i := 0) dX1_mark_78 rfl rfl rfl ?_
              refine e_getR (q := 82) dX1_mark_79 rfl fg_X1_36 (by first | assumption | rfl) rfl ?_
              refine e_iload_n (q := 83) (i := 3) dX1_mark_82 rfl rfl rfl ?_
              refine e_dup2 (q := 84) dX1_mark_83 rfl rfl rfl ?_
              refine e_iald (q := 85) dX1_mark_84 rfl (by first | assumption | rfl) ?_
              have hvj := hV j (by omega) (by omega)
              have hvv : ρ.1 77 j = σ.1 77 j := by rw [hb j (by omega) (by omega), if_neg (by omega)]
              rw [hvv]
              refine e_iload_n (q := 86) (i := 2) dX1_mark_85 rfl rfl rfl ?_
              refine e_ior (q := 87) dX1_mark_86 rfl (iZ_orp hvj.2.2.1 hvj.2.2.2 (by omega)) ?_
              refine e_iast (q := 88) dX1_mark_87 rfl (by first | assumption | rfl) ?_
              refine e_iinc (q := 91) (L' := [_, _, _, _]) dX1_mark_88 rfl rfl (by decide) rfl rfl ?_
              refine e_goto (tgt := 56) dX1_mark_91 (by decide) ?_
              refine ih _ _ (by omega) (by omega) (by omega) (hF.sI (by decide) _ _) (by rw [sI_ne _ (by decide)]; exact e76) (fun r a b => ?_)
              rw [sI_1]
              by_cases q : r = j
              · rw [if_pos ⟨rfl, q⟩, q, if_pos ⟨by omega, by omega⟩]
              · rw [if_neg (fun s => q s.2), hb r a b]
                by_cases s : gLft (σ.1 4) (σ.1 72) p ≤ r ∧ r < j
                · rw [if_pos s, if_pos ⟨s.1, by omega⟩]
                · rw [if_neg s, if_neg (by omega)]
      exact lc (gRgt (σ.1 4) (σ.1 72) p + 1 - gLft (σ.1 4) (σ.1 72) p).toNat ρ _ (by omega) (by omega) (by omega) (hF.mono (by decide)) (by rw [es]) (fun r a b => by rw [if_neg (by omega)]; exact hF.e1 (by decide) r)
    | succ n ih =>
      intro ρ j hl hu hn hF hb
      have e72 : ρ.1 72 = σ.1 72 := (hF 72 (by decide)).1
      have e3 : ρ.1 3 = σ.1 3 := (hF 3 (by decide)).1
      have e4 : ρ.1 4 = σ.1 4 := (hF 4 (by decide)).1
      refine e_iload_n (q := 10) (i := 3) dX1_mark_9 rfl rfl rfl ?_
      refine e_aload_n (q := 11) (i := 0) dX1_mark_10 rfl rfl rfl ?_
      refine e_getR (q := 14) dX1_mark_11 rfl fg_X1_28 (by first | assumption | rfl) rfl ?_
      refine e_iload_n (q := 15) (i := 1) dX1_mark_14 rfl rfl rfl ?_
      refine e_Vip (q := 18) (vs := [_]) ok_X2_bottom ml_X1_106 dX1_mark_15 rfl ⟨_, _, rfl⟩ (by first | assumption | rfl) rfl rfl (Nat.le_of_ble_eq_true rfl) (by decide) (c71_bottom hp (by omega)) ?_
      rw [e3, e72]
      refine e_icmp_gt (q := 21) (tgt := 47) dX1_mark_18 rfl (by decide) (fun c18 => absurd c18 (by omega)) (fun c18 => ?_)
      refine e_iload_n (q := 22) (i := 3) dX1_mark_21 rfl rfl rfl ?_
      refine e_if_lt (q := 25) (tgt := 41) dX1_mark_22 rfl (by decide) (fun c22 => ?_) (fun c22 => ?_)
      · refine e_iinc (q := 44) (L' := [_, _, _, _]) dX1_mark_41 rfl rfl (by decide) rfl rfl ?_
        refine e_goto (tgt := 9) dX1_mark_44 (by decide) ?_
        refine ih _ _ (by omega) (by omega) (by omega) hF (fun r a b => ?_)
        rw [hb r a b]
        by_cases q : gTop (σ.1 3) (σ.1 72) p ≤ r ∧ r < j
        · rw [if_pos q, if_pos ⟨q.1, by omega⟩]
        · rw [if_neg q, if_neg (by omega)]
      · refine e_iload_n (q := 26) (i := 3) dX1_mark_25 rfl rfl rfl ?_
        refine e_bipush (q := 28) dX1_mark_26 rfl (by decide) ?_
        refine e_icmp_ge (q := 31) (tgt := 41) dX1_mark_28 rfl (by decide) (fun c28 => ?_) (fun c28 => ?_)
        · refine e_iinc (q := 44) (L' := [_, _, _, _]) dX1_mark_41 rfl rfl (by decide) rfl rfl ?_
          refine e_goto (tgt := 9) dX1_mark_44 (by decide) ?_
          refine ih _ _ (by omega) (by omega) (by omega) hF (fun r a b => ?_)
          rw [hb r a b]
          by_cases q : gTop (σ.1 3) (σ.1 72) p ≤ r ∧ r < j
          · rw [if_pos q, if_pos ⟨q.1, by omega⟩]
          · rw [if_neg q, if_neg (by omega)]
        · refine e_aload_n (q := 32) (i := 0) dX1_mark_31 rfl rfl rfl ?_
          refine e_getR (q := 35) dX1_mark_32 rfl fg_X1_32 (by first | assumption | rfl) rfl ?_
          refine e_iload_n (q := 36) (i := 3) dX1_mark_35 rfl rfl rfl ?_
          refine e_dup2 (q := 37) dX1_mark_36 rfl rfl rfl ?_
          refine e_iald (q := 38) dX1_mark_37 rfl (by first | assumption | rfl) ?_
          have hvj := hV j (by omega) (by omega)
          have hvv : ρ.1 76 j = σ.1 76 j := by rw [hb j (by omega) (by omega), if_neg (by omega)]
          rw [hvv]
          refine e_iload_n (q := 39) (i := 2) dX1_mark_38 rfl rfl rfl ?_
          refine e_ior (q := 40) dX1_mark_39 rfl (iZ_orp hvj.1 hvj.2.1 (by omega)) ?_
          refine e_iast (q := 41) dX1_mark_40 rfl (by first | assumption | rfl) ?_
          refine e_iinc (q := 44) (L' := [_, _, _, _]) dX1_mark_41 rfl rfl (by decide) rfl rfl ?_
          refine e_goto (tgt := 9) dX1_mark_44 (by decide) ?_
          refine ih _ _ (by omega) (by omega) (by omega) (hF.sI (by decide) _ _) (fun r a b => ?_)
          rw [sI_1]
          by_cases q : r = j
          · rw [if_pos ⟨rfl, q⟩, q, if_pos ⟨by omega, by omega⟩]
          · rw [if_neg (fun s => q s.2), hb r a b]
            by_cases s : gTop (σ.1 3) (σ.1 72) p ≤ r ∧ r < j
            · rw [if_pos s, if_pos ⟨s.1, by omega⟩]
            · rw [if_neg s, if_neg (by omega)]
  exact lr (gBot (σ.1 3) (σ.1 72) p + 1 - gTop (σ.1 3) (σ.1 72) p).toNat σ _ (by omega) (by omega) (by omega) (Fr.rf _ _) (fun r a b => by rw [if_neg (by omega)])

theorem c_X1_weigh {G : Gx} {σ : Sg} {r c al m : Int} (hr0 : 0 ≤ r) (hr1 : r < 40) (hc0 : 0 ≤ c) (hc1 : c < 40) (ha0 : 0 ≤ al) (ha1 : al ≤ 30) (hm : iZ (σ.1 76 r) &&& iZ (σ.1 77 c) = iZ m) (hm0 : 0 ≤ m) (hm1 : m < 1073741824) (h7 : R32 (σ.1 70 7)) : Con G 2 mX1_weigh [.ref (G.2.2.2 + 70), .int (iZ r), .int (iZ c), .int (iZ al)] σ (pV (fun σ' => ((max (bts m) (al - bts m)) < σ.1 70 7 ∧ σ' = sI (sI σ 70 7 (max (bts m) (al - bts m))) 70 6 (100 * r + c)) ∨ (¬ (max (bts m) (al - bts m)) < σ.1 70 7 ∧ σ' = σ))) := by
  have hbm := bts_in m
  refine e_entry om_X1_weigh (Nat.le_of_ble_eq_true rfl) (L := [some (.ref (G.2.2.2 + 70)), some (.int (iZ r)), some (.int (iZ c)), some (.int (iZ al)), none, none]) rfl ?_
  refine e_aload_n (q := 1) (i := 0) dX1_weigh_0 rfl rfl rfl ?_
  refine e_getR (q := 4) dX1_weigh_1 rfl fg_X1_32 (by first | assumption | rfl) rfl ?_
  refine e_iload_n (q := 5) (i := 1) dX1_weigh_4 rfl rfl rfl ?_
  refine e_iald (q := 6) dX1_weigh_5 rfl (by first | assumption | rfl) ?_
  refine e_aload_n (q := 7) (i := 0) dX1_weigh_6 rfl rfl rfl ?_
  refine e_getR (q := 10) dX1_weigh_7 rfl fg_X1_36 (by first | assumption | rfl) rfl ?_
  refine e_iload_n (q := 11) (i := 2) dX1_weigh_10 rfl rfl rfl ?_
  refine e_iald (q := 12) dX1_weigh_11 rfl (by first | assumption | rfl) ?_
  refine e_iand (q := 13) dX1_weigh_12 rfl hm ?_
  refine e_Sip (q := 16) (vs := [_]) ok_J6_bitCount_0f7a4 ml_X1_96 dX1_weigh_13 rfl rfl rfl (Nat.le_of_ble_eq_true rfl) (by decide) (c_bitCount) ?_
  rw [bcF_bts hm0 hm1]
  refine e_istore (q := 18) (L' := [_, _, _, _, _, _]) dX1_weigh_16 rfl (by decide) rfl rfl ?_
  refine e_iload (q := 20) dX1_weigh_18 rfl rfl ?_
  refine e_iload_n (q := 21) (i := 3) dX1_weigh_20 rfl rfl rfl ?_
  refine e_iload (q := 23) dX1_weigh_21 rfl rfl ?_
  refine e_isub (q := 24) dX1_weigh_23 rfl ?_
  refine e_mmax (q := 27) dX1_weigh_24 rfl ml_X1_115 mw_max_s mw_max_c mw_init (Nat.le_of_ble_eq_true rfl) (by decide) ?_
  refine e_istore (q := 29) (L' := [_, _, _, _, _, _]) dX1_weigh_27 rfl (by decide) rfl rfl ?_
  refine e_iload (q := 31) dX1_weigh_29 rfl rfl ?_
  refine e_aload_n (q := 32) (i := 0) dX1_weigh_31 rfl rfl rfl ?_
  refine e_getI (q := 35) (jz := 7) dX1_weigh_32 rfl fg_X1_88 rfl (by first | assumption | rfl) rfl ?_
  refine e_icmp_ge (q := 38) (tgt := 54) dX1_weigh_35 rfl (by decide) (fun c35 => ?_) (fun c35 => ?_) (hx := ⟨by omega, by omega⟩) (hy := h7)
  · exact r_v dX1_weigh_54 rfl (Or.inr ⟨by omega, rfl⟩)
  · refine e_aload_n (q := 39) (i := 0) dX1_weigh_38 rfl rfl rfl ?_
    refine e_iload (q := 41) dX1_weigh_39 rfl rfl ?_
    refine e_putI (q := 44) (jz := 7) dX1_weigh_41 rfl fp_X1_88 rfl (by first | assumption | rfl) rfl ?_
    refine e_aload_n (q := 45) (i := 0) dX1_weigh_44 rfl rfl rfl ?_
    refine e_bipush (q := 47) dX1_weigh_45 rfl (by decide) ?_
    refine e_iload_n (q := 48) (i := 1) dX1_weigh_47 rfl rfl rfl ?_
    refine e_imul (q := 49) dX1_weigh_48 rfl ?_
    refine e_iload_n (q := 50) (i := 2) dX1_weigh_49 rfl rfl rfl ?_
    refine e_iadd (q := 51) dX1_weigh_50 rfl ?_
    refine e_putI (q := 54) (jz := 6) dX1_weigh_51 rfl fp_X1_121 rfl (by first | assumption | rfl) rfl ?_
    exact r_v dX1_weigh_54 rfl (Or.inl ⟨by omega, rfl⟩)

set_option maxHeartbeats 8000000 in
theorem c_X1_seekCell {G : Gx} {σ τ0 : Sg} {c p v : Int} (hT : TI σ) (hB : TB σ) (hW : LW σ) (hF0 : Fr [17, 55, 69, 70, 71, 72, 73, 74, 75, 76, 77] σ τ0) (hc0 : 0 ≤ c) (hc6 : c < 6) (hp : 0 ≤ p) (hpn : p < σ.1 2 2) (hv0 : 0 ≤ v) (hv1 : v < 1073741824) : Con G 8 mX1_seekCell [.ref (G.2.2.2 + 70), .int (iZ c), .int (iZ p), .int (iZ v)] τ0 (pV (fun σ' => Fr [17, 55, 69, 70, 71, 72, 73, 74, 75, 76, 77] σ σ' ∧ σ'.1 69 = τ0.1 69 ∧ ∃ b, akB (woN (σ.1 3) (σ.1 4) (g20 σ c) v p (σ.1 2 0)) ((σ.1 2 0) * (σ.1 2 0)) b ∧ σ'.1 70 7 = (woN (σ.1 3) (σ.1 4) (g20 σ c) v p (σ.1 2 0)) b ∧ σ'.1 70 6 = 100 * (b / (σ.1 2 0)) + b % (σ.1 2 0))) := by
  obtain ⟨hzz, -, hnp, hnc, hnb, hlb, hrn, hsd, hrw, hrq, hch, hbt, hck⟩ := id hT
  have hbv := bts_in v
  refine e_entry om_X1_seekCell (Nat.le_of_ble_eq_true rfl) (L := [some (.ref (G.2.2.2 + 70)), some (.int (iZ c)), some (.int (iZ p)), some (.int (iZ v)), none, none]) rfl ?_
  refine e_aload_n (q := 1) (i := 0) dX1_seekCell_0 rfl rfl rfl ?_
  refine e_getR (q := 4) dX1_seekCell_1 rfl fg_X1_32 (by first | assumption | rfl) rfl ?_
  refine e_iconst (q := 5) dX1_seekCell_4 rfl ?_
  refine e_Sv (q := 8) (vs := [_, _]) ok_J7_fill_53178 ml_X1_76 dX1_seekCell_5 rfl rfl rfl (Nat.le_of_ble_eq_true rfl) (by decide) (c_fill (k := 76) (mN := 40) (m := 40) rfl rfl (by decide)) (fun s5 h5 => ?_)
  subst h5
  refine e_aload_n (q := 9) (i := 0) dX1_seekCell_8 rfl rfl rfl ?_
  refine e_getR (q := 12) dX1_seekCell_9 rfl fg_X1_36 (by first | assumption | rfl) rfl ?_
  refine e_iconst (q := 13) dX1_seekCell_12 rfl ?_
  refine e_Sv (q := 16) (vs := [_, _]) ok_J7_fill_53178 ml_X1_76 dX1_seekCell_13 rfl rfl rfl (Nat.le_of_ble_eq_true rfl) (by decide) (c_fill (k := 77) (mN := 40) (m := 40) rfl rfl (by decide)) (fun s13 h13 => ?_)
  subst h13
  refine e_iconst (q := 17) dX1_seekCell_16 rfl ?_
  refine e_istore (q := 19) (L' := [_, _, _, _, _, _]) dX1_seekCell_17 rfl (by decide) rfl rfl ?_
  have la : ∀ (n : Nat) (τ : Sg) (i : Int) (x5 : Option Value), 0 ≤ i → i + n = 30 → Fr [17, 55, 69, 70, 71, 72, 73, 74, 75, 76, 77] σ τ → τ.1 69 = τ0.1 69 → (∀ r, 0 ≤ r → r < 40 → τ.1 76 r = zb (rwF σ c p v r) i ∧ τ.1 77 r = zb (clF σ c p v r) i) → J G 8 mX1_seekCell (pV (fun σ' => Fr [17, 55, 69, 70, 71, 72, 73, 74, 75, 76, 77] σ σ' ∧ σ'.1 69 = τ0.1 69 ∧ ∃ b, akB (woN (σ.1 3) (σ.1 4) (g20 σ c) v p (σ.1 2 0)) ((σ.1 2 0) * (σ.1 2 0)) b ∧ σ'.1 70 7 = (woN (σ.1 3) (σ.1 4) (g20 σ c) v p (σ.1 2 0)) b ∧ σ'.1 70 6 = 100 * (b / (σ.1 2 0)) + b % (σ.1 2 0))) τ 19 [some (.ref (G.2.2.2 + 70)), some (.int (iZ c)), some (.int (iZ p)), some (.int (iZ v)), some (.int (iZ i)), x5] [] := by
    intro n
    induction n with
    | zero =>
      intro τ i x5 h0 hn hF e9 hR
      refine e_iload (q := 21) dX1_seekCell_19 rfl rfl ?_
      refine e_bipush (q := 23) dX1_seekCell_21 rfl (by decide) ?_
      refine e_icmp_ge (q := 26) (tgt := 73) dX1_seekCell_23 rfl (by decide) (fun c23 => ?_) (fun c23 => absurd (by omega) c23)
      refine e_aload_n (q := 74) (i := 0) dX1_seekCell_73 rfl rfl rfl ?_
      refine e_ldc (q := 76) (z := 2147483647) dX1_seekCell_74 rfl kw_X1_87 (by decide) ?_
      refine e_putI (q := 79) (jz := 7) dX1_seekCell_76 rfl fp_X1_88 rfl (by first | assumption | rfl) rfl ?_
      refine e_iconst (q := 80) dX1_seekCell_79 rfl ?_
      refine e_istore (q := 82) (L' := [_, _, _, _, _, _]) dX1_seekCell_80 rfl (by decide) rfl rfl ?_
      have e30 : i = 30 := by omega
      subst e30
      have lb : ∀ (n : Nat) (τ : Sg) (i : Int) (x5 : Option Value), 0 ≤ i → i + n = (σ.1 2 0) → Fr [17, 55, 69, 70, 71, 72, 73, 74, 75, 76, 77] σ τ → τ.1 69 = τ0.1 69 → (∀ r, 0 ≤ r → r < 40 → τ.1 76 r = zb (rwF σ c p v r) 30 ∧ τ.1 77 r = zb (clF σ c p v r) 30) → AkS (woN (σ.1 3) (σ.1 4) (g20 σ c) v p (σ.1 2 0)) (σ.1 2 0) (i * (σ.1 2 0)) (τ.1 70 7 = 2147483647) (τ.1 70 7) (τ.1 70 6) → J G 8 mX1_seekCell (pV (fun σ' => Fr [17, 55, 69, 70, 71, 72, 73, 74, 75, 76, 77] σ σ' ∧ σ'.1 69 = τ0.1 69 ∧ ∃ b, akB (woN (σ.1 3) (σ.1 4) (g20 σ c) v p (σ.1 2 0)) ((σ.1 2 0) * (σ.1 2 0)) b ∧ σ'.1 70 7 = (woN (σ.1 3) (σ.1 4) (g20 σ c) v p (σ.1 2 0)) b ∧ σ'.1 70 6 = 100 * (b / (σ.1 2 0)) + b % (σ.1 2 0))) τ 82 [some (.ref (G.2.2.2 + 70)), some (.int (iZ c)), some (.int (iZ p)), some (.int (iZ v)), some (.int (iZ i)), x5] [] := by
        intro n
        induction n with
        | zero =>
          intro τ i x5 h0 hn hF e9 hR hA
          have e2 : τ.1 2 0 = (σ.1 2 0) := by rw [(hF 2 (by decide)).1]
          refine e_iload (q := 84) dX1_seekCell_82 rfl rfl ?_
          refine e_aload_n (q := 85) (i := 0) dX1_seekCell_84 rfl rfl rfl ?_
          refine e_getR (q := 88) dX1_seekCell_85 rfl fg_X1_9 (by first | assumption | rfl) rfl ?_
          refine e_getI (q := 91) (jz := 0) dX1_seekCell_88 rfl fg_X1_91 rfl (by first | assumption | rfl) rfl ?_
          rw [e2]
          refine e_icmp_ge (q := 94) (tgt := 133) dX1_seekCell_91 rfl (by decide) (fun c91 => ?_) (fun c91 => absurd (by omega) c91)
          exact r_v dX1_seekCell_133 rfl ⟨hF, e9, by
          rcases hA with ⟨q1, q2⟩ | q
          · have h25 := Int.mul_le_mul (show (5 : Int) ≤ i by omega) (show (5 : Int) ≤ (σ.1 2 0) by omega) (by decide) (by omega)
            omega
          · rw [show i = (σ.1 2 0) by omega] at q
            exact q⟩
        | succ n ih =>
          intro τ i x5 h0 hn hF e9 hR hA
          have e2 : τ.1 2 0 = (σ.1 2 0) := by rw [(hF 2 (by decide)).1]
          refine e_iload (q := 84) dX1_seekCell_82 rfl rfl ?_
          refine e_aload_n (q := 85) (i := 0) dX1_seekCell_84 rfl rfl rfl ?_
          refine e_getR (q := 88) dX1_seekCell_85 rfl fg_X1_9 (by first | assumption | rfl) rfl ?_
          refine e_getI (q := 91) (jz := 0) dX1_seekCell_88 rfl fg_X1_91 rfl (by first | assumption | rfl) rfl ?_
          rw [e2]
          refine e_icmp_ge (q := 94) (tgt := 133) dX1_seekCell_91 rfl (by decide) (fun c91 => absurd c91 (by omega)) (fun c91 => ?_)
          refine e_iconst (q := 95) dX1_seekCell_94 rfl ?_
          refine e_istore (q := 97) (L' := [_, _, _, _, _, _]) dX1_seekCell_95 rfl (by decide) rfl rfl ?_
          have hK0 : ∀ j, 0 ≤ j → 0 ≤ i * (σ.1 2 0) + j := fun j a => Int.add_nonneg (Int.mul_nonneg h0 (by omega)) a
          have lq : ∀ (k : Nat) (τ : Sg) (j : Int), 0 ≤ j → j + k = (σ.1 2 0) → Fr [17, 55, 69, 70, 71, 72, 73, 74, 75, 76, 77] σ τ → τ.1 69 = τ0.1 69 → (∀ r, 0 ≤ r → r < 40 → τ.1 76 r = zb (rwF σ c p v r) 30 ∧ τ.1 77 r = zb (clF σ c p v r) 30) → AkS (woN (σ.1 3) (σ.1 4) (g20 σ c) v p (σ.1 2 0)) (σ.1 2 0) (i * (σ.1 2 0) + j) (τ.1 70 7 = 2147483647) (τ.1 70 7) (τ.1 70 6) → J G 8 mX1_seekCell (pV (fun σ' => Fr [17, 55, 69, 70, 71, 72, 73, 74, 75, 76, 77] σ σ' ∧ σ'.1 69 = τ0.1 69 ∧ ∃ b, akB (woN (σ.1 3) (σ.1 4) (g20 σ c) v p (σ.1 2 0)) ((σ.1 2 0) * (σ.1 2 0)) b ∧ σ'.1 70 7 = (woN (σ.1 3) (σ.1 4) (g20 σ c) v p (σ.1 2 0)) b ∧ σ'.1 70 6 = 100 * (b / (σ.1 2 0)) + b % (σ.1 2 0))) τ 97 [some (.ref (G.2.2.2 + 70)), some (.int (iZ c)), some (.int (iZ p)), some (.int (iZ v)), some (.int (iZ i)), some (.int (iZ j))] [] := by
            intro k
            induction k with
            | zero =>
              intro τ j h3 h4 hF e9 hR hA
              have e2 : τ.1 2 0 = (σ.1 2 0) := by rw [(hF 2 (by decide)).1]
              refine e_iload (q := 99) dX1_seekCell_97 rfl rfl ?_
              refine e_aload_n (q := 100) (i := 0) dX1_seekCell_99 rfl rfl rfl ?_
              refine e_getR (q := 103) dX1_seekCell_100 rfl fg_X1_9 (by first | assumption | rfl) rfl ?_
              refine e_getI (q := 106) (jz := 0) dX1_seekCell_103 rfl fg_X1_91 rfl (by first | assumption | rfl) rfl ?_
              rw [e2]
              refine e_icmp_ge (q := 109) (tgt := 127) dX1_seekCell_106 rfl (by decide) (fun c106 => ?_) (fun c106 => absurd (by omega) c106)
              refine e_iinc (q := 130) (L' := [_, _, _, _, _, _]) dX1_seekCell_127 rfl rfl (by decide) rfl rfl ?_
              refine e_goto (tgt := 82) dX1_seekCell_130 (by decide) ?_
              refine ih _ _ _ (by omega) (by omega) hF e9 hR ?_
              rw [show (i + 1) * (σ.1 2 0) = i * (σ.1 2 0) + j by rw [Int.add_mul, Int.one_mul]; omega]
              exact hA
            | succ k ih2 =>
              intro τ j h3 h4 hF e9 hR hA
              have e2 : τ.1 2 0 = (σ.1 2 0) := by rw [(hF 2 (by decide)).1]
              refine e_iload (q := 99) dX1_seekCell_97 rfl rfl ?_
              refine e_aload_n (q := 100) (i := 0) dX1_seekCell_99 rfl rfl rfl ?_
              refine e_getR (q := 103) dX1_seekCell_100 rfl fg_X1_9 (by first | assumption | rfl) rfl ?_
              refine e_getI (q := 106) (jz := 0) dX1_seekCell_103 rfl fg_X1_91 rfl (by first | assumption | rfl) rfl ?_
              rw [e2]
              refine e_icmp_ge (q := 109) (tgt := 127) dX1_seekCell_106 rfl (by decide) (fun c106 => absurd c106 (by omega)) (fun c106 => ?_)
              refine e_aload_n (q := 110) (i := 0) dX1_seekCell_109 rfl rfl rfl ?_
              refine e_iload (q := 112) dX1_seekCell_110 rfl rfl ?_
              refine e_iload (q := 114) dX1_seekCell_112 rfl rfl ?_
              refine e_iload_n (q := 115) (i := 3) dX1_seekCell_114 rfl rfl rfl ?_
              refine e_Sip (q := 118) (vs := [_]) ok_J6_bitCount_0f7a4 ml_X1_96 dX1_seekCell_115 rfl rfl rfl (Nat.le_of_ble_eq_true rfl) (by decide) (c_bitCount) ?_
              rw [bcF_bts hv0 hv1]
              have hzb := zb_lt (yeF (σ.1 3) (σ.1 4) (g20 σ c) v p i j) (i := 30)
              rw [show (2 : Int) ^ (30 : Int).toNat = 1073741824 by decide] at hzb
              have hrc := rc_div (r := i) h3 (show j < (σ.1 2 0) by omega)
              have eW : (woN (σ.1 3) (σ.1 4) (g20 σ c) v p (σ.1 2 0)) (i * (σ.1 2 0) + j) = max (bts (zb (yeF (σ.1 3) (σ.1 4) (g20 σ c) v p i j) 30)) (bts v - bts (zb (yeF (σ.1 3) (σ.1 4) (g20 σ c) v p i j) 30)) := by
                unfold woN
                rw [hrc.1, hrc.2, bts_zb (fun k => by unfold yeF; split <;> simp)]
                rfl
              have hW30 : 0 ≤ (woN (σ.1 3) (σ.1 4) (g20 σ c) v p (σ.1 2 0)) (i * (σ.1 2 0) + j) ∧ (woN (σ.1 3) (σ.1 4) (g20 σ c) v p (σ.1 2 0)) (i * (σ.1 2 0) + j) ≤ 30 := by
                have := bts_in (zb (yeF (σ.1 3) (σ.1 4) (g20 σ c) v p i j) 30)
                rw [eW]
                omega
              have h7r : R32 (τ.1 70 7) := by
                rcases hA with ⟨_, q⟩ | ⟨b, _, q, _⟩
                · rw [q]; exact ⟨by decide, by decide⟩
                · have hy := yeN_in (σ.1 3) (σ.1 4) (g20 σ c) v p (b / (σ.1 2 0)) (b % (σ.1 2 0))
                  rw [q]
                  unfold woN
                  exact ⟨by omega, by omega⟩
              refine e_Vv (q := 121) (vs := [_, _, _]) ok_X1_weigh ml_X1_99 dX1_seekCell_118 rfl ⟨_, _, rfl⟩ (by first | assumption | rfl) rfl rfl (Nat.le_of_ble_eq_true rfl) (by decide) (c_X1_weigh (m := zb (yeF (σ.1 3) (σ.1 4) (g20 σ c) v p i j) 30) (by omega) (by omega) (by omega) (by omega) hbv.1 hbv.2 (by rw [(hR i (by omega) (by omega)).1, (hR j (by omega) (by omega)).2, zb_and, show (fun k => if rwF σ c p v i k = 1 ∧ clF σ c p v j k = 1 then (1 : Int) else 0) = yeF (σ.1 3) (σ.1 4) (g20 σ c) v p i j from funext (fun k => rc_ye σ c p v i j k)]) hzb.1 (by omega) h7r) (fun s118 h118 => ?_)
              refine e_iinc (q := 124) (L' := [_, _, _, _, _, _]) dX1_seekCell_121 rfl rfl (by decide) rfl rfl ?_
              refine e_goto (tgt := 97) dX1_seekCell_124 (by decide) ?_
              rw [← eW] at h118
              rcases h118 with ⟨q1, q2⟩ | ⟨q1, q2⟩
              · rw [q2]
                refine ih2 _ _ (by omega) (by omega) ((hF.sI (by decide) _ _).sI (by decide) _ _) (by rw [sI_ne _ (by decide), sI_ne _ (by decide)]; exact e9) (fun r a b => by rw [sI_ne _ (by decide), sI_ne _ (by decide), sI_ne _ (by decide), sI_ne _ (by decide)]; exact hR r a b) ?_
                have e7 : (sI (sI τ 70 7 ((woN (σ.1 3) (σ.1 4) (g20 σ c) v p (σ.1 2 0)) (i * (σ.1 2 0) + j))) 70 6 (100 * i + j)).1 70 7 = (woN (σ.1 3) (σ.1 4) (g20 σ c) v p (σ.1 2 0)) (i * (σ.1 2 0) + j) := by rw [sI_1, if_neg (by decide), sI_1, if_pos ⟨rfl, rfl⟩]
                have e6 : (sI (sI τ 70 7 ((woN (σ.1 3) (σ.1 4) (g20 σ c) v p (σ.1 2 0)) (i * (σ.1 2 0) + j))) 70 6 (100 * i + j)).1 70 6 = 100 * ((i * (σ.1 2 0) + j) / (σ.1 2 0)) + (i * (σ.1 2 0) + j) % (σ.1 2 0) := by rw [sI_1, if_pos ⟨rfl, rfl⟩, hrc.1, hrc.2]
                rw [e7, e6, show i * (σ.1 2 0) + (j + 1) = i * (σ.1 2 0) + j + 1 by omega]
                refine Or.inr ?_
                have hup := AkS_up hA (hK0 j h3) (fun _ => q1)
                rcases hup with ⟨u1, -⟩ | u
                · have := hK0 j h3; omega
                · exact u
              · rw [q2]
                refine ih2 _ _ (by omega) (by omega) hF e9 hR ?_
                rw [show i * (σ.1 2 0) + (j + 1) = i * (σ.1 2 0) + j + 1 by omega]
                exact AkS_no hA (fun _ q => by omega) (by omega)
          exact lq ((σ.1 2 0)).toNat τ 0 (by decide) (by omega) hF e9 hR (by rw [Int.add_zero]; exact hA)
      exact lb ((σ.1 2 0)).toNat _ 0 _ (by decide) (by omega) (hF.sI (by decide) _ _) (by rw [sI_ne _ (by decide)]; exact e9) (fun r a b => by rw [sI_ne _ (by decide), sI_ne _ (by decide)]; exact hR r a b) (Or.inl ⟨by rw [Int.zero_mul], by rw [sI_1, if_pos ⟨rfl, rfl⟩]⟩)
    | succ n ih =>
      intro τ i x5 h0 hn hF e9 hR
      refine e_iload (q := 21) dX1_seekCell_19 rfl rfl ?_
      refine e_bipush (q := 23) dX1_seekCell_21 rfl (by decide) ?_
      refine e_icmp_ge (q := 26) (tgt := 73) dX1_seekCell_23 rfl (by decide) (fun c23 => absurd c23 (by omega)) (fun c23 => ?_)
      have hp2 := p2_30 (k := i) (by omega)
      have hd0 := Int.ediv_nonneg hv0 (show (0 : Int) ≤ 2 ^ i.toNat by omega)
      have hd1 := Int.ediv_le_self (2 ^ i.toNat) hv0
      refine e_iload_n (q := 27) (i := 3) dX1_seekCell_26 rfl rfl rfl ?_
      refine e_iload (q := 29) dX1_seekCell_27 rfl rfl ?_
      refine e_ishr (q := 30) dX1_seekCell_29 rfl (iZ_shrk hv0 (by omega) h0 (by omega)) ?_
      refine e_iconst (q := 31) dX1_seekCell_30 rfl ?_
      refine e_iand (q := 32) dX1_seekCell_31 rfl (iZ_and1 hd0 (by omega)) ?_
      refine e_if_eq (q := 35) (tgt := 67) dX1_seekCell_32 rfl (by decide) (fun c32 => ?_) (fun c32 => ?_) (hx := ⟨by omega, by omega⟩)
      · refine e_iinc (q := 70) (L' := [_, _, _, _, _, _]) dX1_seekCell_67 rfl rfl (by decide) rfl rfl ?_
        refine e_goto (tgt := 19) dX1_seekCell_70 (by decide) ?_
        refine ih _ _ _ (by omega) (by omega) hF e9 (fun r a b => ?_)
        have hb := hR r a b
        rw [zb_succ _ h0, zb_succ _ h0, if_neg (by unfold rwF; rw [if_neg (fun q => by have := q.1; omega)]; decide), if_neg (by unfold clF; rw [if_neg (fun q => by have := q.1; omega)]; decide), Int.add_zero, Int.add_zero]
        exact hb
      · refine e_aload_n (q := 36) (i := 0) dX1_seekCell_35 rfl rfl rfl ?_
        refine e_iload_n (q := 37) (i := 1) dX1_seekCell_36 rfl rfl rfl ?_
        refine e_iload (q := 39) dX1_seekCell_37 rfl rfl ?_
        refine e_iconst (q := 40) dX1_seekCell_39 rfl ?_
        refine e_iadd (q := 41) dX1_seekCell_40 rfl ?_
        refine e_Vv (q := 44) (vs := [_, _]) ok_X1_beginWith ml_X1_54 dX1_seekCell_41 rfl ⟨_, _, rfl⟩ (by first | assumption | rfl) rfl rfl (Nat.le_of_ble_eq_true rfl) (by decide) (c_X1_beginWith hT hF hc0 hc6 (by omega) (by omega)) (fun s41 h41 => ?_)
        obtain ⟨hG0, hf0⟩ := h41
        have eY : s41.1 71 6 = 0 := by have := hG0.2.2.2.2.2.2; omega
        refine e_aload_n (q := 45) (i := 0) dX1_seekCell_44 rfl rfl rfl ?_
        refine e_getR (q := 48) dX1_seekCell_45 rfl fg_X1_15 (by first | assumption | rfl) rfl ?_
        refine e_aload_n (q := 49) (i := 0) dX1_seekCell_48 rfl rfl rfl ?_
        refine e_getR (q := 52) dX1_seekCell_49 rfl fg_X1_28 (by first | assumption | rfl) rfl ?_
        refine e_bipush (q := 54) dX1_seekCell_52 rfl (by decide) ?_
        refine e_iconst (q := 55) dX1_seekCell_54 rfl ?_
        refine e_Vv (q := 58) (vs := [_, _, _]) ok_X10_pass ml_X1_66 dX1_seekCell_55 rfl ⟨_, _, rfl⟩ (by first | assumption | rfl) rfl rfl (Nat.le_of_ble_eq_true rfl) (by decide) (c_X10_pass (L := 71) (fgT hG0.1 hT) (fgB hG0.1 hB) (fgW hG0.1 hW) hG0.2.2.2.2.2.1 (Or.inr (Or.inr (Or.inr rfl))) (by decide) (by decide) (by omega) (by decide) (by decide)) (fun s55 h55 => ?_)
        have hG2 : LG σ c (i + 1) 20 s55 := LG_step (k := 0) (m := 20) hT hB hG0 h55
        have e76 : s55.1 76 = τ.1 76 := by rw [(h55.1 76 (by decide)).1, (hf0 76 (by decide)).1]
        have e77 : s55.1 77 = τ.1 77 := by rw [(h55.1 77 (by decide)).1, (hf0 77 (by decide)).1]
        refine e_aload_n (q := 59) (i := 0) dX1_seekCell_58 rfl rfl rfl ?_
        refine e_iload_n (q := 60) (i := 2) dX1_seekCell_59 rfl rfl rfl ?_
        refine e_iconst (q := 61) dX1_seekCell_60 rfl ?_
        refine e_iload (q := 63) dX1_seekCell_61 rfl rfl ?_
        refine e_ishl (q := 64) dX1_seekCell_63 rfl (iZ_shl1 h0 (by omega)) ?_
        refine e_Vv (q := 67) (vs := [_, _]) ok_X1_mark ml_X1_82 dX1_seekCell_64 rfl ⟨_, _, rfl⟩ (by first | assumption | rfl) rfl rfl (Nat.le_of_ble_eq_true rfl) (by decide) (c_X1_mark (e := i) (fgT hG2.1 hT) hG2.2.2.2.2.2.1 hp (by omega) (by omega) (fun r a b => by rw [e76, e77, (hR r a b).1, (hR r a b).2]; exact ⟨(zb_lt _).1, (zb_lt _).2, (zb_lt _).1, (zb_lt _).2⟩)) (fun s64 h64 => ?_)
        refine e_iinc (q := 70) (L' := [_, _, _, _, _, _]) dX1_seekCell_67 rfl rfl (by decide) rfl rfl ?_
        refine e_goto (tgt := 19) dX1_seekCell_70 (by decide) ?_
        obtain ⟨hF3, hm6, hm7⟩ := h64
        have e3 : s55.1 3 = σ.1 3 := fgc hG2.1 (by decide) (by decide)
        have e4 : s55.1 4 = σ.1 4 := fgc hG2.1 (by decide) (by decide)
        have hyR := hG2.2.2.2.1
        have t1 : gTop (s55.1 3) (s55.1 72) p = gTop (σ.1 3) (g20 σ c (i + 1)) p := by unfold gTop; rw [e3, show s55.1 72 (4 * p) = g20 σ c (i + 1) (4 * p) from hyR.1 _ (by omega) (by omega)]
        have t2 : gBot (s55.1 3) (s55.1 72) p = gBot (σ.1 3) (g20 σ c (i + 1)) p := by unfold gBot; rw [e3, show s55.1 72 (4 * p + 2) = g20 σ c (i + 1) (4 * p + 2) from hyR.1 _ (by omega) (by omega)]
        have t3 : gLft (s55.1 4) (s55.1 72) p = gLft (σ.1 4) (g20 σ c (i + 1)) p := by unfold gLft; rw [e4, show s55.1 72 (4 * p + 3) = g20 σ c (i + 1) (4 * p + 3) from hyR.1 _ (by omega) (by omega)]
        have t4 : gRgt (s55.1 4) (s55.1 72) p = gRgt (σ.1 4) (g20 σ c (i + 1)) p := by unfold gRgt; rw [e4, show s55.1 72 (4 * p + 1) = g20 σ c (i + 1) (4 * p + 1) from hyR.1 _ (by omega) (by omega)]
        have hv1i : v / 2 ^ i.toNat % 2 = 1 := by omega
        refine ih _ _ _ (by omega) (by omega) (hG2.1.tr (hF3.mono (by decide))) (by rw [(hF3 69 (by decide)).1, (h55.1 69 (by decide)).1, (hf0 69 (by decide)).1]; exact e9) (fun r a b => ⟨?_, ?_⟩)
        · rw [hm6 r a b, e76, (hR r a b).1, t1, t2, zb_succ _ h0]
          by_cases q : gTop (σ.1 3) (g20 σ c (i + 1)) p ≤ r ∧ r ≤ gBot (σ.1 3) (g20 σ c (i + 1)) p
          · rw [if_pos q, if_pos (by unfold rwF; rw [if_pos ⟨hv1i, q⟩])]
          · rw [if_neg q, if_neg (by unfold rwF; rw [if_neg (fun s => q s.2)]; decide), Int.add_zero]
        · rw [hm7 r a b, e77, (hR r a b).2, t3, t4, zb_succ _ h0]
          by_cases q : gLft (σ.1 4) (g20 σ c (i + 1)) p ≤ r ∧ r ≤ gRgt (σ.1 4) (g20 σ c (i + 1)) p
          · rw [if_pos q, if_pos (by unfold clF; rw [if_pos ⟨hv1i, q⟩])]
          · rw [if_neg q, if_neg (by unfold clF; rw [if_neg (fun s => q s.2)]; decide), Int.add_zero]
  exact la 30 _ 0 _ (by decide) (by decide) ((hF0.flI (by decide) _ _).flI (by decide) _ _) (by funext i; rw [flI_1, if_neg (fun q => absurd q.1 (by decide)), flI_1, if_neg (fun q => absurd q.1 (by decide))]) (fun r a b => ⟨by rw [flI_1, if_neg (by omega), flI_1, if_pos ⟨rfl, a, b⟩]; rfl, by rw [flI_1, if_pos ⟨rfl, a, b⟩]; rfl⟩)

theorem c_X11_legsOf {G : Gx} {σ : Sg} {c : Int} (hT : TI σ) (hB : TB σ) (hW : LW σ) (hS : SI σ) (hP : SP σ) (hy1 : ∀ k, ctS σ k → 1 ≤ σ.1 64 k) (hc : R32 c) : Con G 9 mX11_legsOf [.ref (G.2.2.2 + 0), .int (iZ c)] σ (pI (fun z σ' => (¬ (0 ≤ c ∧ c < σ.1 2 3) ∧ z = -1 ∧ σ' = σ) ∨ ((0 ≤ c ∧ c < σ.1 2 3) ∧ z = zb (fun k => fitB (fitC σ c (k + 1))) 30 ∧ Fr [17, 55, 69, 70, 71, 72, 73, 74, 75, 76, 77] σ σ' ∧ (∀ k, 0 ≤ k → k < 24 → σ'.1 69 k = 0 ∨ σ'.1 69 k = 1)))) := by
  obtain ⟨hzz, -, hnp, hnc, hnb, hlb, hrn, hsd, hrw, hrq, hch, hbt, hck⟩ := id hT
  refine e_entry om_X11_legsOf (Nat.le_of_ble_eq_true rfl) (L := [some (.ref (G.2.2.2 + 0)), some (.int (iZ c))]) rfl ?_
  refine e_aload_n (q := 1) (i := 0) dX11_legsOf_0 rfl rfl rfl ?_
  refine e_iload_n (q := 2) (i := 1) dX11_legsOf_1 rfl rfl rfl ?_
  refine e_Vip (q := 5) (vs := [_]) ok_X11_isChild ml_X11_167 dX11_legsOf_2 rfl ⟨_, _, rfl⟩ (by first | assumption | rfl) rfl rfl (Nat.le_of_ble_eq_true rfl) (by decide) (c_X11_isChild hT (by assumption)) ?_
  refine e_if_eq (q := 8) (tgt := 19) dX11_legsOf_5 rfl (by decide) (fun c5 => ?_) (fun c5 => ?_)
  · refine e_iconst (q := 20) dX11_legsOf_19 rfl ?_
    exact r_i dX11_legsOf_20 rfl (Or.inl ⟨by omega, rfl, rfl⟩)
  · refine e_aload_n (q := 9) (i := 0) dX11_legsOf_8 rfl rfl rfl ?_
    refine e_getR (q := 12) dX11_legsOf_9 rfl fg_X11_72 (by first | assumption | rfl) rfl ?_
    refine e_iload_n (q := 13) (i := 1) dX11_legsOf_12 rfl rfl rfl ?_
    refine e_Vi (q := 16) (vs := [_]) ok_X1_legsLeft ml_X11_315 dX11_legsOf_13 rfl ⟨_, _, rfl⟩ (by first | assumption | rfl) rfl rfl (Nat.le_of_ble_eq_true rfl) (by decide) (c_X1_legsLeft hT hB hW hS hP hy1 (by omega) (by omega)) (fun z13 s13 h13 => ?_)
    refine e_goto (tgt := 20) dX11_legsOf_16 (by decide) ?_
    exact r_i dX11_legsOf_20 rfl (Or.inr ⟨by omega, h13.1, h13.2.1, h13.2.2⟩)

set_option maxHeartbeats 4000000 in
theorem c_X11_ask {G : Gx} {σ : Sg} {c p x : Int} (hT : TI σ) (hB : TB σ) (hW : LW σ) (hS : SI σ) (hP : SP σ) (hy1 : ∀ k, ctS σ k → 1 ≤ σ.1 64 k) (hc : R32 c) (hp : R32 p) (hx : R32 x) : Con G 9 mX11_ask [.ref (G.2.2.2 + 0), .int (iZ c), .int (iZ p), .int (iZ x)] σ (pI (fun z σ' => (¬ ((0 ≤ c ∧ c < σ.1 2 3) ∧ (0 ≤ p ∧ p < σ.1 2 2) ∧ 0 ≤ x ∧ x ≤ 1) ∧ z = -1 ∧ σ' = σ) ∨ (((0 ≤ c ∧ c < σ.1 2 3) ∧ (0 ≤ p ∧ p < σ.1 2 2) ∧ 0 ≤ x ∧ x ≤ 1) ∧ (∃ b, akB (woN (σ.1 3) (σ.1 4) (g20 σ c) (zb (fun k => fitB (fitC σ c (k + 1))) 30) p (σ.1 2 0)) ((σ.1 2 0) * (σ.1 2 0)) b ∧ z = if x = 0 then 100 * (b / (σ.1 2 0)) + b % (σ.1 2 0) else (woN (σ.1 3) (σ.1 4) (g20 σ c) (zb (fun k => fitB (fitC σ c (k + 1))) 30) p (σ.1 2 0)) b) ∧ Fr [17, 55, 69, 70, 71, 72, 73, 74, 75, 76, 77] σ σ' ∧ (∀ k, 0 ≤ k → k < 24 → σ'.1 69 k = 0 ∨ σ'.1 69 k = 1)))) := by
  obtain ⟨hzz, -, hnp, hnc, hnb, hlb, hrn, hsd, hrw, hrq, hch, hbt, hck⟩ := id hT
  refine e_entry om_X11_ask (Nat.le_of_ble_eq_true rfl) (L := [some (.ref (G.2.2.2 + 0)), some (.int (iZ c)), some (.int (iZ p)), some (.int (iZ x))]) rfl ?_
  refine e_aload_n (q := 1) (i := 0) dX11_ask_0 rfl rfl rfl ?_
  refine e_iload_n (q := 2) (i := 1) dX11_ask_1 rfl rfl rfl ?_
  refine e_Vip (q := 5) (vs := [_]) ok_X11_isChild ml_X11_167 dX11_ask_2 rfl ⟨_, _, rfl⟩ (by first | assumption | rfl) rfl rfl (Nat.le_of_ble_eq_true rfl) (by decide) (c_X11_isChild hT (by assumption)) ?_
  refine e_if_eq (q := 8) (tgt := 25) dX11_ask_5 rfl (by decide) (fun c5 => ?_) (fun c5 => ?_)
  · refine e_iconst (q := 26) dX11_ask_25 rfl ?_
    exact r_i dX11_ask_26 rfl (Or.inl ⟨by omega, rfl, rfl⟩)
  · refine e_aload_n (q := 9) (i := 0) dX11_ask_8 rfl rfl rfl ?_
    refine e_iload_n (q := 10) (i := 2) dX11_ask_9 rfl rfl rfl ?_
    refine e_Vip (q := 13) (vs := [_]) ok_X11_isParish ml_X11_136 dX11_ask_10 rfl ⟨_, _, rfl⟩ (by first | assumption | rfl) rfl rfl (Nat.le_of_ble_eq_true rfl) (by decide) (c_X11_isParish hT (by assumption)) ?_
    refine e_if_eq (q := 16) (tgt := 25) dX11_ask_13 rfl (by decide) (fun c13 => ?_) (fun c13 => ?_)
    · refine e_iconst (q := 26) dX11_ask_25 rfl ?_
      exact r_i dX11_ask_26 rfl (Or.inl ⟨by omega, rfl, rfl⟩)
    · refine e_iload_n (q := 17) (i := 3) dX11_ask_16 rfl rfl rfl ?_
      refine e_if_lt (q := 20) (tgt := 25) dX11_ask_17 rfl (by decide) (fun c17 => ?_) (fun c17 => ?_)
      · refine e_iconst (q := 26) dX11_ask_25 rfl ?_
        exact r_i dX11_ask_26 rfl (Or.inl ⟨by omega, rfl, rfl⟩)
      · refine e_iload_n (q := 21) (i := 3) dX11_ask_20 rfl rfl rfl ?_
        refine e_iconst (q := 22) dX11_ask_21 rfl ?_
        refine e_icmp_le (q := 25) (tgt := 27) dX11_ask_22 rfl (by decide) (fun c22 => ?_) (fun c22 => ?_)
        · refine e_aload_n (q := 28) (i := 0) dX11_ask_27 rfl rfl rfl ?_
          refine e_getR (q := 31) dX11_ask_28 rfl fg_X11_72 (by first | assumption | rfl) rfl ?_
          refine e_iload_n (q := 32) (i := 1) dX11_ask_31 rfl rfl rfl ?_
          refine e_iload_n (q := 33) (i := 2) dX11_ask_32 rfl rfl rfl ?_
          refine e_aload_n (q := 34) (i := 0) dX11_ask_33 rfl rfl rfl ?_
          refine e_getR (q := 37) dX11_ask_34 rfl fg_X11_72 (by first | assumption | rfl) rfl ?_
          refine e_iload_n (q := 38) (i := 1) dX11_ask_37 rfl rfl rfl ?_
          refine e_Vi (q := 41) (vs := [_]) ok_X1_legsLeft ml_X11_315 dX11_ask_38 rfl ⟨_, _, rfl⟩ (by first | assumption | rfl) rfl rfl (Nat.le_of_ble_eq_true rfl) (by decide) (c_X1_legsLeft hT hB hW hS hP hy1 (by omega) (by omega)) (fun z38 s38 h38 => ?_)
          obtain ⟨hz, hF, h9⟩ := h38
          have hzl := zb_lt (fun k => fitB (fitC σ c (k + 1))) (i := 30)
          rw [show (2 : Int) ^ (30 : Int).toNat = 1073741824 by decide] at hzl
          refine e_Vv (q := 44) (vs := [_, _, _]) ok_X1_seekCell ml_X11_318 dX11_ask_41 rfl ⟨_, _, rfl⟩ (by first | assumption | rfl) rfl rfl (Nat.le_of_ble_eq_true rfl) (by decide) (c_X1_seekCell hT hB hW hF (by omega) (by omega) (by omega) (by omega) (by rw [hz]; exact hzl.1) (by rw [hz]; exact hzl.2)) (fun s41 h41 => ?_)
          obtain ⟨hF2, e9, b, hb, h7, h6⟩ := h41
          have h9 : (∀ k, 0 ≤ k → k < 24 → s41.1 69 k = 0 ∨ s41.1 69 k = 1) := fun k a b => by rw [e9]; exact h9 k a b
          rw [hz] at hb h7
          refine e_iload_n (q := 45) (i := 3) dX11_ask_44 rfl rfl rfl ?_
          refine e_if_ne (q := 48) (tgt := 58) dX11_ask_45 rfl (by decide) (fun c45 => ?_) (fun c45 => ?_)
          · refine e_aload_n (q := 59) (i := 0) dX11_ask_58 rfl rfl rfl ?_
            refine e_getR (q := 62) dX11_ask_59 rfl fg_X11_72 (by first | assumption | rfl) rfl ?_
            refine e_getI (q := 65) (jz := 7) dX11_ask_62 rfl fg_X11_325 rfl (by first | assumption | rfl) rfl ?_
            exact r_i dX11_ask_65 rfl (Or.inr ⟨by omega, ⟨b, hb, by rw [if_neg c45]; exact h7⟩, hF2, h9⟩)
          · refine e_aload_n (q := 49) (i := 0) dX11_ask_48 rfl rfl rfl ?_
            refine e_getR (q := 52) dX11_ask_49 rfl fg_X11_72 (by first | assumption | rfl) rfl ?_
            refine e_getI (q := 55) (jz := 6) dX11_ask_52 rfl fg_X11_322 rfl (by first | assumption | rfl) rfl ?_
            refine e_goto (tgt := 65) dX11_ask_55 (by decide) ?_
            exact r_i dX11_ask_65 rfl (Or.inr ⟨by omega, ⟨b, hb, by rw [if_pos c45]; exact h6⟩, hF2, h9⟩)
        · refine e_iconst (q := 26) dX11_ask_25 rfl ?_
          exact r_i dX11_ask_26 rfl (Or.inl ⟨by omega, rfl, rfl⟩)

