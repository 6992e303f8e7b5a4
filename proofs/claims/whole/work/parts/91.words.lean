/-! ===== contracts that leave a growing world as it is ===== -/
def nE (ω : Wn) (z : Int) : Option Value → Wn → Prop := fun r ω' => r = some (.int (iZ z)) ∧ ω' = ω
def nV (ω : Wn) : Option Value → Wn → Prop := fun r ω' => r = none ∧ ω' = ω
section KP
variable {G : Gx} {R : Room} {M : Mt} {Fx : Fq} {Q : Qq} {ω : Wn} {kc ks : Nat} {pc q : Nat} {L : List (Option Value)} {st : List Value}
theorem k_ri {Post : Option Value → Wn → Prop} {z : Int} {mc ms : Nat} (hd : decode M.2.1 pc = .ok (.ireturn, 1)) (hM : M.2.2.2 = some .int) (hp : Post (some (.int (iZ z))) ω) (hc : kc ≤ mc := by decide) (hs : ks ≤ ms := by decide) : K G R M Fx (kQ G Post mc ms) ω kc ks pc L [.int (iZ z)] := k_nret hd hM rfl hc hs hp
theorem k_rz {Post : Option Value → Wn → Prop} {z : Int} {mc ms : Nat} (hd : decode M.2.1 pc = .ok (.ireturn, 1)) (hM : M.2.2.2 = some .boolean) (hb : z = 0 ∨ z = 1) (hp : Post (some (.int (iZ z))) ω) (hc : kc ≤ mc := by decide) (hs : ks ≤ ms := by decide) : K G R M Fx (kQ G Post mc ms) ω kc ks pc L [.int (iZ z)] := k_nret hd hM (by rcases hb with rfl | rfl <;> rfl) hc hs hp
theorem k_rn {Post : Option Value → Wn → Prop} {z : Int} {mc ms : Nat} {ty : FieldType} (hd : decode M.2.1 pc = .ok (.ireturn, 1)) (hM : M.2.2.2 = some ty) (hn : narrow ty (.int (iZ z)) = .int (iZ z)) (hp : Post (some (.int (iZ z))) ω) (hc : kc ≤ mc := by decide) (hs : ks ≤ ms := by decide) : K G R M Fx (kQ G Post mc ms) ω kc ks pc L [.int (iZ z)] := k_nret hd hM hn hc hs hp
theorem k_rv {Post : Option Value → Wn → Prop} {mc ms : Nat} (hd : decode M.2.1 pc = .ok (.return_, 1)) (hM : M.2.2.2 = none) (hp : Post none ω) (hc : kc ≤ mc := by decide) (hs : ks ≤ ms := by decide) : K G R M Fx (kQ G Post mc ms) ω kc ks pc L [] := k_vret hd hM hc hs hp
theorem k_Sip {M' : Mt} {n idx d' : Nat} {vs rest : List Value} {z : Int} (ok : OkS M' n) (hl : Cond.methodLink M.1.cls idx M'.1 ∈ lw_good) (hd : decode M.2.1 pc = .ok (.invokestatic idx, 3)) (hq : pc + 3 = q) (hn : vs.length = n) (hst : st = vs.reverse ++ rest) (hr : (rest.map fun v => v.category).sum ≤ 8) (hdd : d' + 1 ≤ R.frames) (con : CKn G d' 0 0 M' vs ω (nE ω z)) (k : K G R M Fx Q ω kc ks q L (.int (iZ z) :: rest)) (hlo : 64 * d' + 64 ≤ R.locals := by decide) (hc : kc + 0 ≤ R.cells := by decide) (hs : ks + 0 ≤ R.slots := by decide) : K G R M Fx Q ω kc ks pc L st :=
  k_callS ok hl hd hq hn hst hr hdd hlo hc hs con (fun r ω' h => by obtain ⟨rfl, rfl⟩ := h; exact k)
theorem k_Svp {M' : Mt} {n idx d' : Nat} {vs rest : List Value} (ok : OkS M' n) (hl : Cond.methodLink M.1.cls idx M'.1 ∈ lw_good) (hd : decode M.2.1 pc = .ok (.invokestatic idx, 3)) (hq : pc + 3 = q) (hn : vs.length = n) (hst : st = vs.reverse ++ rest) (hr : (rest.map fun v => v.category).sum ≤ 8) (hdd : d' + 1 ≤ R.frames) (con : CKn G d' 0 0 M' vs ω (nV ω)) (k : K G R M Fx Q ω kc ks q L rest) (hlo : 64 * d' + 64 ≤ R.locals := by decide) (hc : kc + 0 ≤ R.cells := by decide) (hs : ks + 0 ≤ R.slots := by decide) : K G R M Fx Q ω kc ks pc L st :=
  k_callS ok hl hd hq hn hst hr hdd hlo hc hs con (fun r ω' h => by obtain ⟨rfl, rfl⟩ := h; exact k)
theorem k_VipS {M' : Mt} {n idx d' i : Nat} {vs rest : List Value} {z : Int} (ok : OkV M' n) (hl : Cond.methodLink M.1.cls idx M'.1 ∈ lw_good) (hd : decode M.2.1 pc = .ok (.invokevirtual idx, 3)) (hq : pc + 3 = q) (hC : M'.1.cls = "java/lang/String") (hi : i < 5) (hn : vs.length = n) (hst : st = vs.reverse ++ .ref (gSA G i) :: rest) (hr : (rest.map fun v => v.category).sum ≤ 8) (hdd : d' + 1 ≤ R.frames) (con : CKn G d' 0 0 M' (.ref (gSA G i) :: vs) ω (nE ω z)) (k : K G R M Fx Q ω kc ks q L (.int (iZ z) :: rest)) (hlo : 64 * d' + 64 ≤ R.locals := by decide) (hc : kc ≤ R.cells := by decide) (hs : ks ≤ R.slots := by decide) : K G R M Fx Q ω kc ks pc L st :=
  k_VS ok hl hd hq hC hi hn hst hr hdd hlo hc hs con (fun r ω' h => by obtain ⟨rfl, rfl⟩ := h; exact k)
end KP
theorem n_J3_checkIndex {G : Gx} {ω : Wn} {a n : Int} {v : Value} (hv : v = .null ∨ ∃ t, v = .ref t) (h0 : 0 ≤ a) (h1 : a < n) (hn : n ≤ 2147483647) : CKn G 1 0 0 mJ3_checkIndex_8e157 [.int (iZ a), .int (iZ n), v] ω (nE ω a) := by
  rcases hv with rfl | ⟨t, rfl⟩
  · refine k_entry om_J3_checkIndex_8e157 (Nat.le_of_ble_eq_true rfl) (L := [some (.int (iZ a)), some (.int (iZ n)), some .null]) rfl ?_
    refine k_iload_n (q := 1) (i := 0) dJ3_checkIndex_8e157_0 rfl rfl rfl ?_
    refine k_if_lt (q := 4) (tgt := 9) dJ3_checkIndex_8e157_1 rfl (by decide) (fun c1 => absurd c1 (by omega)) (fun c1 => ?_)
    refine k_iload_n (q := 5) (i := 0) dJ3_checkIndex_8e157_4 rfl rfl rfl ?_
    refine k_iload_n (q := 6) (i := 1) dJ3_checkIndex_8e157_5 rfl rfl rfl ?_
    refine k_icmp_lt (q := 9) (tgt := 16) dJ3_checkIndex_8e157_6 rfl (by decide) (fun c6 => ?_) (fun c6 => absurd h1 c6)
    refine k_iload_n (q := 17) (i := 0) dJ3_checkIndex_8e157_16 rfl rfl rfl ?_
    exact k_ri dJ3_checkIndex_8e157_17 rfl ⟨rfl, rfl⟩
  · refine k_entry om_J3_checkIndex_8e157 (Nat.le_of_ble_eq_true rfl) (L := [some (.int (iZ a)), some (.int (iZ n)), some (.ref t)]) rfl ?_
    refine k_iload_n (q := 1) (i := 0) dJ3_checkIndex_8e157_0 rfl rfl rfl ?_
    refine k_if_lt (q := 4) (tgt := 9) dJ3_checkIndex_8e157_1 rfl (by decide) (fun c1 => absurd c1 (by omega)) (fun c1 => ?_)
    refine k_iload_n (q := 5) (i := 0) dJ3_checkIndex_8e157_4 rfl rfl rfl ?_
    refine k_iload_n (q := 6) (i := 1) dJ3_checkIndex_8e157_5 rfl rfl rfl ?_
    refine k_icmp_lt (q := 9) (tgt := 16) dJ3_checkIndex_8e157_6 rfl (by decide) (fun c6 => ?_) (fun c6 => absurd h1 c6)
    refine k_iload_n (q := 17) (i := 0) dJ3_checkIndex_8e157_16 rfl rfl rfl ?_
    exact k_ri dJ3_checkIndex_8e157_17 rfl ⟨rfl, rfl⟩
theorem n_J0_checkIndex {G : Gx} {ω : Wn} {a n : Int} (h0 : 0 ≤ a) (h1 : a < n) (hn : n ≤ 2147483647) : CKn G 2 0 0 mJ0_checkIndex_df160 [.int (iZ a), .int (iZ n)] ω (nV ω) := by
  refine k_entry om_J0_checkIndex_df160 (Nat.le_of_ble_eq_true rfl) (L := [some (.int (iZ a)), some (.int (iZ n))]) rfl ?_
  refine k_iload_n (q := 1) (i := 0) dJ0_checkIndex_df160_0 rfl rfl rfl ?_
  refine k_iload_n (q := 2) (i := 1) dJ0_checkIndex_df160_1 rfl rfl rfl ?_
  refine k_getsQ (q := 5) dJ0_checkIndex_df160_2 rfl fs_for (fun v hv => ?_)
  refine k_Sip (q := 8) (vs := [_, _, _]) ok_J3_checkIndex_8e157 ml_J0_1059 dJ0_checkIndex_df160_5 rfl rfl rfl (Nat.le_of_ble_eq_true rfl) (by decide) (n_J3_checkIndex hv h0 h1 hn) ?_
  refine k_pop (q := 9) dJ0_checkIndex_df160_8 rfl rfl ?_
  exact k_rv dJ0_checkIndex_df160_9 rfl ⟨rfl, rfl⟩
theorem n_J1_charAt {G : Gx} {ω : Wn} {i : Nat} {z : Int} (hi : i < 5) (h0 : 0 ≤ z) (hz : z < strL.getD i 0) : CKn G 3 0 0 mJ1_charAt_3b067 [.ref (gSV G i), .int (iZ z)] ω (nE ω (chV i z)) := by
  obtain ⟨hl, hs, -⟩ := str_all i hi
  have hc := chV_in hi h0 hz
  have hn := nar_c hc.1 hc.2
  refine k_entry om_J1_charAt_3b067 (Nat.le_of_ble_eq_true rfl) (L := [some (.ref (gSV G i)), some (.int (iZ z))]) rfl ?_
  refine k_iload_n (q := 1) (i := 1) dJ1_charAt_3b067_0 rfl rfl rfl ?_
  refine k_aload_n (q := 2) (i := 0) dJ1_charAt_3b067_1 rfl rfl rfl ?_
  refine k_slen (q := 3) (nz := (strL.getD i 0 : Nat)) hi (show Int32.ofNat _ = Int32.ofInt _ from rfl) dJ1_charAt_3b067_2 rfl ?_
  refine k_Svp (q := 6) (vs := [_, _]) ok_J0_checkIndex_df160 ml_J1_9 dJ1_charAt_3b067_3 rfl rfl rfl (Nat.le_of_ble_eq_true rfl) (by decide) (n_J0_checkIndex h0 hz (by omega)) ?_
  refine k_aload_n (q := 7) (i := 0) dJ1_charAt_3b067_6 rfl rfl rfl ?_
  refine k_iload_n (q := 8) (i := 1) dJ1_charAt_3b067_7 rfl rfl rfl ?_
  refine k_sbald (q := 9) (v := chV i z) hi h0 hz hs (iZ_of _).symm dJ1_charAt_3b067_8 rfl ?_
  refine k_sipush (q := 12) dJ1_charAt_3b067_9 rfl (by decide) ?_
  refine k_iand (q := 13) dJ1_charAt_3b067_12 rfl (show iZ (chV i z) &&& iZ 255 = iZ (chV i z) from by
    have : ∀ k : Nat, k < 128 → iZ k &&& iZ 255 = iZ k := by decide +kernel
    obtain ⟨k, hk⟩ := Int.eq_ofNat_of_zero_le hc.1
    rw [hk]
    exact this k (by omega)) ?_
  refine k_i2c (q := 14) dJ1_charAt_3b067_13 rfl hn.2 ?_
  exact k_rn dJ1_charAt_3b067_14 rfl hn.1 ⟨rfl, rfl⟩
theorem n_J0_isLatin1 {G : Gx} {ω : Wn} {i : Nat} (hi : i < 5) : CKn G 1 0 0 mJ0_isLatin1_aae02 [.ref (gSA G i)] ω (nE ω 1) := by
  refine k_entry om_J0_isLatin1_aae02 (Nat.le_of_ble_eq_true rfl) (L := [some (.ref (gSA G i))]) rfl ?_
  refine k_gets1 (q := 3) dJ0_isLatin1_aae02_0 rfl fs_com ?_
  refine k_if_eq (q := 6) (tgt := 17) dJ0_isLatin1_aae02_3 rfl (by decide) (fun c3 => absurd c3 (by decide)) (fun c3 => ?_)
  refine k_aload_n (q := 7) (i := 0) dJ0_isLatin1_aae02_6 rfl rfl rfl ?_
  refine k_sgetC (q := 10) hi dJ0_isLatin1_aae02_7 rfl fs_cod ?_
  refine k_if_ne (q := 13) (tgt := 17) dJ0_isLatin1_aae02_10 rfl (by decide) (fun c10 => absurd rfl c10) (fun c10 => ?_)
  refine k_iconst (q := 14) dJ0_isLatin1_aae02_13 rfl ?_
  refine k_goto (tgt := 18) dJ0_isLatin1_aae02_14 (by decide) ?_
  exact k_rz dJ0_isLatin1_aae02_18 rfl (Or.inr rfl) ⟨rfl, rfl⟩
theorem n_J0_coder {G : Gx} {ω : Wn} {i : Nat} (hi : i < 5) : CKn G 1 0 0 mJ0_coder_7d493 [.ref (gSA G i)] ω (nE ω 0) := by
  refine k_entry om_J0_coder_7d493 (Nat.le_of_ble_eq_true rfl) (L := [some (.ref (gSA G i))]) rfl ?_
  refine k_gets1 (q := 3) dJ0_coder_7d493_0 rfl fs_com ?_
  refine k_if_eq (q := 6) (tgt := 13) dJ0_coder_7d493_3 rfl (by decide) (fun c3 => absurd c3 (by decide)) (fun c3 => ?_)
  refine k_aload_n (q := 7) (i := 0) dJ0_coder_7d493_6 rfl rfl rfl ?_
  refine k_sgetC (q := 10) hi dJ0_coder_7d493_7 rfl fs_cod ?_
  refine k_goto (tgt := 14) dJ0_coder_7d493_10 (by decide) ?_
  exact k_rn dJ0_coder_7d493_14 rfl (by decide) ⟨rfl, rfl⟩
theorem n_charAt {G : Gx} {ω : Wn} {i : Nat} {z : Int} (hi : i < 5) (h0 : 0 ≤ z) (hz : z < strL.getD i 0) : CKn G 4 0 0 mJ0_charAt_5068e [.ref (gSA G i), .int (iZ z)] ω (nE ω (chV i z)) := by
  have hc := chV_in hi h0 hz
  have hn := nar_c hc.1 hc.2
  refine k_entry om_J0_charAt_5068e (Nat.le_of_ble_eq_true rfl) (L := [some (.ref (gSA G i)), some (.int (iZ z))]) rfl ?_
  refine k_aload_n (q := 1) (i := 0) dJ0_charAt_5068e_0 rfl rfl rfl ?_
  refine k_VipS (q := 4) (vs := []) ok_J0_isLatin1_aae02 ml_J0_492 dJ0_charAt_5068e_1 rfl rfl hi rfl rfl (Nat.le_of_ble_eq_true rfl) (by decide) (n_J0_isLatin1 hi) ?_
  refine k_if_eq (q := 7) (tgt := 16) dJ0_charAt_5068e_4 rfl (by decide) (fun c3 => absurd c3 (by decide)) (fun c3 => ?_)
  refine k_aload_n (q := 8) (i := 0) dJ0_charAt_5068e_7 rfl rfl rfl ?_
  refine k_sgetV (q := 11) hi dJ0_charAt_5068e_8 rfl fs_val ?_
  refine k_iload_n (q := 12) (i := 1) dJ0_charAt_5068e_11 rfl rfl rfl ?_
  refine k_Sip (q := 15) (vs := [_, _]) ok_J1_charAt_3b067 ml_J0_495 dJ0_charAt_5068e_12 rfl rfl rfl (Nat.le_of_ble_eq_true rfl) (by decide) (n_J1_charAt hi h0 hz) ?_
  exact k_rn dJ0_charAt_5068e_15 rfl hn.1 ⟨rfl, rfl⟩
theorem n_length {G : Gx} {ω : Wn} {i : Nat} {nz : Int} (hi : i < 5) (hnz : ((strL.getD i 0 : Nat) : Int) = nz) : CKn G 2 0 0 mJ0_length_8abf5 [.ref (gSA G i)] ω (nE ω nz) := by
  obtain ⟨hl, hs, -⟩ := str_all i hi
  have hle : ∀ i, i < 5 → Int32.ofNat (strL.getD i 0) >>> (iZ 0 &&& 31) = Int32.ofNat (strL.getD i 0) := by decide +kernel
  refine k_entry om_J0_length_8abf5 (Nat.le_of_ble_eq_true rfl) (L := [some (.ref (gSA G i))]) rfl ?_
  refine k_aload_n (q := 1) (i := 0) dJ0_length_8abf5_0 rfl rfl rfl ?_
  refine k_sgetV (q := 4) hi dJ0_length_8abf5_1 rfl fs_val ?_
  refine k_slen (q := 5) (nz := nz) hi (by rw [← hnz]; rfl) dJ0_length_8abf5_4 rfl ?_
  refine k_aload_n (q := 6) (i := 0) dJ0_length_8abf5_5 rfl rfl rfl ?_
  refine k_VipS (q := 9) (vs := []) ok_J0_coder_7d493 ml_J0_335 dJ0_length_8abf5_6 rfl rfl hi rfl rfl (Nat.le_of_ble_eq_true rfl) (by decide) (n_J0_coder hi) ?_
  refine k_ishr (q := 10) (z := nz) dJ0_length_8abf5_9 rfl (by rw [← hnz]; exact hle i hi) ?_
  exact k_ri dJ0_length_8abf5_10 rfl ⟨rfl, rfl⟩
theorem n_X8_packed {G : Gx} {ω : Wn} {l q : Int} (hl0 : 97 ≤ l) (hl1 : l ≤ 122) (hq0 : 0 ≤ q) (hq6 : q < 6) : CKn G 1 0 0 mX8_packed [.int (iZ l), .int (iZ q)] ω (nE ω ((l - 96) * 32 ^ (5 - q).toNat)) := by
  refine k_entry om_X8_packed (Nat.le_of_ble_eq_true rfl) (L := [some (.int (iZ l)), some (.int (iZ q))]) rfl ?_
  refine k_iload_n (q := 1) (i := 0) dX8_packed_0 rfl rfl rfl ?_
  refine k_bipush (q := 3) dX8_packed_1 rfl (by decide) ?_
  refine k_isub (q := 4) dX8_packed_3 rfl ?_
  refine k_iconst (q := 5) dX8_packed_4 rfl ?_
  refine k_iadd (q := 6) dX8_packed_5 rfl ?_
  refine k_iconst (q := 7) dX8_packed_6 rfl ?_
  refine k_iconst (q := 8) dX8_packed_7 rfl ?_
  refine k_iload_n (q := 9) (i := 1) dX8_packed_8 rfl rfl rfl ?_
  refine k_isub (q := 10) dX8_packed_9 rfl ?_
  refine k_imul (q := 11) dX8_packed_10 rfl ?_
  rw [show l - 97 + 1 = l - 96 by omega]
  refine k_ishl (q := 12) dX8_packed_11 rfl (iZ_pack (by omega) (by omega) hq0 hq6) ?_
  exact k_ri dX8_packed_12 rfl ⟨rfl, rfl⟩

def pwA (i : Nat) (w : Int) : Nat → Int
  | 0 => 0
  | t + 1 => if chV i (6 * w + t) = 32 then pwA i w t else (iZ (pwA i w t) ||| iZ ((chV i (6 * w + t) - 96) * 32 ^ (5 - (t : Int)).toNat)).toInt
theorem ch_ok : ∀ i, i = 1 ∨ i = 2 → ∀ z : Nat, z < strL.getD i 0 → chV i z = 32 ∨ (97 ≤ chV i z ∧ chV i z ≤ 122) := by
  intro i hi
  rcases hi with rfl | rfl <;> decide +kernel
theorem pwA_in {i : Nat} {w : Int} : ∀ t, R32 (pwA i w t)
  | 0 => R32_0
  | t + 1 => by
    show R32 (if _ then _ else _)
    split
    · exact pwA_in t
    · exact R32_of _
theorem n_packedWord {G : Gx} {ω : Wn} {i : Nat} {w : Int} (hi : i = 1 ∨ i = 2) (h0 : 0 ≤ w) (h1 : 6 * w + 6 ≤ strL.getD i 0) : CKn G 5 0 0 mX8_packedWord [.ref (gSA G i), .int (iZ w)] ω (nE ω (pwA i w 6)) := by
  have hi5 : i < 5 := by omega
  have hsm : strL.getD i 0 ≤ 104 := by rcases hi with rfl | rfl <;> decide
  have lp : ∀ (n t : Nat), t + n = 6 → K G (nR 5 0 0) mX8_packedWord kT (kQ G (nE ω (pwA i w 6)) 0 0) ω 0 0 4 [some (.ref (gSA G i)), some (.int (iZ w)), some (.int (iZ (pwA i w t))), some (.int (iZ t)), none] [] := by
    intro n
    induction n with
    | zero =>
      intro t ht
      have ht : t = 6 := by omega
      subst ht
      refine k_iload_n (q := 5) (i := 3) dX8_packedWord_4 rfl rfl rfl ?_
      refine k_bipush (q := 7) dX8_packedWord_5 rfl (by decide) ?_
      refine k_icmp_ge (q := 10) (tgt := 57) dX8_packedWord_7 rfl (by decide) (fun c7 => ?_) (fun c7 => by exfalso; omega)
      refine k_iload_n (q := 58) (i := 2) dX8_packedWord_57 rfl rfl rfl ?_
      exact k_ri dX8_packedWord_58 rfl ⟨rfl, rfl⟩
    | succ n ih =>
      intro t ht
      have hp := pwA_in (i := i) (w := w) t
      have hch := ch_ok i hi (6 * w + t).toNat (by omega)
      rw [show (((6 * w + (t : Int)).toNat : Nat) : Int) = 6 * w + t by omega] at hch
      refine k_iload_n (q := 5) (i := 3) dX8_packedWord_4 rfl rfl rfl ?_
      refine k_bipush (q := 7) dX8_packedWord_5 rfl (by decide) ?_
      refine k_icmp_ge (q := 10) (tgt := 57) dX8_packedWord_7 rfl (by decide) (fun c7 => by exfalso; omega) (fun c7 => ?_)
      refine k_bipush (q := 12) dX8_packedWord_10 rfl (by decide) ?_
      refine k_iload_n (q := 13) (i := 1) dX8_packedWord_12 rfl rfl rfl ?_
      refine k_imul (q := 14) dX8_packedWord_13 rfl ?_
      refine k_iload_n (q := 15) (i := 3) dX8_packedWord_14 rfl rfl rfl ?_
      refine k_iadd (q := 16) dX8_packedWord_15 rfl ?_
      refine k_aload_n (q := 17) (i := 0) dX8_packedWord_16 rfl rfl rfl ?_
      refine k_VipS (q := 20) (vs := []) ok_J0_length_8abf5 ml_X8_82 dX8_packedWord_17 rfl rfl hi5 rfl rfl (Nat.le_of_ble_eq_true rfl) (by decide) (n_length hi5 rfl) ?_
      refine k_icmp_ge (q := 23) (tgt := 57) dX8_packedWord_20 rfl (by decide) (fun c20 => by exfalso; omega) (fun c20 => ?_)
      refine k_aload_n (q := 24) (i := 0) dX8_packedWord_23 rfl rfl rfl ?_
      refine k_bipush (q := 26) dX8_packedWord_24 rfl (by decide) ?_
      refine k_iload_n (q := 27) (i := 1) dX8_packedWord_26 rfl rfl rfl ?_
      refine k_imul (q := 28) dX8_packedWord_27 rfl ?_
      refine k_iload_n (q := 29) (i := 3) dX8_packedWord_28 rfl rfl rfl ?_
      refine k_iadd (q := 30) dX8_packedWord_29 rfl ?_
      refine k_VipS (q := 33) (vs := [_]) ok_J0_charAt_5068e ml_X8_86 dX8_packedWord_30 rfl rfl hi5 rfl rfl (Nat.le_of_ble_eq_true rfl) (by decide) (n_charAt hi5 (by omega) (by omega)) ?_
      refine k_istore (q := 35) (L' := [_, _, _, _, _]) dX8_packedWord_33 rfl (by decide) rfl rfl ?_
      refine k_iload (q := 37) dX8_packedWord_35 rfl rfl ?_
      refine k_bipush (q := 39) dX8_packedWord_37 rfl (by decide) ?_
      refine k_icmp_eq (q := 42) (tgt := 51) dX8_packedWord_39 rfl (by decide) (fun c39 => ?_) (fun c39 => ?_) (hx := ⟨by omega, by omega⟩)
      · refine k_iinc (q := 54) (L' := [_, _, _, _, _]) dX8_packedWord_51 rfl rfl (by decide) rfl rfl ?_
        refine k_goto (tgt := 4) dX8_packedWord_54 (by decide) ?_
        have e1 : pwA i w (t + 1) = pwA i w t := if_pos c39
        have h9 := ih (t + 1) (by omega)
        rw [e1, show (((t + 1 : Nat)) : Int) = (t : Int) + 1 by omega] at h9
        exact k_sub _ (fun i v h => by rcases i with _ | _ | _ | _ | _ | i <;> first | exact h | cases h) h9
      · refine k_iload_n (q := 43) (i := 2) dX8_packedWord_42 rfl rfl rfl ?_
        refine k_iload (q := 45) dX8_packedWord_43 rfl rfl ?_
        refine k_iload_n (q := 46) (i := 3) dX8_packedWord_45 rfl rfl rfl ?_
        refine k_Sip (q := 49) (vs := [_, _]) ok_X8_packed ml_X8_79 dX8_packedWord_46 rfl rfl rfl (Nat.le_of_ble_eq_true rfl) (by decide) (n_X8_packed (by omega) (by omega) (by omega) (by omega)) ?_
        refine k_ior (q := 50) dX8_packedWord_49 rfl (iZ_of _).symm ?_
        refine k_istore_n (q := 51) (i := 2) (L' := [_, _, _, _, _]) dX8_packedWord_50 rfl rfl (by decide) rfl rfl ?_
        refine k_iinc (q := 54) (L' := [_, _, _, _, _]) dX8_packedWord_51 rfl rfl (by decide) rfl rfl ?_
        refine k_goto (tgt := 4) dX8_packedWord_54 (by decide) ?_
        have e1 : pwA i w (t + 1) = (iZ (pwA i w t) ||| iZ ((chV i (6 * w + t) - 96) * 32 ^ (5 - (t : Int)).toNat)).toInt := if_neg c39
        have h9 := ih (t + 1) (by omega)
        rw [e1, show (((t + 1 : Nat)) : Int) = (t : Int) + 1 by omega] at h9
        exact k_sub _ (fun i v h => by rcases i with _ | _ | _ | _ | _ | i <;> first | exact h | cases h) h9
  refine k_entry om_X8_packedWord (Nat.le_of_ble_eq_true rfl) (L := [some (.ref (gSA G i)), some (.int (iZ w)), none, none, none]) rfl ?_
  refine k_iconst (q := 1) dX8_packedWord_0 rfl ?_
  refine k_istore_n (q := 2) (i := 2) (L' := [_, _, _, _, _]) dX8_packedWord_1 rfl rfl (by decide) rfl rfl ?_
  refine k_iconst (q := 3) dX8_packedWord_2 rfl ?_
  refine k_istore_n (q := 4) (i := 3) (L' := [_, _, _, _, _]) dX8_packedWord_3 rfl rfl (by decide) rfl rfl ?_
  exact lp 6 0 rfl
theorem pw_wv : ∀ k : Nat, k < 21 → pwA (if k < 11 then 1 else 2) (if k < 11 then (k : Int) else k - 11) 6 = wv k := by decide +kernel
