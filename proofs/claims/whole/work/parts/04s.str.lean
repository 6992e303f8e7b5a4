theorem dJ0_charAt_5068e_0 : decode cJ0_charAt_5068e 0 = .ok (.aload_n 0, 1) := by decide +kernel
theorem dJ0_charAt_5068e_1 : decode cJ0_charAt_5068e 1 = .ok (.invokevirtual 492, 3) := by decide +kernel
theorem dJ0_charAt_5068e_4 : decode cJ0_charAt_5068e 4 = .ok (.ifCond .eq 12, 3) := by decide +kernel
theorem dJ0_charAt_5068e_7 : decode cJ0_charAt_5068e 7 = .ok (.aload_n 0, 1) := by decide +kernel
theorem dJ0_charAt_5068e_8 : decode cJ0_charAt_5068e 8 = .ok (.getfield 9, 3) := by decide +kernel
theorem dJ0_charAt_5068e_11 : decode cJ0_charAt_5068e 11 = .ok (.iload_n 1, 1) := by decide +kernel
theorem dJ0_charAt_5068e_12 : decode cJ0_charAt_5068e 12 = .ok (.invokestatic 495, 3) := by decide +kernel
theorem dJ0_charAt_5068e_15 : decode cJ0_charAt_5068e 15 = .ok (.ireturn, 1) := by decide +kernel
theorem dJ0_charAt_5068e_16 : decode cJ0_charAt_5068e 16 = .ok (.aload_n 0, 1) := by decide +kernel
theorem dJ0_charAt_5068e_17 : decode cJ0_charAt_5068e 17 = .ok (.getfield 9, 3) := by decide +kernel
theorem dJ0_charAt_5068e_20 : decode cJ0_charAt_5068e 20 = .ok (.iload_n 1, 1) := by decide +kernel
theorem dJ0_charAt_5068e_21 : decode cJ0_charAt_5068e 21 = .ok (.invokestatic 498, 3) := by decide +kernel
theorem dJ0_charAt_5068e_24 : decode cJ0_charAt_5068e 24 = .ok (.ireturn, 1) := by decide +kernel
theorem dJ0_isLatin1_aae02_0 : decode cJ0_isLatin1_aae02 0 = .ok (.getstatic 38, 3) := by decide +kernel
theorem dJ0_isLatin1_aae02_3 : decode cJ0_isLatin1_aae02 3 = .ok (.ifCond .eq 14, 3) := by decide +kernel
theorem dJ0_isLatin1_aae02_6 : decode cJ0_isLatin1_aae02 6 = .ok (.aload_n 0, 1) := by decide +kernel
theorem dJ0_isLatin1_aae02_7 : decode cJ0_isLatin1_aae02 7 = .ok (.getfield 15, 3) := by decide +kernel
theorem dJ0_isLatin1_aae02_10 : decode cJ0_isLatin1_aae02 10 = .ok (.ifCond .ne 7, 3) := by decide +kernel
theorem dJ0_isLatin1_aae02_13 : decode cJ0_isLatin1_aae02 13 = .ok (.iconst 1, 1) := by decide +kernel
theorem dJ0_isLatin1_aae02_14 : decode cJ0_isLatin1_aae02 14 = .ok (.goto 4, 3) := by decide +kernel
theorem dJ0_isLatin1_aae02_17 : decode cJ0_isLatin1_aae02 17 = .ok (.iconst 0, 1) := by decide +kernel
theorem dJ0_isLatin1_aae02_18 : decode cJ0_isLatin1_aae02 18 = .ok (.ireturn, 1) := by decide +kernel
theorem dJ0_coder_7d493_0 : decode cJ0_coder_7d493 0 = .ok (.getstatic 38, 3) := by decide +kernel
theorem dJ0_coder_7d493_3 : decode cJ0_coder_7d493 3 = .ok (.ifCond .eq 10, 3) := by decide +kernel
theorem dJ0_coder_7d493_6 : decode cJ0_coder_7d493 6 = .ok (.aload_n 0, 1) := by decide +kernel
theorem dJ0_coder_7d493_7 : decode cJ0_coder_7d493 7 = .ok (.getfield 15, 3) := by decide +kernel
theorem dJ0_coder_7d493_10 : decode cJ0_coder_7d493 10 = .ok (.goto 4, 3) := by decide +kernel
theorem dJ0_coder_7d493_13 : decode cJ0_coder_7d493 13 = .ok (.iconst 1, 1) := by decide +kernel
theorem dJ0_coder_7d493_14 : decode cJ0_coder_7d493 14 = .ok (.ireturn, 1) := by decide +kernel
theorem dJ0_length_8abf5_0 : decode cJ0_length_8abf5 0 = .ok (.aload_n 0, 1) := by decide +kernel
theorem dJ0_length_8abf5_1 : decode cJ0_length_8abf5 1 = .ok (.getfield 9, 3) := by decide +kernel
theorem dJ0_length_8abf5_4 : decode cJ0_length_8abf5 4 = .ok (.arraylength, 1) := by decide +kernel
theorem dJ0_length_8abf5_5 : decode cJ0_length_8abf5 5 = .ok (.aload_n 0, 1) := by decide +kernel
theorem dJ0_length_8abf5_6 : decode cJ0_length_8abf5 6 = .ok (.invokevirtual 335, 3) := by decide +kernel
theorem dJ0_length_8abf5_9 : decode cJ0_length_8abf5 9 = .ok (.ishr, 1) := by decide +kernel
theorem dJ0_length_8abf5_10 : decode cJ0_length_8abf5 10 = .ok (.ireturn, 1) := by decide +kernel
theorem dJ1_charAt_3b067_0 : decode cJ1_charAt_3b067 0 = .ok (.iload_n 1, 1) := by decide +kernel
theorem dJ1_charAt_3b067_1 : decode cJ1_charAt_3b067 1 = .ok (.aload_n 0, 1) := by decide +kernel
theorem dJ1_charAt_3b067_2 : decode cJ1_charAt_3b067 2 = .ok (.arraylength, 1) := by decide +kernel
theorem dJ1_charAt_3b067_3 : decode cJ1_charAt_3b067 3 = .ok (.invokestatic 9, 3) := by decide +kernel
theorem dJ1_charAt_3b067_6 : decode cJ1_charAt_3b067 6 = .ok (.aload_n 0, 1) := by decide +kernel
theorem dJ1_charAt_3b067_7 : decode cJ1_charAt_3b067 7 = .ok (.iload_n 1, 1) := by decide +kernel
theorem dJ1_charAt_3b067_8 : decode cJ1_charAt_3b067 8 = .ok (.baload, 1) := by decide +kernel
theorem dJ1_charAt_3b067_9 : decode cJ1_charAt_3b067 9 = .ok (.sipush 255, 3) := by decide +kernel
theorem dJ1_charAt_3b067_12 : decode cJ1_charAt_3b067 12 = .ok (.iand, 1) := by decide +kernel
theorem dJ1_charAt_3b067_13 : decode cJ1_charAt_3b067 13 = .ok (.i2c, 1) := by decide +kernel
theorem dJ1_charAt_3b067_14 : decode cJ1_charAt_3b067 14 = .ok (.ireturn, 1) := by decide +kernel
theorem dJ0_checkIndex_df160_0 : decode cJ0_checkIndex_df160 0 = .ok (.iload_n 0, 1) := by decide +kernel
theorem dJ0_checkIndex_df160_1 : decode cJ0_checkIndex_df160 1 = .ok (.iload_n 1, 1) := by decide +kernel
theorem dJ0_checkIndex_df160_2 : decode cJ0_checkIndex_df160 2 = .ok (.getstatic 1053, 3) := by decide +kernel
theorem dJ0_checkIndex_df160_5 : decode cJ0_checkIndex_df160 5 = .ok (.invokestatic 1059, 3) := by decide +kernel
theorem dJ0_checkIndex_df160_8 : decode cJ0_checkIndex_df160 8 = .ok (.pop, 1) := by decide +kernel
theorem dJ0_checkIndex_df160_9 : decode cJ0_checkIndex_df160 9 = .ok (.return_, 1) := by decide +kernel
theorem dJ3_checkIndex_8e157_0 : decode cJ3_checkIndex_8e157 0 = .ok (.iload_n 0, 1) := by decide +kernel
theorem dJ3_checkIndex_8e157_1 : decode cJ3_checkIndex_8e157 1 = .ok (.ifCond .lt 8, 3) := by decide +kernel
theorem dJ3_checkIndex_8e157_4 : decode cJ3_checkIndex_8e157 4 = .ok (.iload_n 0, 1) := by decide +kernel
theorem dJ3_checkIndex_8e157_5 : decode cJ3_checkIndex_8e157 5 = .ok (.iload_n 1, 1) := by decide +kernel
theorem dJ3_checkIndex_8e157_6 : decode cJ3_checkIndex_8e157 6 = .ok (.if_icmp .lt 10, 3) := by decide +kernel
theorem dJ3_checkIndex_8e157_9 : decode cJ3_checkIndex_8e157 9 = .ok (.aload_n 2, 1) := by decide +kernel
theorem dJ3_checkIndex_8e157_10 : decode cJ3_checkIndex_8e157 10 = .ok (.iload_n 0, 1) := by decide +kernel
theorem dJ3_checkIndex_8e157_11 : decode cJ3_checkIndex_8e157 11 = .ok (.iload_n 1, 1) := by decide +kernel
theorem dJ3_checkIndex_8e157_12 : decode cJ3_checkIndex_8e157 12 = .ok (.invokestatic 95, 3) := by decide +kernel
theorem dJ3_checkIndex_8e157_15 : decode cJ3_checkIndex_8e157 15 = .ok (.athrow, 1) := by decide +kernel
theorem dJ3_checkIndex_8e157_16 : decode cJ3_checkIndex_8e157 16 = .ok (.iload_n 0, 1) := by decide +kernel
theorem dJ3_checkIndex_8e157_17 : decode cJ3_checkIndex_8e157 17 = .ok (.ireturn, 1) := by decide +kernel
theorem fs_val : Cond.fieldLink "java/lang/String" 9 "java/lang/String" "value" "[B" ∈ lw_good := (lwk lk_9 124 rfl rfl)
theorem fs_cod : Cond.fieldLink "java/lang/String" 15 "java/lang/String" "coder" "B" ∈ lw_good := (lwk lk_9 125 rfl rfl)
theorem fs_com : Cond.fieldLink "java/lang/String" 38 "java/lang/String" "COMPACT_STRINGS" "Z" ∈ lw_good := (lwk lk_1 202 rfl rfl)
theorem fs_for : Cond.fieldLink "java/lang/String" 1053 "jdk/internal/util/Preconditions" "SIOOBE_FORMATTER" "Ljava/util/function/BiFunction;" ∈ lw_good := (lwk lk_1 218 rfl rfl)
section JS
variable {G : Gx} {d : Nat} {M : Mt} {Post : Option Value → Sg → Prop} {σ : Sg} {pc q : Nat} {L : List (Option Value)} {st : List Value}
theorem e_ldcS {i idx : Nat} {tx : String} (hd : decode M.2.1 pc = .ok (.ldc idx, 2)) (hq : pc + 2 = q) (hi : strT[i]? = some (M.1.cls, idx, tx)) (k : J G d M Post σ q L (.ref (gSA G i) :: st)) : J G d M Post σ pc L st := by
  intro p e s m args below meth c H locs ls h1 h2 h3 h4 h5 h6 h7 h8 h9 h10 h11
  subst hq
  exact va_ldcS h1 h2 h6 (h8.2.2.1 i _ hi) hd (k p e s m args below meth c H locs ls h1 h2 h3 h4 h5 h6 h7 h8 h9 h10 h11)
theorem e_sgetV {i idx : Nat} (hi : i < 5) (hd : decode M.2.1 pc = .ok (.getfield idx, 3)) (hq : pc + 3 = q) (hl : Cond.fieldLink M.1.cls idx "java/lang/String" "value" "[B" ∈ lw_good) (k : J G d M Post σ q L (.ref (gSV G i) :: st)) : J G d M Post σ pc L (.ref (gSA G i) :: st) := by
  intro p e s m args below meth c H locs ls h1 h2 h3 h4 h5 h6 h7 h8 h9 h10 h11
  subst hq
  exact vk_getf h1 h2 (h8.2.1.1 i hi).2.2.1 h10 h6 (h7 _ (List.mem_cons_of_mem _ hl)) (fun _ h => h) hd (k p e s m args below meth c H locs ls h1 h2 h3 h4 h5 h6 h7 h8 h9 h10 h11)
theorem e_sgetC {i idx : Nat} (hi : i < 5) (hd : decode M.2.1 pc = .ok (.getfield idx, 3)) (hq : pc + 3 = q) (hl : Cond.fieldLink M.1.cls idx "java/lang/String" "coder" "B" ∈ lw_good) (k : J G d M Post σ q L (.int (iZ 0) :: st)) : J G d M Post σ pc L (.ref (gSA G i) :: st) := by
  intro p e s m args below meth c H locs ls h1 h2 h3 h4 h5 h6 h7 h8 h9 h10 h11
  subst hq
  exact vk_getf h1 h2 (h8.2.1.1 i hi).2.1 h10 h6 (h7 _ (List.mem_cons_of_mem _ hl)) (fun _ h => h) hd (k p e s m args below meth c H locs ls h1 h2 h3 h4 h5 h6 h7 h8 h9 h10 h11)
theorem e_slen {i : Nat} {nz : Int} (hi : i < 5) (hn : Int32.ofNat (strL.getD i 0) = iZ nz) (hd : decode M.2.1 pc = .ok (.arraylength, 1)) (hq : pc + 1 = q) (k : J G d M Post σ q L (.int (iZ nz) :: st)) : J G d M Post σ pc L (.ref (gSV G i) :: st) := by
  intro p e s m args below meth c H locs ls h1 h2 h3 h4 h5 h6 h7 h8 h9 h10 h11
  subst hq
  exact va_tlen h1 h2 (h8.2.1.1 i hi).2.2.2 h10 hn hd (k p e s m args below meth c H locs ls h1 h2 h3 h4 h5 h6 h7 h8 h9 h10 h11)
theorem e_sbald {i : Nat} {z v : Int} (hi : i < 5) (h0 : 0 ≤ z) (hz : z < strL.getD i 0) (hs : strL.getD i 0 < 2147483648) (hv : (strB.getD i []).getD z.toNat 0 = iZ v) (hd : decode M.2.1 pc = .ok (.baload, 1)) (hq : pc + 1 = q) (k : J G d M Post σ q L (.int (iZ v) :: st)) : J G d M Post σ pc L (.int (iZ z) :: .ref (gSV G i) :: st) := by
  intro p e s m args below meth c H locs ls h1 h2 h3 h4 h5 h6 h7 h8 h9 h10 h11
  subst hq
  exact va_tb h1 h2 (h8.2.1.1 i hi).2.2.2 h10 (iZ_in h0 hz hs) (by rw [iZ_ix h0 (by omega), hv]) hd (k p e s m args below meth c H locs ls h1 h2 h3 h4 h5 h6 h7 h8 h9 h10 h11)
theorem e_gets1 {idx : Nat} (hd : decode M.2.1 pc = .ok (.getstatic idx, 3)) (hq : pc + 3 = q) (hl : Cond.fieldLink M.1.cls idx "java/lang/String" "COMPACT_STRINGS" "Z" ∈ lw_good) (k : J G d M Post σ q L (.int (iZ 1) :: st)) : J G d M Post σ pc L st := by
  intro p e s m args below meth c H locs ls h1 h2 h3 h4 h5 h6 h7 h8 h9 h10 h11
  subst hq
  exact va_gets h1 h2 h8.2.2.2.1 h10 h6 (h7 _ (List.mem_cons_of_mem _ hl)) (fun _ h => h) hd (k p e s m args below meth c H locs ls h1 h2 h3 h4 h5 h6 h7 h8 h9 h10 h11)
theorem e_getsQ {idx : Nat} (hd : decode M.2.1 pc = .ok (.getstatic idx, 3)) (hq : pc + 3 = q) (hl : Cond.fieldLink M.1.cls idx "jdk/internal/util/Preconditions" "SIOOBE_FORMATTER" "Ljava/util/function/BiFunction;" ∈ lw_good) (k : ∀ v : Value, (v = .null ∨ ∃ a, v = .ref a) → J G d M Post σ q L (v :: st)) : J G d M Post σ pc L st := by
  intro p e s m args below meth c H locs ls h1 h2 h3 h4 h5 h6 h7 h8 h9 h10 h11
  subst hq
  rcases h8.2.2.2.2 with hz | ⟨t, hz⟩
  · exact va_gets h1 h2 hz h10 h6 (h7 _ (List.mem_cons_of_mem _ hl)) (fun _ h => h) hd (k .null (Or.inl rfl) p e s m args below meth c H locs ls h1 h2 h3 h4 h5 h6 h7 h8 h9 h10 h11)
  · exact va_gets h1 h2 hz h10 h6 (h7 _ (List.mem_cons_of_mem _ hl)) (fun _ h => h) hd (k (.ref t) (Or.inr ⟨t, rfl⟩) p e s m args below meth c H locs ls h1 h2 h3 h4 h5 h6 h7 h8 h9 h10 h11)
theorem r_n {z : Int} {ty : FieldType} {P : Int → Sg → Prop} (hd : decode M.2.1 pc = .ok (.ireturn, 1)) (hM : M.2.2.2 = some ty) (hn : narrow ty (.int (iZ z)) = .int (iZ z)) (hp : P z σ) : J G d M (pI P) σ pc L [.int (iZ z)] := by
  intro p e s m args below meth c H locs ls h1 h2 h3 h4 h5 h6 h7 h8 h9 h10 h11
  refine W.zret h1 h2 (h4.trans hM) hn (fun t ht hW => ⟨⟨some (.int (iZ z)), σ, rfl, ⟨z, rfl, hp⟩, by rw [ht]; exact h9⟩, h10.F ht⟩) h10.2.2 hd h5
/-- a text's own method is called -/
theorem e_VipS {M' : Mt} {n idx d' i : Nat} {vs rest : List Value} {z : Int} (ok : OkV M' n) (hl : Cond.methodLink M.1.cls idx M'.1 ∈ lw_good) (hd : decode M.2.1 pc = .ok (.invokevirtual idx, 3)) (hq : pc + 3 = q) (hC : M'.1.cls = "java/lang/String") (hi : i < 5) (hn : vs.length = n) (hst : st = vs.reverse ++ .ref (gSA G i) :: rest) (hr : (rest.map fun v => v.category).sum ≤ 8) (hdd : d' + 1 ≤ d)
    (con : Con G d' M' (.ref (gSA G i) :: vs) σ (pI (pE σ z))) (k : J G d M Post σ q L (.int (iZ z) :: rest)) : J G d M Post σ pc L st := by
  intro p e s m args below meth c H locs ls h1 h2 h3 h4 h5 h6 h7 h8 h9 h10 h11
  subst hq
  obtain ⟨⟨hini, hcode, hy1, hy2, har, hmx, -⟩, hinst, hsel⟩ := ok
  have cb : CallB (gR d) s args M.1.cls idx M'.1 M'.2.1 M'.2.2.1 M'.2.2.2 (.code M'.1 M'.2.1 M'.2.2.1 M'.2.2.2 :: lw_good) (gR d') 0 0 n :=
    callB_of n h7 (gi_in hcode) rfl rfl rfl (h7 _ (List.mem_cons_of_mem _ hini)) (h7 _ (List.mem_cons_of_mem _ hl)) ⟨hy1, hy2, har⟩ ⟨by show d' + 1 ≤ d; exact hdd, by show 8 + (M'.2.2.1 + 11) + 64 * d' ≤ 64 * d; omega⟩
  have hrun := va_runV (As := vs) (rest := rest) (b := gSA G i) (C := M'.1.cls) (e := e) (below := below) (meth := meth) (locs := locs) (cells := 0) (slots := 0) (g := F0 m pc ls st) (H := H) ⟨h1, h2, h3, h6, h7⟩ con ⟨cb, h7 _ (List.mem_cons_of_mem _ hinst), h7 _ (List.mem_cons_of_mem _ hsel)⟩
    ⟨fun a U g mk qq => by obtain ⟨q0, qP, qK⟩ := qq; exact ⟨q0, qP, gK.same (u := U) (U := U.calling g mk a) rfl rfl qK⟩, by rw [hC]; exact vk_recv h8.2.1 hi h10, fun U hU hW => ⟨rfl, by show gP G σ U.heap; rw [hU]; exact h9, gK.call h8 h10 hU hW⟩⟩ rfl hn h11.1 hst (lv_room hr) hd ⟨Nat.le_refl _, Nat.le_refl _⟩
  intro X hX S
  obtain ⟨v, st₀, t, T', Ls, e0, S', hL, e1, e2, ⟨⟨r, σ', hv, hpo, hP'⟩, hz, hkp⟩, go⟩ := hrun X hX S
  cases hv
  obtain ⟨z', rfl, rfl, rfl⟩ := hpo
  rw [e0] at hz hkp
  obtain ⟨t2, a1, b1⟩ := k p e s m args below meth c T'.heap (locs ++ Ls) ls h1 h2 h3 h4 h5 h6 h7 h8 (by rw [e1]; exact hP')
    ⟨Nat.le_trans h10.1 (by rw [e1]; exact hz), fun a g1 g2 => by rw [e1, hkp a (Nat.lt_of_lt_of_le g1 h10.1) g2]; exact h10.2.1 a g1 g2, fun a ha => by
      rcases List.mem_append.mp ha with h | h
      · exact h10.2.2 a h
      · exact hL a h⟩ h11 T' rfl S'
  exact ⟨t2, go t2 a1, b1⟩
end JS
/-- the letter at a place of a text -/
def chV (i : Nat) (z : Int) : Int := ((strB.getD i []).getD z.toNat 0).toInt
theorem str_all : ∀ i, i < 5 → (strL.getD i 0 = (strB.getD i []).length ∧ strL.getD i 0 < 2147483648 ∧ ∀ b ∈ strB.getD i [], 0 ≤ b.toInt ∧ b.toInt ≤ 127) := by decide +kernel
theorem chV_in {i : Nat} {z : Int} (hi : i < 5) (h0 : 0 ≤ z) (hz : z < strL.getD i 0) : 0 ≤ chV i z ∧ chV i z ≤ 127 := by
  obtain ⟨h1, -, h3⟩ := str_all i hi
  obtain ⟨B, hB⟩ : ∃ B, B = strB.getD i [] := ⟨_, rfl⟩
  unfold chV
  rw [← hB] at h1 h3 ⊢
  have : z.toNat < B.length := by omega
  refine h3 _ ?_
  rw [List.getD_eq_getElem?_getD, List.getElem?_eq_getElem this]
  exact List.getElem_mem this
theorem nar_c {z : Int} (h0 : 0 ≤ z) (h1 : z ≤ 127) : narrow .char (.int (iZ z)) = .int (iZ z) ∧ (((iZ z).toUInt32 % 65536).toInt32 = iZ z) := by
  obtain ⟨k, rfl⟩ := Int.eq_ofNat_of_zero_le h0
  have : ∀ k : Nat, k < 128 → narrow .char (.int (iZ k)) = .int (iZ k) ∧ (((iZ k).toUInt32 % 65536).toInt32 = iZ k) := by decide +kernel
  exact this k (by omega)
theorem c_J3_checkIndex {G : Gx} {σ : Sg} {a n : Int} {v : Value} (hv : v = .null ∨ ∃ t, v = .ref t) (h0 : 0 ≤ a) (h1 : a < n) (hn : n ≤ 2147483647) : Con G 1 mJ3_checkIndex_8e157 [.int (iZ a), .int (iZ n), v] σ (pI (pE σ a)) := by
  rcases hv with rfl | ⟨t, rfl⟩
  · refine e_entry om_J3_checkIndex_8e157 (Nat.le_of_ble_eq_true rfl) (L := [some (.int (iZ a)), some (.int (iZ n)), some .null]) rfl ?_
    refine e_iload_n (q := 1) (i := 0) dJ3_checkIndex_8e157_0 rfl rfl rfl ?_
    refine e_if_lt (q := 4) (tgt := 9) dJ3_checkIndex_8e157_1 rfl (by decide) (fun c1 => absurd c1 (by omega)) (fun c1 => ?_)
    refine e_iload_n (q := 5) (i := 0) dJ3_checkIndex_8e157_4 rfl rfl rfl ?_
    refine e_iload_n (q := 6) (i := 1) dJ3_checkIndex_8e157_5 rfl rfl rfl ?_
    refine e_icmp_lt (q := 9) (tgt := 16) dJ3_checkIndex_8e157_6 rfl (by decide) (fun c6 => ?_) (fun c6 => absurd h1 c6)
    refine e_iload_n (q := 17) (i := 0) dJ3_checkIndex_8e157_16 rfl rfl rfl ?_
    exact r_i dJ3_checkIndex_8e157_17 rfl ⟨rfl, rfl⟩
  · refine e_entry om_J3_checkIndex_8e157 (Nat.le_of_ble_eq_true rfl) (L := [some (.int (iZ a)), some (.int (iZ n)), some (.ref t)]) rfl ?_
    refine e_iload_n (q := 1) (i := 0) dJ3_checkIndex_8e157_0 rfl rfl rfl ?_
    refine e_if_lt (q := 4) (tgt := 9) dJ3_checkIndex_8e157_1 rfl (by decide) (fun c1 => absurd c1 (by omega)) (fun c1 => ?_)
    refine e_iload_n (q := 5) (i := 0) dJ3_checkIndex_8e157_4 rfl rfl rfl ?_
    refine e_iload_n (q := 6) (i := 1) dJ3_checkIndex_8e157_5 rfl rfl rfl ?_
    refine e_icmp_lt (q := 9) (tgt := 16) dJ3_checkIndex_8e157_6 rfl (by decide) (fun c6 => ?_) (fun c6 => absurd h1 c6)
    refine e_iload_n (q := 17) (i := 0) dJ3_checkIndex_8e157_16 rfl rfl rfl ?_
    exact r_i dJ3_checkIndex_8e157_17 rfl ⟨rfl, rfl⟩
theorem c_J0_checkIndex {G : Gx} {σ : Sg} {a n : Int} (h0 : 0 ≤ a) (h1 : a < n) (hn : n ≤ 2147483647) : Con G 2 mJ0_checkIndex_df160 [.int (iZ a), .int (iZ n)] σ (pV (fun σ' => σ' = σ)) := by
  refine e_entry om_J0_checkIndex_df160 (Nat.le_of_ble_eq_true rfl) (L := [some (.int (iZ a)), some (.int (iZ n))]) rfl ?_
  refine e_iload_n (q := 1) (i := 0) dJ0_checkIndex_df160_0 rfl rfl rfl ?_
  refine e_iload_n (q := 2) (i := 1) dJ0_checkIndex_df160_1 rfl rfl rfl ?_
  refine e_getsQ (q := 5) dJ0_checkIndex_df160_2 rfl fs_for (fun v hv => ?_)
  refine e_Sip (q := 8) (vs := [_, _, _]) ok_J3_checkIndex_8e157 ml_J0_1059 dJ0_checkIndex_df160_5 rfl rfl rfl (Nat.le_of_ble_eq_true rfl) (by decide) (c_J3_checkIndex hv h0 h1 hn) ?_
  refine e_pop (q := 9) dJ0_checkIndex_df160_8 rfl rfl ?_
  exact r_v dJ0_checkIndex_df160_9 rfl rfl
theorem c_J1_charAt {G : Gx} {σ : Sg} {i : Nat} {z : Int} (hi : i < 5) (h0 : 0 ≤ z) (hz : z < strL.getD i 0) : Con G 3 mJ1_charAt_3b067 [.ref (gSV G i), .int (iZ z)] σ (pI (pE σ (chV i z))) := by
  obtain ⟨hl, hs, -⟩ := str_all i hi
  have hc := chV_in hi h0 hz
  have hn := nar_c hc.1 hc.2
  refine e_entry om_J1_charAt_3b067 (Nat.le_of_ble_eq_true rfl) (L := [some (.ref (gSV G i)), some (.int (iZ z))]) rfl ?_
  refine e_iload_n (q := 1) (i := 1) dJ1_charAt_3b067_0 rfl rfl rfl ?_
  refine e_aload_n (q := 2) (i := 0) dJ1_charAt_3b067_1 rfl rfl rfl ?_
  refine e_slen (q := 3) (nz := (strL.getD i 0 : Nat)) hi (show Int32.ofNat _ = Int32.ofInt _ from rfl) dJ1_charAt_3b067_2 rfl ?_
  refine e_Sv (q := 6) (vs := [_, _]) ok_J0_checkIndex_df160 ml_J1_9 dJ1_charAt_3b067_3 rfl rfl rfl (Nat.le_of_ble_eq_true rfl) (by decide) (c_J0_checkIndex h0 hz (by omega)) (fun s3 h3 => ?_)
  subst h3
  refine e_aload_n (q := 7) (i := 0) dJ1_charAt_3b067_6 rfl rfl rfl ?_
  refine e_iload_n (q := 8) (i := 1) dJ1_charAt_3b067_7 rfl rfl rfl ?_
  refine e_sbald (q := 9) (v := chV i z) hi h0 hz hs (iZ_of _).symm dJ1_charAt_3b067_8 rfl ?_
  refine e_sipush (q := 12) dJ1_charAt_3b067_9 rfl (by decide) ?_
  refine e_iand (q := 13) dJ1_charAt_3b067_12 rfl (show iZ (chV i z) &&& iZ 255 = iZ (chV i z) from by
    have : ∀ k : Nat, k < 128 → iZ k &&& iZ 255 = iZ k := by decide +kernel
    obtain ⟨k, hk⟩ := Int.eq_ofNat_of_zero_le hc.1
    rw [hk]
    exact this k (by omega)) ?_
  refine e_i2c (q := 14) dJ1_charAt_3b067_13 rfl hn.2 ?_
  exact r_n dJ1_charAt_3b067_14 rfl hn.1 ⟨rfl, rfl⟩
theorem c_J0_isLatin1 {G : Gx} {σ : Sg} {i : Nat} (hi : i < 5) : Con G 1 mJ0_isLatin1_aae02 [.ref (gSA G i)] σ (pI (pE σ 1)) := by
  refine e_entry om_J0_isLatin1_aae02 (Nat.le_of_ble_eq_true rfl) (L := [some (.ref (gSA G i))]) rfl ?_
  refine e_gets1 (q := 3) dJ0_isLatin1_aae02_0 rfl fs_com ?_
  refine e_if_eq (q := 6) (tgt := 17) dJ0_isLatin1_aae02_3 rfl (by decide) (fun c3 => absurd c3 (by decide)) (fun c3 => ?_)
  refine e_aload_n (q := 7) (i := 0) dJ0_isLatin1_aae02_6 rfl rfl rfl ?_
  refine e_sgetC (q := 10) hi dJ0_isLatin1_aae02_7 rfl fs_cod ?_
  refine e_if_ne (q := 13) (tgt := 17) dJ0_isLatin1_aae02_10 rfl (by decide) (fun c10 => absurd rfl c10) (fun c10 => ?_)
  refine e_iconst (q := 14) dJ0_isLatin1_aae02_13 rfl ?_
  refine e_goto (tgt := 18) dJ0_isLatin1_aae02_14 (by decide) ?_
  exact r_z dJ0_isLatin1_aae02_18 rfl (Or.inr rfl) ⟨rfl, rfl⟩
theorem c_J0_coder {G : Gx} {σ : Sg} {i : Nat} (hi : i < 5) : Con G 1 mJ0_coder_7d493 [.ref (gSA G i)] σ (pI (pE σ 0)) := by
  refine e_entry om_J0_coder_7d493 (Nat.le_of_ble_eq_true rfl) (L := [some (.ref (gSA G i))]) rfl ?_
  refine e_gets1 (q := 3) dJ0_coder_7d493_0 rfl fs_com ?_
  refine e_if_eq (q := 6) (tgt := 13) dJ0_coder_7d493_3 rfl (by decide) (fun c3 => absurd c3 (by decide)) (fun c3 => ?_)
  refine e_aload_n (q := 7) (i := 0) dJ0_coder_7d493_6 rfl rfl rfl ?_
  refine e_sgetC (q := 10) hi dJ0_coder_7d493_7 rfl fs_cod ?_
  refine e_goto (tgt := 14) dJ0_coder_7d493_10 (by decide) ?_
  exact r_n dJ0_coder_7d493_14 rfl (by decide) ⟨rfl, rfl⟩
theorem c_charAt {G : Gx} {σ : Sg} {i : Nat} {z : Int} (hi : i < 5) (h0 : 0 ≤ z) (hz : z < strL.getD i 0) : Con G 4 mJ0_charAt_5068e [.ref (gSA G i), .int (iZ z)] σ (pI (pE σ (chV i z))) := by
  have hc := chV_in hi h0 hz
  have hn := nar_c hc.1 hc.2
  refine e_entry om_J0_charAt_5068e (Nat.le_of_ble_eq_true rfl) (L := [some (.ref (gSA G i)), some (.int (iZ z))]) rfl ?_
  refine e_aload_n (q := 1) (i := 0) dJ0_charAt_5068e_0 rfl rfl rfl ?_
  refine e_VipS (q := 4) (vs := []) ok_J0_isLatin1_aae02 ml_J0_492 dJ0_charAt_5068e_1 rfl rfl hi rfl rfl (Nat.le_of_ble_eq_true rfl) (by decide) (c_J0_isLatin1 hi) ?_
  refine e_if_eq (q := 7) (tgt := 16) dJ0_charAt_5068e_4 rfl (by decide) (fun c3 => absurd c3 (by decide)) (fun c3 => ?_)
  refine e_aload_n (q := 8) (i := 0) dJ0_charAt_5068e_7 rfl rfl rfl ?_
  refine e_sgetV (q := 11) hi dJ0_charAt_5068e_8 rfl fs_val ?_
  refine e_iload_n (q := 12) (i := 1) dJ0_charAt_5068e_11 rfl rfl rfl ?_
  refine e_Sip (q := 15) (vs := [_, _]) ok_J1_charAt_3b067 ml_J0_495 dJ0_charAt_5068e_12 rfl rfl rfl (Nat.le_of_ble_eq_true rfl) (by decide) (c_J1_charAt hi h0 hz) ?_
  exact r_n dJ0_charAt_5068e_15 rfl hn.1 ⟨rfl, rfl⟩
theorem c_length {G : Gx} {σ : Sg} {i : Nat} {nz : Int} (hi : i < 5) (hnz : ((strL.getD i 0 : Nat) : Int) = nz) : Con G 2 mJ0_length_8abf5 [.ref (gSA G i)] σ (pI (pE σ nz)) := by
  obtain ⟨hl, hs, -⟩ := str_all i hi
  have hle : ∀ i, i < 5 → Int32.ofNat (strL.getD i 0) >>> (iZ 0 &&& 31) = Int32.ofNat (strL.getD i 0) := by decide +kernel
  refine e_entry om_J0_length_8abf5 (Nat.le_of_ble_eq_true rfl) (L := [some (.ref (gSA G i))]) rfl ?_
  refine e_aload_n (q := 1) (i := 0) dJ0_length_8abf5_0 rfl rfl rfl ?_
  refine e_sgetV (q := 4) hi dJ0_length_8abf5_1 rfl fs_val ?_
  refine e_slen (q := 5) (nz := nz) hi (by rw [← hnz]; rfl) dJ0_length_8abf5_4 rfl ?_
  refine e_aload_n (q := 6) (i := 0) dJ0_length_8abf5_5 rfl rfl rfl ?_
  refine e_VipS (q := 9) (vs := []) ok_J0_coder_7d493 ml_J0_335 dJ0_length_8abf5_6 rfl rfl hi rfl rfl (Nat.le_of_ble_eq_true rfl) (by decide) (c_J0_coder hi) ?_
  refine e_ishr (q := 10) (z := nz) dJ0_length_8abf5_9 rfl (by rw [← hnz]; exact hle i hi) ?_
  exact r_i dJ0_length_8abf5_10 rfl ⟨rfl, rfl⟩

