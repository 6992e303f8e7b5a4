theorem law_loop {G : Gx} {nm : String} {b N : Nat} {xs : Nat → Int32} (hlt : G.1.stackTraces = false) (hN : N ≤ 3072) : ∀ (n : Nat) (i : Int) (σ : Sg) (E : Nat → va_E) (z kc ks : Nat) (f : Nat → Int64), 0 ≤ i → i ≤ 4000 → (N : Int) - 6 - 6 * n < i → Rel σ → fE G σ E → E 120 = .inl (G.2.2.1 1, 1, .inr (.inl f)) → kc + n ≤ 633 → ks + 6 * n ≤ 7706 → K G room_1 (mLL nm) (fS G b N xs) lQ (121, E, z) kc ks 23 [some (.ref b), some (.ref (G.2.2.2 + 0)), some (.ref (G.2.2.2 + 82)), some (.ref (G.2.2.2 + 120)), some (.int (iZ i)), none, none] [] := by
  intro n
  induction n with
  | zero =>
    intro i σ E z kc ks f h0 h4 hn hR hE hf hkc hks
    refine k_iload (q := 25) dL_law_23 rfl rfl ?_
    refine k_aload_n (q := 26) (i := 0) dL_law_25 rfl rfl rfl ?_
    refine k_slenL (q := 27) dL_law_26 rfl ?_
    refine k_bipush (q := 29) dL_law_27 rfl (by decide) ?_
    refine k_isub (q := 30) dL_law_29 rfl ?_
    refine k_icmp_gt (q := 33) (tgt := 1640) dL_law_30 rfl (by decide) (fun c30 => ?_) (fun c30 => by exfalso; omega)
    refine k_iconst (q := 1641) dL_law_1640 rfl ?_
    exact k_lend dL_law_1641 (by omega) (by omega)
  | succ n ih =>
    intro i σ E z kc ks f h0 h4 hn hR hE hf hkc hks
    have nx : i + 6 ≤ N → Nx G nm b N xs i kc ks := by
      intro hi σ' E' z' kc' ks' f' r1 r2 r3 r4 r5
      refine k_iinc (q := 1637) (L' := [_, _, _, _, _, _, _]) dL_law_1634 rfl rfl (Nat.le_of_ble_eq_true rfl) rfl rfl ?_
      refine k_goto (tgt := 23) dL_law_1637 (by decide) ?_
      exact ih (i + 6) σ' E' z' kc' ks' f' (by omega) (by omega) (by omega) r1 r2 r3 (by omega) (by omega)
    refine k_iload (q := 25) dL_law_23 rfl rfl ?_
    refine k_aload_n (q := 26) (i := 0) dL_law_25 rfl rfl rfl ?_
    refine k_slenL (q := 27) dL_law_26 rfl ?_
    refine k_bipush (q := 29) dL_law_27 rfl (by decide) ?_
    refine k_isub (q := 30) dL_law_29 rfl ?_
    refine k_icmp_gt (q := 33) (tgt := 1640) dL_law_30 rfl (by decide) (fun c30 => ?_) (fun c30 => ?_)
    · refine k_iconst (q := 1641) dL_law_1640 rfl ?_
      exact k_lend dL_law_1641 (by omega) (by omega)
    · refine k_aload_n (q := 34) (i := 0) dL_law_33 rfl rfl rfl ?_
      refine k_iload (q := 36) dL_law_34 rfl rfl ?_
      refine k_sld (q := 37) dL_law_36 rfl (by omega) (by omega) hN ?_
      refine k_bipush (q := 39) dL_law_37 rfl (by decide) ?_
      refine k_iand (q := 40) dL_law_39 rfl (iZ_of _).symm ?_
      have nx := nx (by omega)
      generalize hx : ((iZ (sX xs i) &&& iZ 63).toInt) = x9
      have hx9 : R32 x9 := hx ▸ R32_of _
      by_cases k40_0 : x9 = 0
      · refine k_tabIn (tgt := 204) dL_law_40 hx9 (by omega) (by omega) (by rw [k40_0]; rfl) (by decide) ?_
        exact lc_0 hN (by omega) (by omega) hR hE hf (by omega) (by omega) nx
      by_cases k40_1 : x9 = 1
      · refine k_tabIn (tgt := 277) dL_law_40 hx9 (by omega) (by omega) (by rw [k40_1]; rfl) (by decide) ?_
        exact lc_1 hN (by omega) (by omega) hR hE hf (by omega) (by omega) nx
      by_cases k40_2 : x9 = 2
      · refine k_tabIn (tgt := 302) dL_law_40 hx9 (by omega) (by omega) (by rw [k40_2]; rfl) (by decide) ?_
        exact lc_2 hN (by omega) (by omega) hR hE hf (by omega) (by omega) nx
      by_cases k40_3 : x9 = 3
      · refine k_tabIn (tgt := 327) dL_law_40 hx9 (by omega) (by omega) (by rw [k40_3]; rfl) (by decide) ?_
        exact lc_3 hN (by omega) (by omega) hR hE hf (by omega) (by omega) nx
      by_cases k40_4 : x9 = 4
      · refine k_tabIn (tgt := 364) dL_law_40 hx9 (by omega) (by omega) (by rw [k40_4]; rfl) (by decide) ?_
        exact lc_4 hlt hN (by omega) (by omega) hR hE hf (by omega) (by omega) nx
      by_cases k40_5 : x9 = 5
      · refine k_tabIn (tgt := 432) dL_law_40 hx9 (by omega) (by omega) (by rw [k40_5]; rfl) (by decide) ?_
        exact lc_5 hN (by omega) (by omega) hR hE hf (by omega) (by omega) nx
      by_cases k40_6 : x9 = 6
      · refine k_tabIn (tgt := 469) dL_law_40 hx9 (by omega) (by omega) (by rw [k40_6]; rfl) (by decide) ?_
        exact lc_6 hN (by omega) (by omega) hR hE hf (by omega) (by omega) nx
      by_cases k40_7 : x9 = 7
      · refine k_tabIn (tgt := 506) dL_law_40 hx9 (by omega) (by omega) (by rw [k40_7]; rfl) (by decide) ?_
        exact lc_7 hN (by omega) (by omega) hR hE hf (by omega) (by omega) nx
      by_cases k40_8 : x9 = 8
      · refine k_tabIn (tgt := 543) dL_law_40 hx9 (by omega) (by omega) (by rw [k40_8]; rfl) (by decide) ?_
        exact lc_8 hN (by omega) (by omega) hR hE hf (by omega) (by omega) nx
      by_cases k40_9 : x9 = 9
      · refine k_tabIn (tgt := 580) dL_law_40 hx9 (by omega) (by omega) (by rw [k40_9]; rfl) (by decide) ?_
        exact lc_9 hN (by omega) (by omega) hR hE hf (by omega) (by omega) nx
      by_cases k40_10 : x9 = 10
      · refine k_tabIn (tgt := 593) dL_law_40 hx9 (by omega) (by omega) (by rw [k40_10]; rfl) (by decide) ?_
        exact lc_10 hN (by omega) (by omega) hR hE hf (by omega) (by omega) nx
      by_cases k40_11 : x9 = 11
      · refine k_tabIn (tgt := 606) dL_law_40 hx9 (by omega) (by omega) (by rw [k40_11]; rfl) (by decide) ?_
        exact lc_11 hN (by omega) (by omega) hR hE hf (by omega) (by omega) nx
      by_cases k40_12 : x9 = 12
      · refine k_tabIn (tgt := 668) dL_law_40 hx9 (by omega) (by omega) (by rw [k40_12]; rfl) (by decide) ?_
        exact lc_12 hN (by omega) (by omega) hR hE hf (by omega) (by omega) nx
      by_cases k40_13 : x9 = 13
      · refine k_tabIn (tgt := 717) dL_law_40 hx9 (by omega) (by omega) (by rw [k40_13]; rfl) (by decide) ?_
        exact lc_13 hN (by omega) (by omega) hR hE hf (by omega) (by omega) nx
      by_cases k40_14 : x9 = 14
      · refine k_tabIn (tgt := 766) dL_law_40 hx9 (by omega) (by omega) (by rw [k40_14]; rfl) (by decide) ?_
        exact lc_14 hN (by omega) (by omega) hR hE hf (by omega) (by omega) nx
      by_cases k40_15 : x9 = 15
      · refine k_tabIn (tgt := 815) dL_law_40 hx9 (by omega) (by omega) (by rw [k40_15]; rfl) (by decide) ?_
        exact lc_15 hN (by omega) (by omega) hR hE hf (by omega) (by omega) nx
      by_cases k40_16 : x9 = 16
      · refine k_tabIn (tgt := 840) dL_law_40 hx9 (by omega) (by omega) (by rw [k40_16]; rfl) (by decide) ?_
        exact lc_16 hN (by omega) (by omega) hR hE hf (by omega) (by omega) nx
      by_cases k40_17 : x9 = 17
      · refine k_tabIn (tgt := 889) dL_law_40 hx9 (by omega) (by omega) (by rw [k40_17]; rfl) (by decide) ?_
        exact lc_17 hN (by omega) (by omega) hR hE hf (by omega) (by omega) nx
      by_cases k40_18 : x9 = 18
      · refine k_tabIn (tgt := 938) dL_law_40 hx9 (by omega) (by omega) (by rw [k40_18]; rfl) (by decide) ?_
        exact lc_18 hN (by omega) (by omega) hR hE hf (by omega) (by omega) nx
      by_cases k40_19 : x9 = 19
      · refine k_tabIn (tgt := 975) dL_law_40 hx9 (by omega) (by omega) (by rw [k40_19]; rfl) (by decide) ?_
        exact lc_19 hN (by omega) (by omega) hR hE hf (by omega) (by omega) nx
      by_cases k40_20 : x9 = 20
      · refine k_tabIn (tgt := 1048) dL_law_40 hx9 (by omega) (by omega) (by rw [k40_20]; rfl) (by decide) ?_
        exact lc_20 hN (by omega) (by omega) hR hE hf (by omega) (by omega) nx
      by_cases k40_21 : x9 = 21
      · refine k_tabIn (tgt := 1097) dL_law_40 hx9 (by omega) (by omega) (by rw [k40_21]; rfl) (by decide) ?_
        exact lc_21 hN (by omega) (by omega) hR hE hf (by omega) (by omega) nx
      by_cases k40_22 : x9 = 22
      · refine k_tabIn (tgt := 1110) dL_law_40 hx9 (by omega) (by omega) (by rw [k40_22]; rfl) (by decide) ?_
        exact lc_22 hN (by omega) (by omega) hR hE hf (by omega) (by omega) nx
      by_cases k40_23 : x9 = 23
      · refine k_tabIn (tgt := 1123) dL_law_40 hx9 (by omega) (by omega) (by rw [k40_23]; rfl) (by decide) ?_
        exact lc_23 hN (by omega) (by omega) hR hE hf (by omega) (by omega) nx
      by_cases k40_24 : x9 = 24
      · refine k_tabIn (tgt := 1160) dL_law_40 hx9 (by omega) (by omega) (by rw [k40_24]; rfl) (by decide) ?_
        exact lc_24 hN (by omega) (by omega) hR hE hf (by omega) (by omega) nx
      by_cases k40_25 : x9 = 25
      · refine k_tabIn (tgt := 1209) dL_law_40 hx9 (by omega) (by omega) (by rw [k40_25]; rfl) (by decide) ?_
        exact lc_25 hN (by omega) (by omega) hR hE hf (by omega) (by omega) nx
      by_cases k40_26 : x9 = 26
      · refine k_tabIn (tgt := 1247) dL_law_40 hx9 (by omega) (by omega) (by rw [k40_26]; rfl) (by decide) ?_
        exact lc_26 hN (by omega) (by omega) hR hE hf (by omega) (by omega) nx
      by_cases k40_27 : x9 = 27
      · refine k_tabIn (tgt := 1336) dL_law_40 hx9 (by omega) (by omega) (by rw [k40_27]; rfl) (by decide) ?_
        exact lc_27 hN (by omega) (by omega) hR hE hf (by omega) (by omega) nx
      by_cases k40_28 : x9 = 28
      · refine k_tabIn (tgt := 1361) dL_law_40 hx9 (by omega) (by omega) (by rw [k40_28]; rfl) (by decide) ?_
        exact lc_28 hN (by omega) (by omega) hR hE hf (by omega) (by omega) nx
      by_cases k40_29 : x9 = 29
      · refine k_tabIn (tgt := 1386) dL_law_40 hx9 (by omega) (by omega) (by rw [k40_29]; rfl) (by decide) ?_
        exact lc_29 hN (by omega) (by omega) hR hE hf (by omega) (by omega) nx
      by_cases k40_30 : x9 = 30
      · refine k_tabIn (tgt := 1411) dL_law_40 hx9 (by omega) (by omega) (by rw [k40_30]; rfl) (by decide) ?_
        exact lc_30 hN (by omega) (by omega) hR hE hf (by omega) (by omega) nx
      by_cases k40_31 : x9 = 31
      · refine k_tabIn (tgt := 1460) dL_law_40 hx9 (by omega) (by omega) (by rw [k40_31]; rfl) (by decide) ?_
        exact lc_31 hN (by omega) (by omega) hR hE hf (by omega) (by omega) nx
      by_cases k40_32 : x9 = 32
      · refine k_tabIn (tgt := 1521) dL_law_40 hx9 (by omega) (by omega) (by rw [k40_32]; rfl) (by decide) ?_
        exact lc_32 hN (by omega) (by omega) hR hE hf (by omega) (by omega) nx
      by_cases k40_33 : x9 = 33
      · refine k_tabIn (tgt := 1570) dL_law_40 hx9 (by omega) (by omega) (by rw [k40_33]; rfl) (by decide) ?_
        exact lc_33 hN (by omega) (by omega) hR hE hf (by omega) (by omega) nx
      by_cases k40_34 : x9 = 34
      · refine k_tabIn (tgt := 1583) dL_law_40 hx9 (by omega) (by omega) (by rw [k40_34]; rfl) (by decide) ?_
        exact lc_34 hN (by omega) (by omega) hR hE hf (by omega) (by omega) nx
      by_cases k40_35 : x9 = 35
      · refine k_tabIn (tgt := 1596) dL_law_40 hx9 (by omega) (by omega) (by rw [k40_35]; rfl) (by decide) ?_
        exact lc_35 hN (by omega) (by omega) hR hE hf (by omega) (by omega) nx
      by_cases k40_36 : x9 = 36
      · refine k_tabIn (tgt := 1609) dL_law_40 hx9 (by omega) (by omega) (by rw [k40_36]; rfl) (by decide) ?_
        exact lc_36 hN (by omega) (by omega) hR hE hf (by omega) (by omega) nx
      refine k_tabOut (tgt := 1634) dL_law_40 hx9 (by omega) (by decide) ?_
      exact nx σ E z kc ks f hR hE hf (by omega) (by omega)
