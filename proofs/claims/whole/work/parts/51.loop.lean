/-! the law's loop -/
theorem and31 (x : Int32) : ∃ w : Nat, w < 32 ∧ x &&& nI 31 = nI w := by
  refine ⟨(x &&& nI 31).toBitVec.toNat, ?_, ?_⟩
  · show (x.toBitVec &&& (nI 31).toBitVec).toNat < 32
    rw [BitVec.toNat_and]
    exact Nat.lt_succ_of_le (Nat.le_trans Nat.and_le_right (show (nI 31).toBitVec.toNat ≤ 31 by decide))
  · apply Int32.toBitVec_inj.mp
    show (x &&& nI 31).toBitVec = BitVec.ofNat 32 (x &&& nI 31).toBitVec.toNat
    rw [BitVec.ofNat_toNat, BitVec.setWidth_eq]
theorem lp_go {L i : Nat} (hL : L ≤ 2560) (hi : i ≤ 2565) (h : ¬ Int32.ofNat L - nI 5 < nI i) : i + 5 ≤ L := by
  rcases Nat.lt_or_ge L 5 with q | q
  · exfalso
    apply h
    have h0 : ∀ z : Int32, z < 0 → z < nI i := fun z hz => by
      rw [Int32.lt_iff_toInt_lt] at hz ⊢
      rw [nI_toInt (by omega)]
      have : (0 : Int32).toInt = 0 := by decide
      omega
    apply h0
    rcases (show L = 0 ∨ L = 1 ∨ L = 2 ∨ L = 3 ∨ L = 4 by omega) with rfl | rfl | rfl | rfl | rfl <;> decide
  · rw [show Int32.ofNat L - nI 5 = nI (L - 5) from pk_sub q, nI_ltI (by omega) (by omega)] at h
    omega

set_option maxHeartbeats 4000000 in
set_option maxRecDepth 100000 in
theorem law_loop {p : Program} {l : Launch} {e : Env} {s : State} {m : MethodId} {below : List Frame} {meth : Method} {c : Code} {b L : Nat} {xs : Nat → Int32} {G : wG} (X : LX ((p, l, e, room_1, s, m, #[Value.ref b], below, meth, c) : wK) G b L xs) (hr : meth.sig.returnType = ret) (c0 s0 : Nat) (hc0 : c0 ≤ 500000) (hs0 : s0 ≤ 7000000) : ∀ (n k : Nat) (V : wV) (I : wI) (J : wJ), Inv V I J → 5 * k ≤ L + 5 → L + 6 ≤ 5 * k + 5 * n → WW ((p, l, e, room_1, s, m, #[Value.ref b], below, meth, c) : wK) G (c0 + 6 * k) (s0 + 36 * k) (lw_Z below #[Value.ref b] s) V I J 23 [(0, .ref b), (1, .ref (G.2.1 0)), (2, .ref (G.2.1 7)), (3, .ref (G.2.1 80)), (4, .int (nI (5 * k)))] [] := by
  have C := X.1
  have hRm := X.2.1
  intro n
  induction n with
  | zero =>
    intro k V I J hI h1 h2
    exact absurd h2 (by omega)
  | succ n ih =>
    intro k V I J hI h1 h2
    obtain ⟨-, -, hX, hb, hG, hL⟩ := id X
    have r1 : room_1.cells = 601024 := rfl
    have r2 : room_1.slots = 7293034 := rfl
    refine g_iload C dL_law_23 4 rfl ?_
    refine g_aload_n C dL_law_25 rfl 0 rfl ?_
    intro H locs ls hP hS hl
    refine va_slen C.1.1 C.1.2.1 hX hb (show ¬ G.2.2.1 ≤ b by omega) hS dL_law_26 ?_
    refine lv_iconst (v := nI 5) C.1.1 C.1.2.1 dL_law_27 (by decide) ?_
    refine lv_isub C.1.1 C.1.2.1 dL_law_28 ?_
    refine lv_icmp_gt (tgt := 1442) C.1.1 C.1.2.1 dL_law_29 (by decide) (fun _ => ?_) (fun c29 => ?_)
    · refine lv_iconst (v := 1) C.1.1 C.1.2.1 dL_law_1442 (by decide) ?_
      refine va_forget (fun q hq => by have := hS.2.2 q hq; show s.heap.size ≤ q.base; rw [← hG]; exact this) ?_
      refine W.widen (k := 601024) (n := 7293034) (by omega) (by omega) ?_
      exact lw_ret C.1.1 C.1.2.1 hr C.2.2.2.2.1 dL_law_1443
    · have hi := lp_go hL (by omega) c29
      have hk : ∀ (c9 s9 : Nat) (V9 : wV) (I9 : wI) (J9 : wJ), c9 ≤ c0 + 6 * k + 6 → s9 ≤ s0 + 36 * k + 36 → Inv V9 I9 J9 → WW ((p, l, e, room_1, s, m, #[Value.ref b], below, meth, c) : wK) G c9 s9 (lw_Z below #[Value.ref b] s) V9 I9 J9 1436 [(0, .ref b), (1, .ref (G.2.1 0)), (2, .ref (G.2.1 7)), (3, .ref (G.2.1 80)), (4, .int (nI (5 * k)))] [] := by
        intro c9 s9 V9 I9 J9 e1 e2 hI9
        refine g_wd (c2 := c0 + 6 * (k + 1)) (s2 := s0 + 36 * (k + 1)) (by omega) (by omega) ?_
        refine g_iinc (v := nI (5 * (k + 1))) C [(4, .int (nI (5 * (k + 1)))), (0, .ref b), (1, .ref (G.2.1 0)), (2, .ref (G.2.1 7)), (3, .ref (G.2.1 80))] dL_law_1436 4 rfl (nI_add (5 * k) 5) (by decide) rfl ?_
        refine g_goto C 23 dL_law_1439 (by decide) ?_
        exact g_lv [1, 2, 3, 4, 0] rfl (ih (k + 1) V9 I9 J9 hI9 (by omega) (by omega))
      obtain ⟨w, hw, ew⟩ := and31 (xs (5 * k))
      have hk39 : WW ((p, l, e, room_1, s, m, #[Value.ref b], below, meth, c) : wK) G (c0 + 6 * k) (s0 + 36 * k) (lw_Z below #[Value.ref b] s) V I J 39 [(0, .ref b), (1, .ref (G.2.1 0)), (2, .ref (G.2.1 7)), (3, .ref (G.2.1 80)), (4, .int (nI (5 * k)))] [.int (nI w)] := by
        by_cases hw20 : 20 < w
        · exact g_tsO C 1436 dL_law_39 (Or.inr (by rw [nI_toInt (by omega)]; omega)) (by decide) (hk _ _ V I J (by omega) (by omega) hI)
        · have hc1 : c0 + 6 * k + 6 ≤ room_1.cells := by omega
          have hs1 : s0 + 36 * k + 36 ≤ room_1.slots := by omega
          rcases (show w = 0 ∨ w = 1 ∨ w = 2 ∨ w = 3 ∨ w = 4 ∨ w = 5 ∨ w = 6 ∨ w = 7 ∨ w = 8 ∨ w = 9 ∨ w = 10 ∨ w = 11 ∨ w = 12 ∨ w = 13 ∨ w = 14 ∨ w = 15 ∨ w = 16 ∨ w = 17 ∨ w = 18 ∨ w = 19 ∨ w = 20 by omega) with rfl | rfl | rfl | rfl | rfl | rfl | rfl | rfl | rfl | rfl | rfl | rfl | rfl | rfl | rfl | rfl | rfl | rfl | rfl | rfl | rfl
          · exact g_tsI C 136 dL_law_39 (by decide) (by decide) (off := 97) (by decide) (by decide) (lc_gate X hi hI hc1 hs1 (fun V9 I9 J9 h9 => hk _ _ V9 I9 J9 (Nat.le_refl _) (Nat.le_refl _) h9))
          · exact g_tsI C 180 dL_law_39 (by decide) (by decide) (off := 141) (by decide) (by decide) (lc_road X hi hI hc1 hs1 (fun V9 I9 J9 h9 => hk _ _ V9 I9 J9 (Nat.le_refl _) (Nat.le_refl _) h9))
          · exact g_tsI C 272 dL_law_39 (by decide) (by decide) (off := 233) (by decide) (by decide) (lc_rate X hi hI hc1 hs1 (fun V9 I9 J9 h9 => hk _ _ V9 I9 J9 (Nat.le_refl _) (Nat.le_refl _) h9))
          · exact g_tsI C 332 dL_law_39 (by decide) (by decide) (off := 293) (by decide) (by decide) (lc_most X hi hI hc1 hs1 (fun V9 I9 J9 h9 => hk _ _ V9 I9 J9 (Nat.le_refl _) (Nat.le_refl _) h9))
          · exact g_tsI C 388 dL_law_39 (by decide) (by decide) (off := 349) (by decide) (by decide) (lc_plate X hi hI hc1 hs1 (fun V9 I9 J9 h9 => hk _ _ V9 I9 J9 (Nat.le_refl _) (Nat.le_refl _) h9))
          · exact g_tsI C 448 dL_law_39 (by decide) (by decide) (off := 409) (by decide) (by decide) (lc_top X hi hI hc1 hs1 (fun V9 I9 J9 h9 => hk _ _ V9 I9 J9 (Nat.le_refl _) (Nat.le_refl _) h9))
          · exact g_tsI C 515 dL_law_39 (by decide) (by decide) (off := 476) (by decide) (by decide) (lc_exempt X hi hI hc1 hs1 (fun V9 I9 J9 h9 => hk _ _ V9 I9 J9 (Nat.le_refl _) (Nat.le_refl _) h9))
          · exact g_tsI C 595 dL_law_39 (by decide) (by decide) (off := 556) (by decide) (by decide) (lc_read X hi hI hc1 hs1 (fun V9 I9 J9 h9 => hk _ _ V9 I9 J9 (Nat.le_refl _) (Nat.le_refl _) h9))
          · exact g_tsI C 675 dL_law_39 (by decide) (by decide) (off := 636) (by decide) (by decide) (lc_strike X hi hI hc1 hs1 (fun V9 I9 J9 h9 => hk _ _ V9 I9 J9 (Nat.le_refl _) (Nat.le_refl _) h9))
          · exact g_tsI C 711 dL_law_39 (by decide) (by decide) (off := 672) (by decide) (by decide) (lc_pass X hi hI hc1 hs1 (fun V9 I9 J9 h9 => hk _ _ V9 I9 J9 (Nat.le_refl _) (Nat.le_refl _) h9))
          · exact g_tsI C 767 dL_law_39 (by decide) (by decide) (off := 728) (by decide) (by decide) (lc_bill X hi hI hc1 hs1 (fun V9 I9 J9 h9 => hk _ _ V9 I9 J9 (Nat.le_refl _) (Nat.le_refl _) h9))
          · exact g_tsI C 781 dL_law_39 (by decide) (by decide) (off := 742) (by decide) (by decide) (lc_distance X hi hI hc1 hs1 (fun V9 I9 J9 h9 => hk _ _ V9 I9 J9 (Nat.le_refl _) (Nat.le_refl _) h9))
          · exact g_tsI C 849 dL_law_39 (by decide) (by decide) (off := 810) (by decide) (by decide) (lc_way X hi hI hc1 hs1 (fun V9 I9 J9 h9 => hk _ _ V9 I9 J9 (Nat.le_refl _) (Nat.le_refl _) h9))
          · exact g_tsI C 929 dL_law_39 (by decide) (by decide) (off := 890) (by decide) (by decide) (lc_journeys X hi hI hc1 hs1 (fun V9 I9 J9 h9 => hk _ _ V9 I9 J9 (Nat.le_refl _) (Nat.le_refl _) h9))
          · exact g_tsI C 985 dL_law_39 (by decide) (by decide) (off := 946) (by decide) (by decide) (lc_journey X hi hI hc1 hs1 (fun V9 I9 J9 h9 => hk _ _ V9 I9 J9 (Nat.le_refl _) (Nat.le_refl _) h9))
          · exact g_tsI C 1065 dL_law_39 (by decide) (by decide) (off := 1026) (by decide) (by decide) (lc_ofReading X hi hI hc1 hs1 (fun V9 I9 J9 h9 => hk _ _ V9 I9 J9 (Nat.le_refl _) (Nat.le_refl _) h9))
          · exact g_tsI C 1133 dL_law_39 (by decide) (by decide) (off := 1094) (by decide) (by decide) (lc_due X hi hI hc1 hs1 (fun V9 I9 J9 h9 => hk _ _ V9 I9 J9 (Nat.le_refl _) (Nat.le_refl _) h9))
          · exact g_tsI C 1188 dL_law_39 (by decide) (by decide) (off := 1149) (by decide) (by decide) (lc_billed X hi hI hc1 hs1 (fun V9 I9 J9 h9 => hk _ _ V9 I9 J9 (Nat.le_refl _) (Nat.le_refl _) h9))
          · exact g_tsI C 1243 dL_law_39 (by decide) (by decide) (off := 1204) (by decide) (by decide) (lc_wallet X hi hI hc1 hs1 (fun V9 I9 J9 h9 => hk _ _ V9 I9 J9 (Nat.le_refl _) (Nat.le_refl _) h9))
          · exact g_tsI C 1298 dL_law_39 (by decide) (by decide) (off := 1259) (by decide) (by decide) (lc_own X hi hI hc1 hs1 (fun V9 I9 J9 h9 => hk _ _ V9 I9 J9 (Nat.le_refl _) (Nat.le_refl _) h9))
          · exact g_tsI C 1353 dL_law_39 (by decide) (by decide) (off := 1314) (by decide) (by decide) (lc_share X hi hI hc1 hs1 (fun V9 I9 J9 h9 => hk _ _ V9 I9 J9 (Nat.le_refl _) (Nat.le_refl _) h9))
      refine lv_aload_n C.1.1 C.1.2.1 dL_law_32 rfl (lv_at hl 0 rfl) ?_
      refine lv_iload C.1.1 C.1.2.1 dL_law_33 (lv_at hl 4 rfl) ?_
      refine va_sld C.1.1 C.1.2.1 hX hb (show ¬ G.2.2.1 ≤ b by omega) hS (vp_in_nI (show 5 * k < L by omega) (by omega)) dL_law_35 ?_
      rw [nI_clamp (by omega)]
      refine lv_bipush (v := nI 31) C.1.1 C.1.2.1 dL_law_36 (by decide) ?_
      refine lv_iand C.1.1 C.1.2.1 dL_law_38 ?_
      rw [ew]
      exact hk39 H locs ls hP hS hl
