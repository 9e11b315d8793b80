set_option maxRecDepth 100000 in
theorem m_X1_forgetAll {l : Launch} {G : wG} (hl : l.stackTraces = false) (hG : wD G) (V : wV) (I : wI) (J : wJ)  : Ctr l yX1_forgetAll cX1_forgetAll 1 none { frames := 0, cells := 0, slots := 0, locals := 0 } G [.ref (G.2.1 5)] V I J (pU none (upd V 6 (nI 0)) I J) (noX) := by
  refine ctr_of hl hG (by decide) (Nat.le_of_ble_eq_true rfl) [(0, .ref (G.2.1 5))] rfl ?_
  intro K hC hKl hRm hr hT
  subst hKl
  have hC : Cx K G RX1 cX1_forgetAll 1 := hC
  refine g_aload_n hC dX1_forgetAll_0 rfl 0 rfl ?_
  refine g_iconst (v := nI 0) hC dX1_forgetAll_1 (by decide) ?_
  refine gp_X1_33 hC dX1_forgetAll_2 ?_
  exact g_vret hC hr dX1_forgetAll_5 (Nat.le_of_ble_eq_true rfl) (Nat.le_of_ble_eq_true rfl) ⟨rfl, rfl, rfl, rfl⟩

set_option maxRecDepth 100000 in
theorem m_X1_begin {l : Launch} {G : wG} (hl : l.stackTraces = false) (hG : wD G) (V : wV) (I : wI) (J : wJ) (c r : Nat) (m : Int32) (hn : V 6 = nI c) (h1 : c < 100) (h2 : r < 100) : Ctr l yX1_begin cX1_begin 5 none { frames := 0, cells := 0, slots := 0, locals := 0 } G [.ref (G.2.1 5), .int (nI r), .int m] V I J (pU none (upd V 6 (nI (c + 1))) (bgI I c r m) J) (noX) := by
  refine ctr_of hl hG (by decide) (Nat.le_of_ble_eq_true rfl) [(0, .ref (G.2.1 5)), (1, .int (nI r)), (2, .int m)] rfl ?_
  intro K hC hKl hRm hr hT
  subst hKl
  have hC : Cx K G RX1 cX1_begin 5 := hC
  refine g_aload_n hC dX1_begin_0 rfl 0 rfl ?_
  refine gf_X1_33 hC dX1_begin_1 ?_
  refine g_eqI (x' := nI c) (by rw [hn]) ?_
  refine g_istore_n hC [(3, .int (nI c)), (0, .ref (G.2.1 5)), (1, .int (nI r)), (2, .int m)] dX1_begin_4 rfl (by decide) rfl ?_
  refine g_aload_n hC dX1_begin_5 rfl 1 rfl ?_
  refine gf_X1_9 hC dX1_begin_6 ?_
  refine g_iload_n hC dX1_begin_9 rfl 0 rfl ?_
  refine g_iload_n hC dX1_begin_10 rfl 3 rfl ?_
  refine n_iast hC 24 aa_24 c (show c < 100 by omega) dX1_begin_11 ?_
  refine g_aload_n hC dX1_begin_12 rfl 1 rfl ?_
  refine gf_X1_15 hC dX1_begin_13 ?_
  refine g_iload_n hC dX1_begin_16 rfl 0 rfl ?_
  refine g_iload_n hC dX1_begin_17 rfl 3 rfl ?_
  refine n_iast hC 25 aa_25 c (show c < 100 by omega) dX1_begin_18 ?_
  refine g_aload_n hC dX1_begin_19 rfl 1 rfl ?_
  refine gf_X1_18 hC dX1_begin_20 ?_
  refine g_iload_n hC dX1_begin_23 rfl 0 rfl ?_
  refine g_iconst (v := nI 1) hC dX1_begin_24 (by decide) ?_
  refine n_iast hC 26 aa_26 c (show c < 100 by omega) dX1_begin_25 ?_
  refine g_iconst (v := nI 0) hC dX1_begin_26 (by decide) ?_
  refine g_istore hC [(4, .int (nI 0)), (3, .int (nI c)), (0, .ref (G.2.1 5)), (1, .int (nI r)), (2, .int m)] dX1_begin_27 (by decide) rfl ?_
  refine g_iload hC dX1_begin_29 0 rfl ?_
  refine g_iconst (v := nI 4) hC dX1_begin_31 (by decide) ?_
  refine g_icmp_ge hC 51 dX1_begin_32 (by decide) (fun c_32 => ?_) (fun c_32 => ?_)
  · exact absurd c_32 (by decide)
  · refine g_aload_n hC dX1_begin_35 rfl 2 rfl ?_
    refine gf_X1_23 hC dX1_begin_36 ?_
    refine g_iload hC dX1_begin_39 0 rfl ?_
    refine n_aald34 hC 0 (show 0 < 4 by omega) dX1_begin_41 ?_
    refine g_iload_n hC dX1_begin_42 rfl 1 rfl ?_
    refine g_iconst (v := nI 0) hC dX1_begin_43 (by decide) ?_
    refine n_iast hC (47 + 0) (ar_34 (show 0 < 4 by omega)) c (by rw [al_34 (show 0 < 4 by omega)]; omega) dX1_begin_44 ?_
    refine g_iinc (v := nI 1) hC [(4, .int (nI 1)), (3, .int (nI c)), (0, .ref (G.2.1 5)), (1, .int (nI r)), (2, .int m)] dX1_begin_45 0 rfl (nI_i1 _) (by decide) rfl ?_
    refine g_goto hC 29 dX1_begin_48 (by decide) ?_
    refine g_iload hC dX1_begin_29 0 rfl ?_
    refine g_iconst (v := nI 4) hC dX1_begin_31 (by decide) ?_
    refine g_icmp_ge hC 51 dX1_begin_32 (by decide) (fun c_32 => ?_) (fun c_32 => ?_)
    · exact absurd c_32 (by decide)
    · refine g_aload_n hC dX1_begin_35 rfl 2 rfl ?_
      refine gf_X1_23 hC dX1_begin_36 ?_
      refine g_iload hC dX1_begin_39 0 rfl ?_
      refine n_aald34 hC 1 (show 1 < 4 by omega) dX1_begin_41 ?_
      refine g_iload_n hC dX1_begin_42 rfl 1 rfl ?_
      refine g_iconst (v := nI 0) hC dX1_begin_43 (by decide) ?_
      refine n_iast hC (47 + 1) (ar_34 (show 1 < 4 by omega)) c (by rw [al_34 (show 1 < 4 by omega)]; omega) dX1_begin_44 ?_
      refine g_iinc (v := nI 2) hC [(4, .int (nI 2)), (3, .int (nI c)), (0, .ref (G.2.1 5)), (1, .int (nI r)), (2, .int m)] dX1_begin_45 0 rfl (nI_i1 _) (by decide) rfl ?_
      refine g_goto hC 29 dX1_begin_48 (by decide) ?_
      refine g_iload hC dX1_begin_29 0 rfl ?_
      refine g_iconst (v := nI 4) hC dX1_begin_31 (by decide) ?_
      refine g_icmp_ge hC 51 dX1_begin_32 (by decide) (fun c_32 => ?_) (fun c_32 => ?_)
      · exact absurd c_32 (by decide)
      · refine g_aload_n hC dX1_begin_35 rfl 2 rfl ?_
        refine gf_X1_23 hC dX1_begin_36 ?_
        refine g_iload hC dX1_begin_39 0 rfl ?_
        refine n_aald34 hC 2 (show 2 < 4 by omega) dX1_begin_41 ?_
        refine g_iload_n hC dX1_begin_42 rfl 1 rfl ?_
        refine g_iconst (v := nI 0) hC dX1_begin_43 (by decide) ?_
        refine n_iast hC (47 + 2) (ar_34 (show 2 < 4 by omega)) c (by rw [al_34 (show 2 < 4 by omega)]; omega) dX1_begin_44 ?_
        refine g_iinc (v := nI 3) hC [(4, .int (nI 3)), (3, .int (nI c)), (0, .ref (G.2.1 5)), (1, .int (nI r)), (2, .int m)] dX1_begin_45 0 rfl (nI_i1 _) (by decide) rfl ?_
        refine g_goto hC 29 dX1_begin_48 (by decide) ?_
        refine g_iload hC dX1_begin_29 0 rfl ?_
        refine g_iconst (v := nI 4) hC dX1_begin_31 (by decide) ?_
        refine g_icmp_ge hC 51 dX1_begin_32 (by decide) (fun c_32 => ?_) (fun c_32 => ?_)
        · exact absurd c_32 (by decide)
        · refine g_aload_n hC dX1_begin_35 rfl 2 rfl ?_
          refine gf_X1_23 hC dX1_begin_36 ?_
          refine g_iload hC dX1_begin_39 0 rfl ?_
          refine n_aald34 hC 3 (show 3 < 4 by omega) dX1_begin_41 ?_
          refine g_iload_n hC dX1_begin_42 rfl 1 rfl ?_
          refine g_iconst (v := nI 0) hC dX1_begin_43 (by decide) ?_
          refine n_iast hC (47 + 3) (ar_34 (show 3 < 4 by omega)) c (by rw [al_34 (show 3 < 4 by omega)]; omega) dX1_begin_44 ?_
          refine g_iinc (v := nI 4) hC [(4, .int (nI 4)), (3, .int (nI c)), (0, .ref (G.2.1 5)), (1, .int (nI r)), (2, .int m)] dX1_begin_45 0 rfl (nI_i1 _) (by decide) rfl ?_
          refine g_goto hC 29 dX1_begin_48 (by decide) ?_
          refine g_iload hC dX1_begin_29 0 rfl ?_
          refine g_iconst (v := nI 4) hC dX1_begin_31 (by decide) ?_
          refine g_icmp_ge hC 51 dX1_begin_32 (by decide) (fun c_32 => ?_) (fun c_32 => ?_)
          · refine g_aload_n hC dX1_begin_51 rfl 2 rfl ?_
            refine gf_X1_26 hC dX1_begin_52 ?_
            refine g_iload_n hC dX1_begin_55 rfl 3 rfl ?_
            refine g_iload_n hC dX1_begin_56 rfl 1 rfl ?_
            refine n_iast hC 27 aa_27 r (show r < 100 by omega) dX1_begin_57 ?_
            refine g_aload_n hC dX1_begin_58 rfl 2 rfl ?_
            refine gf_X1_29 hC dX1_begin_59 ?_
            refine g_iload_n hC dX1_begin_62 rfl 3 rfl ?_
            refine g_iconst (v := nI 0) hC dX1_begin_63 (by decide) ?_
            refine n_zast hC 28 aa_28 r (show r < 100 by omega) rfl dX1_begin_64 ?_
            refine g_aload_n hC dX1_begin_65 rfl 2 rfl ?_
            refine g_dup hC dX1_begin_66 rfl ?_
            refine gf_X1_33 hC dX1_begin_67 ?_
            refine g_eqI (x' := nI c) (by rw [hn]) ?_
            refine g_iconst (v := nI 1) hC dX1_begin_70 (by decide) ?_
            refine g_iadd hC dX1_begin_71 ?_
            refine g_eqI (x' := nI (c + 1)) (nI_add _ _) ?_
            refine gp_X1_33 hC dX1_begin_72 ?_
            exact g_vret hC hr dX1_begin_75 (Nat.le_of_ble_eq_true rfl) (Nat.le_of_ble_eq_true rfl) ⟨rfl, rfl, rfl, rfl⟩
          · exact absurd c_32 (by decide)

set_option maxRecDepth 100000 in
theorem m_X1_goOn {l : Launch} {G : wG} (hl : l.stackTraces = false) (hG : wD G) (V : wV) (I : wI) (J : wJ) (r j : Nat) (m : Int32) (h1 : j < 100) (h2 : r < 100) : Ctr l yX1_goOn cX1_goOn 4 none { frames := 0, cells := 0, slots := 0, locals := 0 } G [.ref (G.2.1 5), .int (nI r), .int (nI j), .int m] V I J (pU none V (goI I r j m) J) (noX) := by
  refine ctr_of hl hG (by decide) (Nat.le_of_ble_eq_true rfl) [(0, .ref (G.2.1 5)), (1, .int (nI r)), (2, .int (nI j)), (3, .int m)] rfl ?_
  intro K hC hKl hRm hr hT
  subst hKl
  have hC : Cx K G RX1 cX1_goOn 4 := hC
  refine g_aload_n hC dX1_goOn_0 rfl 0 rfl ?_
  refine gf_X1_15 hC dX1_goOn_1 ?_
  refine g_iload_n hC dX1_goOn_4 rfl 2 rfl ?_
  refine g_iload_n hC dX1_goOn_5 rfl 3 rfl ?_
  refine n_iast hC 25 aa_25 j (show j < 100 by omega) dX1_goOn_6 ?_
  refine g_aload_n hC dX1_goOn_7 rfl 0 rfl ?_
  refine gf_X1_18 hC dX1_goOn_8 ?_
  refine g_iload_n hC dX1_goOn_11 rfl 2 rfl ?_
  refine g_dup2 hC dX1_goOn_12 rfl rfl ?_
  refine n_iald hC 26 aa_26 j (show j < 100 by omega) dX1_goOn_13 ?_
  refine g_eqI (x' := I 26 j) (by rw [uI_n (by decide)]) ?_
  refine g_iconst (v := nI 1) hC dX1_goOn_14 (by decide) ?_
  refine g_iadd hC dX1_goOn_15 ?_
  refine n_iast hC 26 aa_26 j (show j < 100 by omega) dX1_goOn_16 ?_
  refine g_aload_n hC dX1_goOn_17 rfl 0 rfl ?_
  refine gf_X1_26 hC dX1_goOn_18 ?_
  refine g_iload_n hC dX1_goOn_21 rfl 1 rfl ?_
  refine g_iload_n hC dX1_goOn_22 rfl 2 rfl ?_
  refine n_iast hC 27 aa_27 r (show r < 100 by omega) dX1_goOn_23 ?_
  refine g_aload_n hC dX1_goOn_24 rfl 0 rfl ?_
  refine gf_X1_29 hC dX1_goOn_25 ?_
  refine g_iload_n hC dX1_goOn_28 rfl 1 rfl ?_
  refine g_iconst (v := nI 0) hC dX1_goOn_29 (by decide) ?_
  refine n_zast hC 28 aa_28 r (show r < 100 by omega) rfl dX1_goOn_30 ?_
  exact g_vret hC hr dX1_goOn_31 (Nat.le_of_ble_eq_true rfl) (Nat.le_of_ble_eq_true rfl) ⟨rfl, rfl, rfl, rfl⟩

set_option maxRecDepth 100000 in
theorem m_X1_putDouble {l : Launch} {G : wG} (hl : l.stackTraces = false) (hG : wD G) (V : wV) (I : wI) (J : wJ) (r j : Nat) (h1 : j < 100) (h2 : r < 100) : Ctr l yX1_putDouble cX1_putDouble 3 none { frames := 0, cells := 0, slots := 0, locals := 0 } G [.ref (G.2.1 5), .int (nI r), .int (nI j)] V I J (pU none V (pdI I r j) J) (noX) := by
  refine ctr_of hl hG (by decide) (Nat.le_of_ble_eq_true rfl) [(0, .ref (G.2.1 5)), (1, .int (nI r)), (2, .int (nI j))] rfl ?_
  intro K hC hKl hRm hr hT
  subst hKl
  have hC : Cx K G RX1 cX1_putDouble 3 := hC
  refine g_aload_n hC dX1_putDouble_0 rfl 0 rfl ?_
  refine gf_X1_26 hC dX1_putDouble_1 ?_
  refine g_iload_n hC dX1_putDouble_4 rfl 1 rfl ?_
  refine g_iload_n hC dX1_putDouble_5 rfl 2 rfl ?_
  refine n_iast hC 27 aa_27 r (show r < 100 by omega) dX1_putDouble_6 ?_
  refine g_aload_n hC dX1_putDouble_7 rfl 0 rfl ?_
  refine gf_X1_29 hC dX1_putDouble_8 ?_
  refine g_iload_n hC dX1_putDouble_11 rfl 1 rfl ?_
  refine g_iconst (v := nI 1) hC dX1_putDouble_12 (by decide) ?_
  refine n_zast hC 28 aa_28 r (show r < 100 by omega) rfl dX1_putDouble_13 ?_
  exact g_vret hC hr dX1_putDouble_14 (Nat.le_of_ble_eq_true rfl) (Nat.le_of_ble_eq_true rfl) ⟨rfl, rfl, rfl, rfl⟩

set_option maxRecDepth 100000 in
theorem m_X1_pay {l : Launch} {G : wG} (hl : l.stackTraces = false) (hG : wD G) (V : wV) (I : wI) (J : wJ) (j o : Nat) (x : Int32) (h1 : j < 100) (h2 : o < 4) : Ctr l yX1_pay cX1_pay 4 none { frames := 0, cells := 0, slots := 0, locals := 0 } G [.ref (G.2.1 5), .int (nI j), .int (nI o), .int x] V I J (pU none V (sI I (47 + o) j (I (47 + o) j + x)) J) (noX) := by
  refine ctr_of hl hG (by decide) (Nat.le_of_ble_eq_true rfl) [(0, .ref (G.2.1 5)), (1, .int (nI j)), (2, .int (nI o)), (3, .int x)] rfl ?_
  intro K hC hKl hRm hr hT
  subst hKl
  have hC : Cx K G RX1 cX1_pay 4 := hC
  refine g_aload_n hC dX1_pay_0 rfl 0 rfl ?_
  refine gf_X1_23 hC dX1_pay_1 ?_
  refine g_iload_n hC dX1_pay_4 rfl 2 rfl ?_
  refine n_aald34 hC o (show o < 4 by omega) dX1_pay_5 ?_
  refine g_iload_n hC dX1_pay_6 rfl 1 rfl ?_
  refine g_dup2 hC dX1_pay_7 rfl rfl ?_
  refine n_iald hC (47 + o) (ar_34 (show o < 4 by omega)) j (by rw [al_34 (show o < 4 by omega)]; omega) dX1_pay_8 ?_
  refine g_iload_n hC dX1_pay_9 rfl 3 rfl ?_
  refine g_iadd hC dX1_pay_10 ?_
  refine n_iast hC (47 + o) (ar_34 (show o < 4 by omega)) j (by rw [al_34 (show o < 4 by omega)]; omega) dX1_pay_11 ?_
  exact g_vret hC hr dX1_pay_12 (Nat.le_of_ble_eq_true rfl) (Nat.le_of_ble_eq_true rfl) ⟨rfl, rfl, rfl, rfl⟩

set_option maxRecDepth 100000 in
theorem m_X1_wholeOf {l : Launch} {G : wG} (hl : l.stackTraces = false) (hG : wD G) (V : wV) (I : wI) (J : wJ) (j : Nat) (h1 : j < 100) : Ctr l yX1_wholeOf cX1_wholeOf 4 (some .int) { frames := 0, cells := 0, slots := 0, locals := 0 } G [.ref (G.2.1 5), .int (nI j)] V I J (pU (some (.int (wh I j))) V I J) (noX) := by
  refine ctr_of hl hG (by decide) (Nat.le_of_ble_eq_true rfl) [(0, .ref (G.2.1 5)), (1, .int (nI j))] rfl ?_
  intro K hC hKl hRm hr hT
  subst hKl
  have hC : Cx K G RX1 cX1_wholeOf 4 := hC
  refine g_iconst (v := nI 0) hC dX1_wholeOf_0 (by decide) ?_
  refine g_istore_n hC [(2, .int (nI 0)), (0, .ref (G.2.1 5)), (1, .int (nI j))] dX1_wholeOf_1 rfl (by decide) rfl ?_
  refine g_iconst (v := nI 0) hC dX1_wholeOf_2 (by decide) ?_
  refine g_istore_n hC [(3, .int (nI 0)), (2, .int (nI 0)), (0, .ref (G.2.1 5)), (1, .int (nI j))] dX1_wholeOf_3 rfl (by decide) rfl ?_
  refine g_iload_n hC dX1_wholeOf_4 rfl 0 rfl ?_
  refine g_iconst (v := nI 4) hC dX1_wholeOf_5 (by decide) ?_
  refine g_icmp_ge hC 26 dX1_wholeOf_6 (by decide) (fun c_6 => ?_) (fun c_6 => ?_)
  · exact absurd c_6 (by decide)
  · refine g_iload_n hC dX1_wholeOf_9 rfl 1 rfl ?_
    refine g_aload_n hC dX1_wholeOf_10 rfl 2 rfl ?_
    refine gf_X1_23 hC dX1_wholeOf_11 ?_
    refine g_iload_n hC dX1_wholeOf_14 rfl 0 rfl ?_
    refine n_aald34 hC 0 (show 0 < 4 by omega) dX1_wholeOf_15 ?_
    refine g_iload_n hC dX1_wholeOf_16 rfl 3 rfl ?_
    refine n_iald hC (47 + 0) (ar_34 (show 0 < 4 by omega)) j (by rw [al_34 (show 0 < 4 by omega)]; omega) dX1_wholeOf_17 ?_
    refine g_iadd hC dX1_wholeOf_18 ?_
    refine g_istore_n hC [(2, .int ((nI 0) + (I (47 + 0) j))), (3, .int (nI 0)), (0, .ref (G.2.1 5)), (1, .int (nI j))] dX1_wholeOf_19 rfl (by decide) rfl ?_
    refine g_iinc (v := nI 1) hC [(3, .int (nI 1)), (2, .int ((nI 0) + (I (47 + 0) j))), (0, .ref (G.2.1 5)), (1, .int (nI j))] dX1_wholeOf_20 1 rfl (nI_i1 _) (by decide) rfl ?_
    refine g_goto hC 4 dX1_wholeOf_23 (by decide) ?_
    refine g_iload_n hC dX1_wholeOf_4 rfl 0 rfl ?_
    refine g_iconst (v := nI 4) hC dX1_wholeOf_5 (by decide) ?_
    refine g_icmp_ge hC 26 dX1_wholeOf_6 (by decide) (fun c_6 => ?_) (fun c_6 => ?_)
    · exact absurd c_6 (by decide)
    · refine g_iload_n hC dX1_wholeOf_9 rfl 1 rfl ?_
      refine g_aload_n hC dX1_wholeOf_10 rfl 2 rfl ?_
      refine gf_X1_23 hC dX1_wholeOf_11 ?_
      refine g_iload_n hC dX1_wholeOf_14 rfl 0 rfl ?_
      refine n_aald34 hC 1 (show 1 < 4 by omega) dX1_wholeOf_15 ?_
      refine g_iload_n hC dX1_wholeOf_16 rfl 3 rfl ?_
      refine n_iald hC (47 + 1) (ar_34 (show 1 < 4 by omega)) j (by rw [al_34 (show 1 < 4 by omega)]; omega) dX1_wholeOf_17 ?_
      refine g_iadd hC dX1_wholeOf_18 ?_
      refine g_istore_n hC [(2, .int (((nI 0) + (I (47 + 0) j)) + (I (47 + 1) j))), (3, .int (nI 1)), (0, .ref (G.2.1 5)), (1, .int (nI j))] dX1_wholeOf_19 rfl (by decide) rfl ?_
      refine g_iinc (v := nI 2) hC [(3, .int (nI 2)), (2, .int (((nI 0) + (I (47 + 0) j)) + (I (47 + 1) j))), (0, .ref (G.2.1 5)), (1, .int (nI j))] dX1_wholeOf_20 1 rfl (nI_i1 _) (by decide) rfl ?_
      refine g_goto hC 4 dX1_wholeOf_23 (by decide) ?_
      refine g_iload_n hC dX1_wholeOf_4 rfl 0 rfl ?_
      refine g_iconst (v := nI 4) hC dX1_wholeOf_5 (by decide) ?_
      refine g_icmp_ge hC 26 dX1_wholeOf_6 (by decide) (fun c_6 => ?_) (fun c_6 => ?_)
      · exact absurd c_6 (by decide)
      · refine g_iload_n hC dX1_wholeOf_9 rfl 1 rfl ?_
        refine g_aload_n hC dX1_wholeOf_10 rfl 2 rfl ?_
        refine gf_X1_23 hC dX1_wholeOf_11 ?_
        refine g_iload_n hC dX1_wholeOf_14 rfl 0 rfl ?_
        refine n_aald34 hC 2 (show 2 < 4 by omega) dX1_wholeOf_15 ?_
        refine g_iload_n hC dX1_wholeOf_16 rfl 3 rfl ?_
        refine n_iald hC (47 + 2) (ar_34 (show 2 < 4 by omega)) j (by rw [al_34 (show 2 < 4 by omega)]; omega) dX1_wholeOf_17 ?_
        refine g_iadd hC dX1_wholeOf_18 ?_
        refine g_istore_n hC [(2, .int ((((nI 0) + (I (47 + 0) j)) + (I (47 + 1) j)) + (I (47 + 2) j))), (3, .int (nI 2)), (0, .ref (G.2.1 5)), (1, .int (nI j))] dX1_wholeOf_19 rfl (by decide) rfl ?_
        refine g_iinc (v := nI 3) hC [(3, .int (nI 3)), (2, .int ((((nI 0) + (I (47 + 0) j)) + (I (47 + 1) j)) + (I (47 + 2) j))), (0, .ref (G.2.1 5)), (1, .int (nI j))] dX1_wholeOf_20 1 rfl (nI_i1 _) (by decide) rfl ?_
        refine g_goto hC 4 dX1_wholeOf_23 (by decide) ?_
        refine g_iload_n hC dX1_wholeOf_4 rfl 0 rfl ?_
        refine g_iconst (v := nI 4) hC dX1_wholeOf_5 (by decide) ?_
        refine g_icmp_ge hC 26 dX1_wholeOf_6 (by decide) (fun c_6 => ?_) (fun c_6 => ?_)
        · exact absurd c_6 (by decide)
        · refine g_iload_n hC dX1_wholeOf_9 rfl 1 rfl ?_
          refine g_aload_n hC dX1_wholeOf_10 rfl 2 rfl ?_
          refine gf_X1_23 hC dX1_wholeOf_11 ?_
          refine g_iload_n hC dX1_wholeOf_14 rfl 0 rfl ?_
          refine n_aald34 hC 3 (show 3 < 4 by omega) dX1_wholeOf_15 ?_
          refine g_iload_n hC dX1_wholeOf_16 rfl 3 rfl ?_
          refine n_iald hC (47 + 3) (ar_34 (show 3 < 4 by omega)) j (by rw [al_34 (show 3 < 4 by omega)]; omega) dX1_wholeOf_17 ?_
          refine g_iadd hC dX1_wholeOf_18 ?_
          refine g_istore_n hC [(2, .int (((((nI 0) + (I (47 + 0) j)) + (I (47 + 1) j)) + (I (47 + 2) j)) + (I (47 + 3) j))), (3, .int (nI 3)), (0, .ref (G.2.1 5)), (1, .int (nI j))] dX1_wholeOf_19 rfl (by decide) rfl ?_
          refine g_iinc (v := nI 4) hC [(3, .int (nI 4)), (2, .int (((((nI 0) + (I (47 + 0) j)) + (I (47 + 1) j)) + (I (47 + 2) j)) + (I (47 + 3) j))), (0, .ref (G.2.1 5)), (1, .int (nI j))] dX1_wholeOf_20 1 rfl (nI_i1 _) (by decide) rfl ?_
          refine g_goto hC 4 dX1_wholeOf_23 (by decide) ?_
          refine g_iload_n hC dX1_wholeOf_4 rfl 0 rfl ?_
          refine g_iconst (v := nI 4) hC dX1_wholeOf_5 (by decide) ?_
          refine g_icmp_ge hC 26 dX1_wholeOf_6 (by decide) (fun c_6 => ?_) (fun c_6 => ?_)
          · refine g_iload_n hC dX1_wholeOf_26 rfl 1 rfl ?_
            exact g_iret hC hr dX1_wholeOf_27 (Nat.le_of_ble_eq_true rfl) (Nat.le_of_ble_eq_true rfl) ⟨rfl, rfl, rfl, rfl⟩
          · exact absurd c_6 (by decide)

set_option maxRecDepth 100000 in
theorem m_X1_fareOf {l : Launch} {G : wG} (hl : l.stackTraces = false) (hG : wD G) (V : wV) (I : wI) (J : wJ) (j : Nat) (m : Int32) (h1 : j < 100) : Ctr l yX1_fareOf cX1_fareOf 3 (some .int) { frames := 1, cells := 0, slots := 0, locals := 23 } G [.ref (G.2.1 5), .int (nI j), .int m] V I J (pU (some (.int (fr I j m))) V I J) (noX) := by
  refine ctr_of hl hG (by decide) (Nat.le_of_ble_eq_true rfl) [(0, .ref (G.2.1 5)), (1, .int (nI j)), (2, .int m)] rfl ?_
  intro K hC hKl hRm hr hT
  subst hKl
  have hC : Cx K G RX1 cX1_fareOf 3 := hC
  refine g_aload_n hC dX1_fareOf_0 rfl 0 rfl ?_
  refine g_iload_n hC dX1_fareOf_1 rfl 1 rfl ?_
  refine g_cV hC [.int (nI j)] 5 (m_X1_wholeOf hl hG V I J j (by omega)) rfl (st2 := [.int (wh I j)]) rfl (by decide) rfl rfl rfl tw_339 tw_341 tw_5 tw_36 tw_342 pd_X1_wholeOf ⟨rfl, rfl⟩ (by rw [hRm]; exact ⟨Nat.le_of_ble_eq_true rfl, Nat.le_of_ble_eq_true rfl, Nat.le_of_ble_eq_true rfl, Nat.le_of_ble_eq_true rfl⟩) (Nat.le_of_ble_eq_true rfl) dX1_fareOf_2 ?_
  refine g_iload_n hC dX1_fareOf_5 rfl 2 rfl ?_
  refine g_min hC tw_343 tw_min_s tw_min_i tw_min_c (by rw [hRm]; decide) (by rw [hRm]; exact Nat.le_of_ble_eq_true rfl) (by rw [hRm]; exact Nat.le_of_ble_eq_true rfl) (by rw [hRm]; exact Nat.le_of_ble_eq_true rfl) dX1_fareOf_6 ?_
  exact g_iret hC hr dX1_fareOf_9 (Nat.le_of_ble_eq_true rfl) (Nat.le_of_ble_eq_true rfl) ⟨rfl, rfl, rfl, rfl⟩

set_option maxRecDepth 100000 in
theorem m_X1_cutShare {l : Launch} {G : wG} (hl : l.stackTraces = false) (hG : wD G) (V : wV) (I : wI) (J : wJ) (j o : Nat) (m w : Int32) (h1 : j < 100) (h2 : o < 4) : Ctr l yX1_cutShare cX1_cutShare 5 (some .int) { frames := 0, cells := 0, slots := 0, locals := 0 } G [.ref (G.2.1 5), .int (nI j), .int (nI o), .int m, .int w] V I J (pU (some (.int (cs I j o m w))) V I J) (noX) := by
  refine ctr_of hl hG (by decide) (Nat.le_of_ble_eq_true rfl) [(0, .ref (G.2.1 5)), (1, .int (nI j)), (2, .int (nI o)), (3, .int m), (4, .int w)] rfl ?_
  intro K hC hKl hRm hr hT
  subst hKl
  have hC : Cx K G RX1 cX1_cutShare 5 := hC
  refine g_iload hC dX1_cutShare_0 4 rfl ?_
  refine g_if_gt hC 7 dX1_cutShare_2 (by decide) (fun c_2 => ?_) (fun c_2 => ?_)
  · refine g_aload_n hC dX1_cutShare_7 rfl 0 rfl ?_
    refine gf_X1_23 hC dX1_cutShare_8 ?_
    refine g_iload_n hC dX1_cutShare_11 rfl 2 rfl ?_
    refine n_aald34 hC o (show o < 4 by omega) dX1_cutShare_12 ?_
    refine g_iload_n hC dX1_cutShare_13 rfl 1 rfl ?_
    refine n_iald hC (47 + o) (ar_34 (show o < 4 by omega)) j (by rw [al_34 (show o < 4 by omega)]; omega) dX1_cutShare_14 ?_
    refine g_i2l hC dX1_cutShare_15 ?_
    refine g_iload_n hC dX1_cutShare_16 rfl 3 rfl ?_
    refine g_i2l hC dX1_cutShare_17 ?_
    refine g_lmul hC dX1_cutShare_18 ?_
    refine g_iload hC dX1_cutShare_19 4 rfl ?_
    refine g_i2l hC dX1_cutShare_21 ?_
    refine g_ldiv hC dX1_cutShare_22 (w64_ne c_2) ?_
    refine g_l2i hC dX1_cutShare_23 ?_
    exact g_iret hC hr dX1_cutShare_24 (Nat.le_of_ble_eq_true rfl) (Nat.le_of_ble_eq_true rfl) ⟨by unfold cs; rw [if_pos c_2], rfl, rfl, rfl⟩
  · refine g_iconst (v := nI 0) hC dX1_cutShare_5 (by decide) ?_
    exact g_iret hC hr dX1_cutShare_6 (Nat.le_of_ble_eq_true rfl) (Nat.le_of_ble_eq_true rfl) ⟨by unfold cs; rw [if_neg c_2], rfl, rfl, rfl⟩

set_option maxRecDepth 100000 in
theorem m_X1_ownerOfTheMost {l : Launch} {G : wG} (hl : l.stackTraces = false) (hG : wD G) (V : wV) (I : wI) (J : wJ) (j : Nat) (h1 : j < 100) : Ctr l yX1_ownerOfTheMost cX1_ownerOfTheMost 4 (some .int) { frames := 0, cells := 0, slots := 0, locals := 0 } G [.ref (G.2.1 5), .int (nI j)] V I J (pU (some (.int (nI (bO I j 3)))) V I J) (noX) := by
  refine ctr_of hl hG (by decide) (Nat.le_of_ble_eq_true rfl) [(0, .ref (G.2.1 5)), (1, .int (nI j))] rfl ?_
  intro K hC hKl hRm hr hT
  subst hKl
  have hC : Cx K G RX1 cX1_ownerOfTheMost 4 := hC
  have lp_4 : ∀ (k9 : Nat) (k : Nat) (hk : k ≤ 3) (hk9 : 3 < k + k9), WW K G 0 0 (QM K G { frames := 0, cells := 0, slots := 0, locals := 0 } (pU (some (.int (nI (bO I j 3)))) V I J) (noX)) V I J 4 [(3, .int (nI (k + 1))), (2, .int (nI (bO I j k))), (0, .ref (G.2.1 5)), (1, .int (nI j))] [] := by
    intro k9
    induction k9 with
    | zero =>
      intro k hk hk9
      omega
    | succ k9 ih =>
      intro k hk hk9
      have hb := bO_le I j k
      refine g_iload_n hC dX1_ownerOfTheMost_4 rfl 0 rfl ?_
      refine g_iconst (v := nI 4) hC dX1_ownerOfTheMost_5 (by decide) ?_
      refine g_icmp_ge hC 36 dX1_ownerOfTheMost_6 (by decide) (fun c_6 => ?_) (fun c_6 => ?_)
      · have d_6 : 4 ≤ (k + 1) := (nI_leI (by omega) (by omega)).mp c_6
        refine g_iload_n hC dX1_ownerOfTheMost_36 rfl 1 rfl ?_
        exact g_iret hC hr dX1_ownerOfTheMost_37 (Nat.le_of_ble_eq_true rfl) (Nat.le_of_ble_eq_true rfl) ⟨by rw [show k = 3 by omega], rfl, rfl, rfl⟩
      · have d_6 : ¬ 4 ≤ (k + 1) := fun q => c_6 ((nI_leI (by omega) (by omega)).mpr q)
        refine g_aload_n hC dX1_ownerOfTheMost_9 rfl 2 rfl ?_
        refine gf_X1_23 hC dX1_ownerOfTheMost_10 ?_
        refine g_iload_n hC dX1_ownerOfTheMost_13 rfl 0 rfl ?_
        refine n_aald34 hC (k + 1) (show k + 1 < 4 by omega) dX1_ownerOfTheMost_14 ?_
        refine g_iload_n hC dX1_ownerOfTheMost_15 rfl 3 rfl ?_
        refine n_iald hC (47 + (k + 1)) (ar_34 (show (k + 1) < 4 by omega)) j (by rw [al_34 (show (k + 1) < 4 by omega)]; omega) dX1_ownerOfTheMost_16 ?_
        refine g_aload_n hC dX1_ownerOfTheMost_17 rfl 2 rfl ?_
        refine gf_X1_23 hC dX1_ownerOfTheMost_18 ?_
        refine g_iload_n hC dX1_ownerOfTheMost_21 rfl 1 rfl ?_
        refine n_aald34 hC (bO I j k) (show bO I j k < 4 by omega) dX1_ownerOfTheMost_22 ?_
        refine g_iload_n hC dX1_ownerOfTheMost_23 rfl 3 rfl ?_
        refine n_iald hC (47 + (bO I j k)) (ar_34 (show (bO I j k) < 4 by omega)) j (by rw [al_34 (show (bO I j k) < 4 by omega)]; omega) dX1_ownerOfTheMost_24 ?_
        refine g_icmp_le hC 30 dX1_ownerOfTheMost_25 (by decide) (fun c_25 => ?_) (fun c_25 => ?_)
        · refine g_iinc (v := nI ((k + 1) + 1)) hC [(3, .int (nI ((k + 1) + 1))), (2, .int (nI (bO I j k))), (0, .ref (G.2.1 5)), (1, .int (nI j))] dX1_ownerOfTheMost_30 0 rfl (nI_i1 _) (by decide) rfl ?_
          refine g_goto hC 4 dX1_ownerOfTheMost_33 (by decide) ?_
          refine g_at rfl (lv2 := [(3, .int (nI (k + 1 + 1))), (2, .int (nI (bO I j (k + 1)))), (0, .ref (G.2.1 5)), (1, .int (nI j))]) (by rw [show bO I j (k + 1) = (if I (47 + (k + 1)) j ≤ I (47 + bO I j k) j then bO I j k else k + 1) from rfl]; first | rw [if_pos c_25] | rw [if_neg c_25]) rfl ?_
          exact ih (k + 1) (by omega) (by omega)
        · refine g_iload_n hC dX1_ownerOfTheMost_28 rfl 0 rfl ?_
          refine g_istore_n hC [(2, .int (nI (k + 1))), (3, .int (nI (k + 1))), (0, .ref (G.2.1 5)), (1, .int (nI j))] dX1_ownerOfTheMost_29 rfl (by decide) rfl ?_
          refine g_iinc (v := nI ((k + 1) + 1)) hC [(3, .int (nI ((k + 1) + 1))), (2, .int (nI (k + 1))), (0, .ref (G.2.1 5)), (1, .int (nI j))] dX1_ownerOfTheMost_30 1 rfl (nI_i1 _) (by decide) rfl ?_
          refine g_goto hC 4 dX1_ownerOfTheMost_33 (by decide) ?_
          refine g_at rfl (lv2 := [(3, .int (nI (k + 1 + 1))), (2, .int (nI (bO I j (k + 1)))), (0, .ref (G.2.1 5)), (1, .int (nI j))]) (by rw [show bO I j (k + 1) = (if I (47 + (k + 1)) j ≤ I (47 + bO I j k) j then bO I j k else k + 1) from rfl]; first | rw [if_pos c_25] | rw [if_neg c_25]) rfl ?_
          exact ih (k + 1) (by omega) (by omega)
  refine g_iconst (v := nI 0) hC dX1_ownerOfTheMost_0 (by decide) ?_
  refine g_istore_n hC [(2, .int (nI 0)), (0, .ref (G.2.1 5)), (1, .int (nI j))] dX1_ownerOfTheMost_1 rfl (by decide) rfl ?_
  refine g_iconst (v := nI 1) hC dX1_ownerOfTheMost_2 (by decide) ?_
  refine g_istore_n hC [(3, .int (nI 1)), (2, .int (nI 0)), (0, .ref (G.2.1 5)), (1, .int (nI j))] dX1_ownerOfTheMost_3 rfl (by decide) rfl ?_
  exact lp_4 4 0 (by omega) (by omega)

set_option maxRecDepth 100000 in
theorem m_X1_shareOf {l : Launch} {G : wG} (hl : l.stackTraces = false) (hG : wD G) (V : wV) (I : wI) (J : wJ) (j o : Nat) (m : Int32) (h1 : j < 100) (h2 : o < 4) : Ctr l yX1_shareOf cX1_shareOf 7 (some .int) { frames := 1, cells := 0, slots := 0, locals := 24 } G [.ref (G.2.1 5), .int (nI j), .int (nI o), .int m] V I J (pU (some (.int (shr I j o m))) V I J) (noX) := by
  refine ctr_of hl hG (by decide) (Nat.le_of_ble_eq_true rfl) [(0, .ref (G.2.1 5)), (1, .int (nI j)), (2, .int (nI o)), (3, .int m)] rfl ?_
  intro K hC hKl hRm hr hT
  subst hKl
  have hC : Cx K G RX1 cX1_shareOf 7 := hC
  have hb := bO_le I j 3
  have lp_47 : ∀ (k9 : Nat) (a : Nat) (ha : a ≤ 4) (hk : 4 < a + k9) (hw : m < wh I j) (ho : o = bO I j 3), WW K G 0 0 (QM K G { frames := 1, cells := 0, slots := 0, locals := 24 } (pU (some (.int (shr I j o m))) V I J) (noX)) V I J 47 [(6, .int (nI a)), (5, .int (lf I j o m (wh I j) a)), (4, .int (wh I j)), (0, .ref (G.2.1 5)), (1, .int (nI j)), (2, .int (nI o)), (3, .int m)] [] := by
    intro k9
    induction k9 with
    | zero =>
      intro a ha hk hw ho
      omega
    | succ k9 ih =>
      intro a ha hk hw ho
      refine g_iload hC dX1_shareOf_47 0 rfl ?_
      refine g_iconst (v := nI 4) hC dX1_shareOf_49 (by decide) ?_
      refine g_icmp_ge hC 80 dX1_shareOf_50 (by decide) (fun c_50 => ?_) (fun c_50 => ?_)
      · have d_50 : 4 ≤ a := (nI_leI (by omega) (by omega)).mp c_50
        refine g_iload hC dX1_shareOf_80 1 rfl ?_
        exact g_iret hC hr dX1_shareOf_82 (Nat.le_of_ble_eq_true rfl) (Nat.le_of_ble_eq_true rfl) ⟨by unfold shr; rw [if_pos hw, if_pos ho, show a = 4 by omega], rfl, rfl, rfl⟩
      · have d_50 : ¬ 4 ≤ a := fun q => c_50 ((nI_leI (by omega) (by omega)).mpr q)
        refine g_iload hC dX1_shareOf_53 0 rfl ?_
        refine g_iload_n hC dX1_shareOf_55 rfl 5 rfl ?_
        refine g_icmp_eq hC 74 dX1_shareOf_56 (by decide) (fun c_56 => ?_) (fun c_56 => ?_)
        · have d_56 : a = o := (nI_eq (by omega) (by omega)).mp c_56
          refine g_iinc (v := nI (a + 1)) hC [(6, .int (nI (a + 1))), (5, .int (lf I j o m (wh I j) a)), (4, .int (wh I j)), (0, .ref (G.2.1 5)), (1, .int (nI j)), (2, .int (nI o)), (3, .int m)] dX1_shareOf_74 0 rfl (nI_i1 _) (by decide) rfl ?_
          refine g_goto hC 47 dX1_shareOf_77 (by decide) ?_
          refine g_at rfl (lv2 := [(6, .int (nI (a + 1))), (5, .int (lf I j o m (wh I j) (a + 1))), (4, .int (wh I j)), (0, .ref (G.2.1 5)), (1, .int (nI j)), (2, .int (nI o)), (3, .int m)]) (by rw [show lf I j o m (wh I j) (a + 1) = (if a = o then lf I j o m (wh I j) a else lf I j o m (wh I j) a - cs I j a m (wh I j)) from rfl]; first | rw [if_pos d_56] | rw [if_neg d_56]) rfl ?_
          exact ih (a + 1) (by omega) (by omega) hw ho
        · have d_56 : ¬ a = o := fun q => c_56 ((nI_eq (by omega) (by omega)).mpr q)
          refine g_iload hC dX1_shareOf_59 1 rfl ?_
          refine g_aload_n hC dX1_shareOf_61 rfl 3 rfl ?_
          refine g_iload_n hC dX1_shareOf_62 rfl 4 rfl ?_
          refine g_iload hC dX1_shareOf_63 0 rfl ?_
          refine g_iload_n hC dX1_shareOf_65 rfl 6 rfl ?_
          refine g_iload hC dX1_shareOf_66 2 rfl ?_
          refine g_cV hC [.int (nI j), .int (nI a), .int m, .int (wh I j)] 5 (m_X1_cutShare hl hG V I J j a m (wh I j) (by omega) (by omega)) rfl (st2 := [.int (cs I j a m (wh I j)), .int (lf I j o m (wh I j) a)]) rfl (by decide) rfl rfl rfl tw_362 tw_364 tw_7 tw_36 tw_365 pd_X1_cutShare ⟨rfl, rfl⟩ (by rw [hRm]; exact ⟨Nat.le_of_ble_eq_true rfl, Nat.le_of_ble_eq_true rfl, Nat.le_of_ble_eq_true rfl, Nat.le_of_ble_eq_true rfl⟩) (Nat.le_of_ble_eq_true rfl) dX1_shareOf_68 ?_
          refine g_isub hC dX1_shareOf_71 ?_
          refine g_istore hC [(5, .int ((lf I j o m (wh I j) a) - (cs I j a m (wh I j)))), (6, .int (nI a)), (4, .int (wh I j)), (0, .ref (G.2.1 5)), (1, .int (nI j)), (2, .int (nI o)), (3, .int m)] dX1_shareOf_72 (by decide) rfl ?_
          refine g_iinc (v := nI (a + 1)) hC [(6, .int (nI (a + 1))), (5, .int ((lf I j o m (wh I j) a) - (cs I j a m (wh I j)))), (4, .int (wh I j)), (0, .ref (G.2.1 5)), (1, .int (nI j)), (2, .int (nI o)), (3, .int m)] dX1_shareOf_74 1 rfl (nI_i1 _) (by decide) rfl ?_
          refine g_goto hC 47 dX1_shareOf_77 (by decide) ?_
          refine g_at rfl (lv2 := [(6, .int (nI (a + 1))), (5, .int (lf I j o m (wh I j) (a + 1))), (4, .int (wh I j)), (0, .ref (G.2.1 5)), (1, .int (nI j)), (2, .int (nI o)), (3, .int m)]) (by rw [show lf I j o m (wh I j) (a + 1) = (if a = o then lf I j o m (wh I j) a else lf I j o m (wh I j) a - cs I j a m (wh I j)) from rfl]; first | rw [if_pos d_56] | rw [if_neg d_56]) rfl ?_
          exact ih (a + 1) (by omega) (by omega) hw ho
  refine g_aload_n hC dX1_shareOf_0 rfl 0 rfl ?_
  refine g_iload_n hC dX1_shareOf_1 rfl 1 rfl ?_
  refine g_cV hC [.int (nI j)] 5 (m_X1_wholeOf hl hG V I J j (by omega)) rfl (st2 := [.int (wh I j)]) rfl (by decide) rfl rfl rfl tw_339 tw_341 tw_5 tw_36 tw_342 pd_X1_wholeOf ⟨rfl, rfl⟩ (by rw [hRm]; exact ⟨Nat.le_of_ble_eq_true rfl, Nat.le_of_ble_eq_true rfl, Nat.le_of_ble_eq_true rfl, Nat.le_of_ble_eq_true rfl⟩) (Nat.le_of_ble_eq_true rfl) dX1_shareOf_2 ?_
  refine g_istore hC [(4, .int (wh I j)), (0, .ref (G.2.1 5)), (1, .int (nI j)), (2, .int (nI o)), (3, .int m)] dX1_shareOf_5 (by decide) rfl ?_
  refine g_iload hC dX1_shareOf_7 0 rfl ?_
  refine g_iload_n hC dX1_shareOf_9 rfl 4 rfl ?_
  refine g_icmp_gt hC 22 dX1_shareOf_10 (by decide) (fun c_10 => ?_) (fun c_10 => ?_)
  · refine g_iload_n hC dX1_shareOf_22 rfl 3 rfl ?_
    refine g_aload_n hC dX1_shareOf_23 rfl 1 rfl ?_
    refine g_iload_n hC dX1_shareOf_24 rfl 2 rfl ?_
    refine g_cV hC [.int (nI j)] 5 (m_X1_ownerOfTheMost hl hG V I J j (by omega)) rfl (st2 := [.int (nI (bO I j 3)), .int (nI o)]) rfl (by decide) rfl rfl rfl tw_358 tw_360 tw_6 tw_36 tw_361 pd_X1_ownerOfTheMost ⟨rfl, rfl⟩ (by rw [hRm]; exact ⟨Nat.le_of_ble_eq_true rfl, Nat.le_of_ble_eq_true rfl, Nat.le_of_ble_eq_true rfl, Nat.le_of_ble_eq_true rfl⟩) (Nat.le_of_ble_eq_true rfl) dX1_shareOf_25 ?_
    refine g_icmp_eq hC 41 dX1_shareOf_28 (by decide) (fun c_28 => ?_) (fun c_28 => ?_)
    · have d_28 : o = (bO I j 3) := (nI_eq (by omega) (by omega)).mp c_28
      refine g_iload_n hC dX1_shareOf_41 rfl 4 rfl ?_
      refine g_istore hC [(5, .int m), (4, .int (wh I j)), (0, .ref (G.2.1 5)), (1, .int (nI j)), (2, .int (nI o)), (3, .int m)] dX1_shareOf_42 (by decide) rfl ?_
      refine g_iconst (v := nI 0) hC dX1_shareOf_44 (by decide) ?_
      refine g_istore hC [(6, .int (nI 0)), (5, .int m), (4, .int (wh I j)), (0, .ref (G.2.1 5)), (1, .int (nI j)), (2, .int (nI o)), (3, .int m)] dX1_shareOf_45 (by decide) rfl ?_
      exact lp_47 5 0 (by omega) (by omega) c_10 d_28
    · have d_28 : ¬ o = (bO I j 3) := fun q => c_28 ((nI_eq (by omega) (by omega)).mpr q)
      refine g_aload_n hC dX1_shareOf_31 rfl 1 rfl ?_
      refine g_iload_n hC dX1_shareOf_32 rfl 2 rfl ?_
      refine g_iload_n hC dX1_shareOf_33 rfl 3 rfl ?_
      refine g_iload_n hC dX1_shareOf_34 rfl 4 rfl ?_
      refine g_iload hC dX1_shareOf_35 0 rfl ?_
      refine g_cV hC [.int (nI j), .int (nI o), .int m, .int (wh I j)] 5 (m_X1_cutShare hl hG V I J j o m (wh I j) (by omega) (by omega)) rfl (st2 := [.int (cs I j o m (wh I j))]) rfl (by decide) rfl rfl rfl tw_362 tw_364 tw_7 tw_36 tw_365 pd_X1_cutShare ⟨rfl, rfl⟩ (by rw [hRm]; exact ⟨Nat.le_of_ble_eq_true rfl, Nat.le_of_ble_eq_true rfl, Nat.le_of_ble_eq_true rfl, Nat.le_of_ble_eq_true rfl⟩) (Nat.le_of_ble_eq_true rfl) dX1_shareOf_37 ?_
      exact g_iret hC hr dX1_shareOf_40 (Nat.le_of_ble_eq_true rfl) (Nat.le_of_ble_eq_true rfl) ⟨by unfold shr; rw [if_pos c_10, if_neg d_28], rfl, rfl, rfl⟩
  · refine g_aload_n hC dX1_shareOf_13 rfl 1 rfl ?_
    refine gf_X1_23 hC dX1_shareOf_14 ?_
    refine g_iload_n hC dX1_shareOf_17 rfl 3 rfl ?_
    refine n_aald34 hC o (show o < 4 by omega) dX1_shareOf_18 ?_
    refine g_iload_n hC dX1_shareOf_19 rfl 2 rfl ?_
    refine n_iald hC (47 + o) (ar_34 (show o < 4 by omega)) j (by rw [al_34 (show o < 4 by omega)]; omega) dX1_shareOf_20 ?_
    exact g_iret hC hr dX1_shareOf_21 (Nat.le_of_ble_eq_true rfl) (Nat.le_of_ble_eq_true rfl) ⟨by unfold shr; rw [if_neg c_10], rfl, rfl, rfl⟩

set_option maxRecDepth 100000 in
theorem m_X1_sumFares {l : Launch} {G : wG} (hl : l.stackTraces = false) (hG : wD G) (V : wV) (I : wI) (J : wJ) (c : Nat) (now m : Int32) (hn : V 6 = nI c) (h1 : c ≤ 100) : Ctr l yX1_sumFares cX1_sumFares 6 (some .long) { frames := 2, cells := 0, slots := 0, locals := 45 } G [.ref (G.2.1 5), .int now, .int m] V I J (pU (some (.long (sF I now m c))) V I J) (noX) := by
  refine ctr_of hl hG (by decide) (Nat.le_of_ble_eq_true rfl) [(0, .ref (G.2.1 5)), (1, .int now), (2, .int m)] rfl ?_
  intro K hC hKl hRm hr hT
  subst hKl
  have hC : Cx K G RX1 cX1_sumFares 6 := hC
  have lp_5 : ∀ (k9 : Nat) (j : Nat) (hj : j ≤ c) (hk : c < j + k9), WW K G 0 0 (QM K G { frames := 2, cells := 0, slots := 0, locals := 45 } (pU (some (.long (sF I now m c))) V I J) (noX)) V I J 5 [(5, .int (nI j)), (3, .long (sF I now m j)), (0, .ref (G.2.1 5)), (1, .int now), (2, .int m)] [] := by
    intro k9
    induction k9 with
    | zero =>
      intro j hj hk
      omega
    | succ k9 ih =>
      intro j hj hk
      refine g_iload hC dX1_sumFares_5 0 rfl ?_
      refine g_aload_n hC dX1_sumFares_7 rfl 2 rfl ?_
      refine gf_X1_33 hC dX1_sumFares_8 ?_
      refine g_eqI (x' := nI c) (by rw [hn]) ?_
      refine g_icmp_ge hC 41 dX1_sumFares_11 (by decide) (fun c_11 => ?_) (fun c_11 => ?_)
      · have d_11 : c ≤ j := (nI_leI (by omega) (by omega)).mp c_11
        refine g_lload_n hC dX1_sumFares_41 rfl 1 rfl ?_
        exact g_lret hC hr dX1_sumFares_42 (Nat.le_of_ble_eq_true rfl) (Nat.le_of_ble_eq_true rfl) ⟨by rw [show j = c by omega], rfl, rfl, rfl⟩
      · have d_11 : ¬ c ≤ j := fun q => c_11 ((nI_leI (by omega) (by omega)).mpr q)
        refine g_aload_n hC dX1_sumFares_14 rfl 2 rfl ?_
        refine g_iload hC dX1_sumFares_15 0 rfl ?_
        refine g_iload_n hC dX1_sumFares_17 rfl 3 rfl ?_
        refine g_cV hC [.int (nI j), .int now] 5 (m_X1_isOver hl hG V I J j now (by omega)) rfl (st2 := [.int ((if now - I 25 j < nI 60 then nI 0 else nI 1))]) rfl (by decide) rfl rfl rfl tw_331 tw_332 tw_333 tw_36 tw_334 pd_X1_isOver ⟨rfl, rfl⟩ (by rw [hRm]; exact ⟨Nat.le_of_ble_eq_true rfl, Nat.le_of_ble_eq_true rfl, Nat.le_of_ble_eq_true rfl, Nat.le_of_ble_eq_true rfl⟩) (Nat.le_of_ble_eq_true rfl) dX1_sumFares_18 ?_
        refine g_if_eq hC 35 dX1_sumFares_21 (by decide) (fun c_21 => ?_) (fun c_21 => ?_)
        · refine g_iinc (v := nI (j + 1)) hC [(5, .int (nI (j + 1))), (3, .long (sF I now m j)), (0, .ref (G.2.1 5)), (1, .int now), (2, .int m)] dX1_sumFares_35 0 rfl (nI_i1 _) (by decide) rfl ?_
          refine g_goto hC 5 dX1_sumFares_38 (by decide) ?_
          refine g_at rfl (lv2 := [(5, .int (nI (j + 1))), (3, .long (sF I now m (j + 1))), (0, .ref (G.2.1 5)), (1, .int now), (2, .int m)]) (by rw [show sF I now m (j + 1) = (if now - I 25 j < nI 60 then sF I now m j else sF I now m j + (fr I j m).toInt64) from rfl]; first | rw [if_pos (ite01_f c_21)] | rw [if_neg (ite01_t c_21)]) rfl ?_
          exact ih (j + 1) (by omega) (by omega)
        · refine g_lload_n hC dX1_sumFares_24 rfl 1 rfl ?_
          refine g_aload_n hC dX1_sumFares_25 rfl 2 rfl ?_
          refine g_iload hC dX1_sumFares_26 0 rfl ?_
          refine g_iload_n hC dX1_sumFares_28 rfl 4 rfl ?_
          refine g_cV hC [.int (nI j), .int m] 5 (m_X1_fareOf hl hG V I J j m (by omega)) rfl (st2 := [.int (fr I j m), .long (sF I now m j)]) rfl (by decide) rfl rfl rfl tw_335 tw_336 tw_337 tw_36 tw_338 pd_X1_fareOf ⟨rfl, rfl⟩ (by rw [hRm]; exact ⟨Nat.le_of_ble_eq_true rfl, Nat.le_of_ble_eq_true rfl, Nat.le_of_ble_eq_true rfl, Nat.le_of_ble_eq_true rfl⟩) (Nat.le_of_ble_eq_true rfl) dX1_sumFares_29 ?_
          refine g_i2l hC dX1_sumFares_32 ?_
          refine g_ladd hC dX1_sumFares_33 ?_
          refine g_lstore_n hC [(3, .long ((sF I now m j) + ((fr I j m).toInt64))), (5, .int (nI j)), (0, .ref (G.2.1 5)), (1, .int now), (2, .int m)] dX1_sumFares_34 rfl (by decide) rfl ?_
          refine g_iinc (v := nI (j + 1)) hC [(5, .int (nI (j + 1))), (3, .long ((sF I now m j) + ((fr I j m).toInt64))), (0, .ref (G.2.1 5)), (1, .int now), (2, .int m)] dX1_sumFares_35 1 rfl (nI_i1 _) (by decide) rfl ?_
          refine g_goto hC 5 dX1_sumFares_38 (by decide) ?_
          refine g_at rfl (lv2 := [(5, .int (nI (j + 1))), (3, .long (sF I now m (j + 1))), (0, .ref (G.2.1 5)), (1, .int now), (2, .int m)]) (by rw [show sF I now m (j + 1) = (if now - I 25 j < nI 60 then sF I now m j else sF I now m j + (fr I j m).toInt64) from rfl]; first | rw [if_pos (ite01_f c_21)] | rw [if_neg (ite01_t c_21)]) rfl ?_
          exact ih (j + 1) (by omega) (by omega)
  refine g_lconst (v := 0) hC dX1_sumFares_0 (by decide) ?_
  refine g_lstore_n hC [(3, .long 0), (0, .ref (G.2.1 5)), (1, .int now), (2, .int m)] dX1_sumFares_1 rfl (by decide) rfl ?_
  refine g_iconst (v := nI 0) hC dX1_sumFares_2 (by decide) ?_
  refine g_istore hC [(5, .int (nI 0)), (3, .long 0), (0, .ref (G.2.1 5)), (1, .int now), (2, .int m)] dX1_sumFares_3 (by decide) rfl ?_
  exact lp_5 (c + 1) 0 (by omega) (by omega)

set_option maxRecDepth 100000 in
theorem m_X1_sumShares {l : Launch} {G : wG} (hl : l.stackTraces = false) (hG : wD G) (V : wV) (I : wI) (J : wJ) (c o : Nat) (now m : Int32) (hn : V 6 = nI c) (h1 : c ≤ 100) (h2 : o < 4) : Ctr l yX1_sumShares cX1_sumShares 7 (some .long) { frames := 2, cells := 0, slots := 0, locals := 50 } G [.ref (G.2.1 5), .int (nI o), .int now, .int m] V I J (pU (some (.long (sS I o now m c))) V I J) (noX) := by
  refine ctr_of hl hG (by decide) (Nat.le_of_ble_eq_true rfl) [(0, .ref (G.2.1 5)), (1, .int (nI o)), (2, .int now), (3, .int m)] rfl ?_
  intro K hC hKl hRm hr hT
  subst hKl
  have hC : Cx K G RX1 cX1_sumShares 7 := hC
  have lp_6 : ∀ (k9 : Nat) (j : Nat) (hj : j ≤ c) (hk : c < j + k9), WW K G 0 0 (QM K G { frames := 2, cells := 0, slots := 0, locals := 50 } (pU (some (.long (sS I o now m c))) V I J) (noX)) V I J 6 [(6, .int (nI j)), (4, .long (sS I o now m j)), (0, .ref (G.2.1 5)), (1, .int (nI o)), (2, .int now), (3, .int m)] [] := by
    intro k9
    induction k9 with
    | zero =>
      intro j hj hk
      omega
    | succ k9 ih =>
      intro j hj hk
      refine g_iload hC dX1_sumShares_6 0 rfl ?_
      refine g_aload_n hC dX1_sumShares_8 rfl 2 rfl ?_
      refine gf_X1_33 hC dX1_sumShares_9 ?_
      refine g_eqI (x' := nI c) (by rw [hn]) ?_
      refine g_icmp_ge hC 45 dX1_sumShares_12 (by decide) (fun c_12 => ?_) (fun c_12 => ?_)
      · have d_12 : c ≤ j := (nI_leI (by omega) (by omega)).mp c_12
        refine g_lload hC dX1_sumShares_45 1 rfl ?_
        exact g_lret hC hr dX1_sumShares_47 (Nat.le_of_ble_eq_true rfl) (Nat.le_of_ble_eq_true rfl) ⟨by rw [show j = c by omega], rfl, rfl, rfl⟩
      · have d_12 : ¬ c ≤ j := fun q => c_12 ((nI_leI (by omega) (by omega)).mpr q)
        refine g_aload_n hC dX1_sumShares_15 rfl 2 rfl ?_
        refine g_iload hC dX1_sumShares_16 0 rfl ?_
        refine g_iload_n hC dX1_sumShares_18 rfl 4 rfl ?_
        refine g_cV hC [.int (nI j), .int now] 5 (m_X1_isOver hl hG V I J j now (by omega)) rfl (st2 := [.int ((if now - I 25 j < nI 60 then nI 0 else nI 1))]) rfl (by decide) rfl rfl rfl tw_331 tw_332 tw_333 tw_36 tw_334 pd_X1_isOver ⟨rfl, rfl⟩ (by rw [hRm]; exact ⟨Nat.le_of_ble_eq_true rfl, Nat.le_of_ble_eq_true rfl, Nat.le_of_ble_eq_true rfl, Nat.le_of_ble_eq_true rfl⟩) (Nat.le_of_ble_eq_true rfl) dX1_sumShares_19 ?_
        refine g_if_eq hC 39 dX1_sumShares_22 (by decide) (fun c_22 => ?_) (fun c_22 => ?_)
        · refine g_iinc (v := nI (j + 1)) hC [(6, .int (nI (j + 1))), (4, .long (sS I o now m j)), (0, .ref (G.2.1 5)), (1, .int (nI o)), (2, .int now), (3, .int m)] dX1_sumShares_39 0 rfl (nI_i1 _) (by decide) rfl ?_
          refine g_goto hC 6 dX1_sumShares_42 (by decide) ?_
          refine g_at rfl (lv2 := [(6, .int (nI (j + 1))), (4, .long (sS I o now m (j + 1))), (0, .ref (G.2.1 5)), (1, .int (nI o)), (2, .int now), (3, .int m)]) (by rw [show sS I o now m (j + 1) = (if now - I 25 j < nI 60 then sS I o now m j else sS I o now m j + (shr I j o m).toInt64) from rfl]; first | rw [if_pos (ite01_f c_22)] | rw [if_neg (ite01_t c_22)]) rfl ?_
          exact ih (j + 1) (by omega) (by omega)
        · refine g_lload hC dX1_sumShares_25 1 rfl ?_
          refine g_aload_n hC dX1_sumShares_27 rfl 2 rfl ?_
          refine g_iload hC dX1_sumShares_28 0 rfl ?_
          refine g_iload_n hC dX1_sumShares_30 rfl 3 rfl ?_
          refine g_iload_n hC dX1_sumShares_31 rfl 5 rfl ?_
          refine g_cV hC [.int (nI j), .int (nI o), .int m] 5 (m_X1_shareOf hl hG V I J j o m (by omega) (by omega)) rfl (st2 := [.int (shr I j o m), .long (sS I o now m j)]) rfl (by decide) rfl rfl rfl tw_354 tw_355 tw_356 tw_36 tw_357 pd_X1_shareOf ⟨rfl, rfl⟩ (by rw [hRm]; exact ⟨Nat.le_of_ble_eq_true rfl, Nat.le_of_ble_eq_true rfl, Nat.le_of_ble_eq_true rfl, Nat.le_of_ble_eq_true rfl⟩) (Nat.le_of_ble_eq_true rfl) dX1_sumShares_32 ?_
          refine g_i2l hC dX1_sumShares_35 ?_
          refine g_ladd hC dX1_sumShares_36 ?_
          refine g_lstore hC [(4, .long ((sS I o now m j) + ((shr I j o m).toInt64))), (6, .int (nI j)), (0, .ref (G.2.1 5)), (1, .int (nI o)), (2, .int now), (3, .int m)] dX1_sumShares_37 (by decide) rfl ?_
          refine g_iinc (v := nI (j + 1)) hC [(6, .int (nI (j + 1))), (4, .long ((sS I o now m j) + ((shr I j o m).toInt64))), (0, .ref (G.2.1 5)), (1, .int (nI o)), (2, .int now), (3, .int m)] dX1_sumShares_39 1 rfl (nI_i1 _) (by decide) rfl ?_
          refine g_goto hC 6 dX1_sumShares_42 (by decide) ?_
          refine g_at rfl (lv2 := [(6, .int (nI (j + 1))), (4, .long (sS I o now m (j + 1))), (0, .ref (G.2.1 5)), (1, .int (nI o)), (2, .int now), (3, .int m)]) (by rw [show sS I o now m (j + 1) = (if now - I 25 j < nI 60 then sS I o now m j else sS I o now m j + (shr I j o m).toInt64) from rfl]; first | rw [if_pos (ite01_f c_22)] | rw [if_neg (ite01_t c_22)]) rfl ?_
          exact ih (j + 1) (by omega) (by omega)
  refine g_lconst (v := 0) hC dX1_sumShares_0 (by decide) ?_
  refine g_lstore hC [(4, .long 0), (0, .ref (G.2.1 5)), (1, .int (nI o)), (2, .int now), (3, .int m)] dX1_sumShares_1 (by decide) rfl ?_
  refine g_iconst (v := nI 0) hC dX1_sumShares_3 (by decide) ?_
  refine g_istore hC [(6, .int (nI 0)), (4, .long 0), (0, .ref (G.2.1 5)), (1, .int (nI o)), (2, .int now), (3, .int m)] dX1_sumShares_4 (by decide) rfl ?_
  exact lp_6 (c + 1) 0 (by omega) (by omega)

set_option maxRecDepth 100000 in
theorem m_X0_forgetShares {l : Launch} {G : wG} (hl : l.stackTraces = false) (hG : wD G) (V : wV) (I : wI) (J : wJ)  : Ctr l yX0_forgetShares cX0_forgetShares 2 none { frames := 0, cells := 0, slots := 0, locals := 0 } G [.ref (G.2.1 6)] V I J (pU none V I (sJ (sJ (sJ (sJ J 32 0 0) 32 1 0) 32 2 0) 32 3 0)) (noX) := by
  refine ctr_of hl hG (by decide) (Nat.le_of_ble_eq_true rfl) [(0, .ref (G.2.1 6))] rfl ?_
  intro K hC hKl hRm hr hT
  subst hKl
  have hC : Cx K G RX0 cX0_forgetShares 2 := hC
  refine g_iconst (v := nI 0) hC dX0_forgetShares_0 (by decide) ?_
  refine g_istore_n hC [(1, .int (nI 0)), (0, .ref (G.2.1 6))] dX0_forgetShares_1 rfl (by decide) rfl ?_
  refine g_iload_n hC dX0_forgetShares_2 rfl 0 rfl ?_
  refine g_iconst (v := nI 4) hC dX0_forgetShares_3 (by decide) ?_
  refine g_icmp_ge hC 20 dX0_forgetShares_4 (by decide) (fun c_4 => ?_) (fun c_4 => ?_)
  · exact absurd c_4 (by decide)
  · refine g_aload_n hC dX0_forgetShares_7 rfl 1 rfl ?_
    refine gf_X0_21 hC dX0_forgetShares_8 ?_
    refine g_iload_n hC dX0_forgetShares_11 rfl 0 rfl ?_
    refine g_lconst (v := 0) hC dX0_forgetShares_12 (by decide) ?_
    refine n_last hC 32 aa_32 0 (show 0 < 4 by omega) dX0_forgetShares_13 ?_
    refine g_iinc (v := nI 1) hC [(1, .int (nI 1)), (0, .ref (G.2.1 6))] dX0_forgetShares_14 0 rfl (nI_i1 _) (by decide) rfl ?_
    refine g_goto hC 2 dX0_forgetShares_17 (by decide) ?_
    refine g_iload_n hC dX0_forgetShares_2 rfl 0 rfl ?_
    refine g_iconst (v := nI 4) hC dX0_forgetShares_3 (by decide) ?_
    refine g_icmp_ge hC 20 dX0_forgetShares_4 (by decide) (fun c_4 => ?_) (fun c_4 => ?_)
    · exact absurd c_4 (by decide)
    · refine g_aload_n hC dX0_forgetShares_7 rfl 1 rfl ?_
      refine gf_X0_21 hC dX0_forgetShares_8 ?_
      refine g_iload_n hC dX0_forgetShares_11 rfl 0 rfl ?_
      refine g_lconst (v := 0) hC dX0_forgetShares_12 (by decide) ?_
      refine n_last hC 32 aa_32 1 (show 1 < 4 by omega) dX0_forgetShares_13 ?_
      refine g_iinc (v := nI 2) hC [(1, .int (nI 2)), (0, .ref (G.2.1 6))] dX0_forgetShares_14 0 rfl (nI_i1 _) (by decide) rfl ?_
      refine g_goto hC 2 dX0_forgetShares_17 (by decide) ?_
      refine g_iload_n hC dX0_forgetShares_2 rfl 0 rfl ?_
      refine g_iconst (v := nI 4) hC dX0_forgetShares_3 (by decide) ?_
      refine g_icmp_ge hC 20 dX0_forgetShares_4 (by decide) (fun c_4 => ?_) (fun c_4 => ?_)
      · exact absurd c_4 (by decide)
      · refine g_aload_n hC dX0_forgetShares_7 rfl 1 rfl ?_
        refine gf_X0_21 hC dX0_forgetShares_8 ?_
        refine g_iload_n hC dX0_forgetShares_11 rfl 0 rfl ?_
        refine g_lconst (v := 0) hC dX0_forgetShares_12 (by decide) ?_
        refine n_last hC 32 aa_32 2 (show 2 < 4 by omega) dX0_forgetShares_13 ?_
        refine g_iinc (v := nI 3) hC [(1, .int (nI 3)), (0, .ref (G.2.1 6))] dX0_forgetShares_14 0 rfl (nI_i1 _) (by decide) rfl ?_
        refine g_goto hC 2 dX0_forgetShares_17 (by decide) ?_
        refine g_iload_n hC dX0_forgetShares_2 rfl 0 rfl ?_
        refine g_iconst (v := nI 4) hC dX0_forgetShares_3 (by decide) ?_
        refine g_icmp_ge hC 20 dX0_forgetShares_4 (by decide) (fun c_4 => ?_) (fun c_4 => ?_)
        · exact absurd c_4 (by decide)
        · refine g_aload_n hC dX0_forgetShares_7 rfl 1 rfl ?_
          refine gf_X0_21 hC dX0_forgetShares_8 ?_
          refine g_iload_n hC dX0_forgetShares_11 rfl 0 rfl ?_
          refine g_lconst (v := 0) hC dX0_forgetShares_12 (by decide) ?_
          refine n_last hC 32 aa_32 3 (show 3 < 4 by omega) dX0_forgetShares_13 ?_
          refine g_iinc (v := nI 4) hC [(1, .int (nI 4)), (0, .ref (G.2.1 6))] dX0_forgetShares_14 0 rfl (nI_i1 _) (by decide) rfl ?_
          refine g_goto hC 2 dX0_forgetShares_17 (by decide) ?_
          refine g_iload_n hC dX0_forgetShares_2 rfl 0 rfl ?_
          refine g_iconst (v := nI 4) hC dX0_forgetShares_3 (by decide) ?_
          refine g_icmp_ge hC 20 dX0_forgetShares_4 (by decide) (fun c_4 => ?_) (fun c_4 => ?_)
          · exact g_vret hC hr dX0_forgetShares_20 (Nat.le_of_ble_eq_true rfl) (Nat.le_of_ble_eq_true rfl) ⟨rfl, rfl, rfl, rfl⟩
          · exact absurd c_4 (by decide)

set_option maxRecDepth 100000 in
theorem m_X0_chargeN {l : Launch} {G : wG} (hl : l.stackTraces = false) (hG : wD G) (V : wV) (I : wI) (J : wJ) (p : Nat) (due : Int64) (h1 : p < 10) : Ctr l yX0_charge cX0_charge 7 (some .long) { frames := 0, cells := 0, slots := 0, locals := 0 } G [.ref (G.2.1 6), .int (nI p), .int ((-1)), .long due] V I J (pU (some (.long (due - J 31 p))) V I (sJ (sJ J 31 p due) 30 p (J 30 p - (due - J 31 p)))) (noX) := by
  refine ctr_of hl hG (by decide) (Nat.le_of_ble_eq_true rfl) [(0, .ref (G.2.1 6)), (1, .int (nI p)), (2, .int ((-1))), (3, .long due)] rfl ?_
  intro K hC hKl hRm hr hT
  subst hKl
  have hC : Cx K G RX0 cX0_charge 7 := hC
  refine g_lload_n hC dX0_charge_0 rfl 3 rfl ?_
  refine g_aload_n hC dX0_charge_1 rfl 0 rfl ?_
  refine gf_X0_18 hC dX0_charge_2 ?_
  refine g_iload_n hC dX0_charge_5 rfl 1 rfl ?_
  refine n_lald hC 31 aa_31 p (show p < 10 by omega) dX0_charge_6 ?_
  refine g_lsub hC dX0_charge_7 ?_
  refine g_lstore hC [(5, .long ((due) - (J 31 p))), (0, .ref (G.2.1 6)), (1, .int (nI p)), (2, .int ((-1))), (3, .long due)] dX0_charge_8 (by decide) rfl ?_
  refine g_aload_n hC dX0_charge_10 rfl 1 rfl ?_
  refine gf_X0_18 hC dX0_charge_11 ?_
  refine g_iload_n hC dX0_charge_14 rfl 2 rfl ?_
  refine g_lload_n hC dX0_charge_15 rfl 4 rfl ?_
  refine n_last hC 31 aa_31 p (show p < 10 by omega) dX0_charge_16 ?_
  refine g_iload_n hC dX0_charge_17 rfl 3 rfl ?_
  refine g_iconst (v := (-1)) hC dX0_charge_18 (by decide) ?_
  refine g_icmp_ne hC 36 dX0_charge_19 (by decide) (fun c_19 => ?_) (fun c_19 => ?_)
  · exact absurd c_19 (by decide)
  · refine g_aload_n hC dX0_charge_22 rfl 1 rfl ?_
    refine gf_X0_15 hC dX0_charge_23 ?_
    refine g_iload_n hC dX0_charge_26 rfl 2 rfl ?_
    refine g_dup2 hC dX0_charge_27 rfl rfl ?_
    refine n_lald hC 30 aa_30 p (show p < 10 by omega) dX0_charge_28 ?_
    refine g_lload hC dX0_charge_29 0 rfl ?_
    refine g_lsub hC dX0_charge_31 ?_
    refine n_last hC 30 aa_30 p (show p < 10 by omega) dX0_charge_32 ?_
    refine g_goto hC 47 dX0_charge_33 (by decide) ?_
    refine g_lload hC dX0_charge_47 0 rfl ?_
    exact g_lret hC hr dX0_charge_49 (Nat.le_of_ble_eq_true rfl) (Nat.le_of_ble_eq_true rfl) ⟨rfl, rfl, rfl, rfl⟩

set_option maxRecDepth 100000 in
theorem m_X0_charge {l : Launch} {G : wG} (hl : l.stackTraces = false) (hG : wD G) (V : wV) (I : wI) (J : wJ) (p h : Nat) (due : Int64) (h1 : p < 10) (h2 : h < 6) : Ctr l yX0_charge cX0_charge 7 (some .long) { frames := 0, cells := 0, slots := 0, locals := 0 } G [.ref (G.2.1 6), .int (nI p), .int (nI h), .long due] V I J (pU (some (.long (due - J 31 p))) V I (sJ (sJ J 31 p due) 29 h (J 29 h - (due - J 31 p)))) (noX) := by
  refine ctr_of hl hG (by decide) (Nat.le_of_ble_eq_true rfl) [(0, .ref (G.2.1 6)), (1, .int (nI p)), (2, .int (nI h)), (3, .long due)] rfl ?_
  intro K hC hKl hRm hr hT
  subst hKl
  have hC : Cx K G RX0 cX0_charge 7 := hC
  refine g_lload_n hC dX0_charge_0 rfl 3 rfl ?_
  refine g_aload_n hC dX0_charge_1 rfl 0 rfl ?_
  refine gf_X0_18 hC dX0_charge_2 ?_
  refine g_iload_n hC dX0_charge_5 rfl 1 rfl ?_
  refine n_lald hC 31 aa_31 p (show p < 10 by omega) dX0_charge_6 ?_
  refine g_lsub hC dX0_charge_7 ?_
  refine g_lstore hC [(5, .long ((due) - (J 31 p))), (0, .ref (G.2.1 6)), (1, .int (nI p)), (2, .int (nI h)), (3, .long due)] dX0_charge_8 (by decide) rfl ?_
  refine g_aload_n hC dX0_charge_10 rfl 1 rfl ?_
  refine gf_X0_18 hC dX0_charge_11 ?_
  refine g_iload_n hC dX0_charge_14 rfl 2 rfl ?_
  refine g_lload_n hC dX0_charge_15 rfl 4 rfl ?_
  refine n_last hC 31 aa_31 p (show p < 10 by omega) dX0_charge_16 ?_
  refine g_iload_n hC dX0_charge_17 rfl 3 rfl ?_
  refine g_iconst (v := (-1)) hC dX0_charge_18 (by decide) ?_
  refine g_icmp_ne hC 36 dX0_charge_19 (by decide) (fun c_19 => ?_) (fun c_19 => ?_)
  · refine g_aload_n hC dX0_charge_36 rfl 1 rfl ?_
    refine gf_X0_9 hC dX0_charge_37 ?_
    refine g_iload_n hC dX0_charge_40 rfl 3 rfl ?_
    refine g_dup2 hC dX0_charge_41 rfl rfl ?_
    refine n_lald hC 29 aa_29 h (show h < 6 by omega) dX0_charge_42 ?_
    refine g_lload hC dX0_charge_43 0 rfl ?_
    refine g_lsub hC dX0_charge_45 ?_
    refine n_last hC 29 aa_29 h (show h < 6 by omega) dX0_charge_46 ?_
    refine g_lload hC dX0_charge_47 0 rfl ?_
    exact g_lret hC hr dX0_charge_49 (Nat.le_of_ble_eq_true rfl) (Nat.le_of_ble_eq_true rfl) ⟨rfl, rfl, rfl, rfl⟩
  · exact absurd c_19 (nI_m1 (by omega))

set_option maxRecDepth 100000 in
theorem m_X3_add {l : Launch} {G : wG} (hl : l.stackTraces = false) (hG : wD G) (V : wV) (I : wI) (J : wJ) (n : Nat) (g p m : Int32) (hn : V 5 = nI n) (h1 : n < 100) (ho : wfO I n) : Ctr l yX3_add cX3_add 6 (some .int) { frames := 0, cells := 0, slots := 0, locals := 0 } G [.ref (G.2.1 4), .int g, .int p, .int m] V I J (fun r V9 I9 J9 => r = some (.int (nI n)) ∧ V9 = upd V 5 (nI (n + 1)) ∧ J9 = J ∧ ∃ q, q ≤ n ∧ I9 = uI (rdI I n g p m) 23 (upd (shf (I 23) n q) q (nI n)) ∧ (q = 0 ∨ I 21 (I 23 (q - 1)).toNatClampNeg ≤ m) ∧ ∀ z, q ≤ z → z < n → m < I 21 (I 23 z).toNatClampNeg) (noX) := by
  refine ctr_of hl hG (by decide) (Nat.le_of_ble_eq_true rfl) [(0, .ref (G.2.1 4)), (1, .int g), (2, .int p), (3, .int m)] rfl ?_
  intro K hC hKl hRm hr hT
  subst hKl
  have hC : Cx K G RX3 cX3_add 6 := hC
  have lp_36 : ∀ (k9 : Nat) (q : Nat) (hq : q ≤ n) (hk : q < k9) (hz : ∀ z, q ≤ z → z < n → m < I 21 (I 23 z).toNatClampNeg), WW K G 0 0 (QM K G { frames := 0, cells := 0, slots := 0, locals := 0 } (fun r V9 I9 J9 => r = some (.int (nI n)) ∧ V9 = upd V 5 (nI (n + 1)) ∧ J9 = J ∧ ∃ q, q ≤ n ∧ I9 = uI (rdI I n g p m) 23 (upd (shf (I 23) n q) q (nI n)) ∧ (q = 0 ∨ I 21 (I 23 (q - 1)).toNatClampNeg ≤ m) ∧ ∀ z, q ≤ z → z < n → m < I 21 (I 23 z).toNatClampNeg) (noX)) V (uI (rdI I n g p m) 23 (shf (I 23) n q)) J 36 [(5, .int (nI q)), (4, .int (nI n)), (0, .ref (G.2.1 4)), (1, .int g), (2, .int p), (3, .int m)] [] := by
    intro k9
    induction k9 with
    | zero =>
      intro q hq hk hz
      omega
    | succ k9 ih =>
      intro q hq hk hz
      refine g_iload hC dX3_add_36 0 rfl ?_
      refine g_if_le hC 81 dX3_add_38 (by decide) (fun c_38 => ?_) (fun c_38 => ?_)
      · rw [← nI_0] at c_38
        have d_38 : q ≤ 0 := (nI_leI (by omega) (by omega)).mp c_38
        refine g_aload_n hC dX3_add_81 rfl 2 rfl ?_
        refine gf_X3_25 hC dX3_add_82 ?_
        refine g_iload hC dX3_add_85 0 rfl ?_
        refine g_iload hC dX3_add_87 1 rfl ?_
        refine n_iast hC 23 aa_23 q (show q < 100 by omega) dX3_add_89 ?_
        refine g_aload_n hC dX3_add_90 rfl 2 rfl ?_
        refine g_dup hC dX3_add_91 rfl ?_
        refine gf_X3_28 hC dX3_add_92 ?_
        refine g_eqI (x' := nI n) (by rw [hn]) ?_
        refine g_iconst (v := nI 1) hC dX3_add_95 (by decide) ?_
        refine g_iadd hC dX3_add_96 ?_
        refine g_eqI (x' := nI (n + 1)) (nI_add _ _) ?_
        refine gp_X3_28 hC dX3_add_97 ?_
        refine g_iload hC dX3_add_100 1 rfl ?_
        exact g_iret hC hr dX3_add_102 (Nat.le_of_ble_eq_true rfl) (Nat.le_of_ble_eq_true rfl) ⟨rfl, rfl, rfl, q, hq, by rw [show uI (rdI I n g p m) 23 (shf (I 23) n q) 23 = shf (I 23) n q from uI_s, uI_uI], (by first | exact Or.inl (by omega) | exact Or.inr c_56), hz⟩
      · rw [← nI_0] at c_38
        have d_38 : ¬ q ≤ 0 := fun q => c_38 ((nI_leI (by omega) (by omega)).mpr q)
        have hq0 : 0 < q := by omega
        obtain ⟨r, hr1, hr2⟩ := ho (q - 1) (by omega)
        have hsh : shf (I 23) n q (q - 1) = I 23 (q - 1) := if_neg (by omega)
        have hcl : (I 23 (q - 1)).toNatClampNeg = r := by rw [hr2]; exact nI_clamp (by omega)
        refine g_aload_n hC dX3_add_41 rfl 2 rfl ?_
        refine gf_X3_18 hC dX3_add_42 ?_
        refine g_aload_n hC dX3_add_45 rfl 2 rfl ?_
        refine gf_X3_25 hC dX3_add_46 ?_
        refine g_iload hC dX3_add_49 0 rfl ?_
        refine g_iconst (v := nI 1) hC dX3_add_51 (by decide) ?_
        refine g_isub hC dX3_add_52 ?_
        refine g_eqI (x' := nI (q - 1)) (nI_s1 (by omega)) ?_
        refine n_iald hC 23 aa_23 (q - 1) (show q - 1 < 100 by omega) dX3_add_53 ?_
        refine g_eqI (x' := nI r) (by rw [uI_s, hsh, hr2]) ?_
        refine n_iald hC 21 aa_21 r (show r < 100 by omega) dX3_add_54 ?_
        refine g_eqI (x' := I 21 (I 23 (q - 1)).toNatClampNeg) (by rw [uI_n (by decide), hcl]; show upd (I 21) n m r = _; exact pk_un (by omega)) ?_
        refine g_iload_n hC dX3_add_55 rfl 5 rfl ?_
        refine g_icmp_le hC 81 dX3_add_56 (by decide) (fun c_56 => ?_) (fun c_56 => ?_)
        · refine g_aload_n hC dX3_add_81 rfl 2 rfl ?_
          refine gf_X3_25 hC dX3_add_82 ?_
          refine g_iload hC dX3_add_85 0 rfl ?_
          refine g_iload hC dX3_add_87 1 rfl ?_
          refine n_iast hC 23 aa_23 q (show q < 100 by omega) dX3_add_89 ?_
          refine g_aload_n hC dX3_add_90 rfl 2 rfl ?_
          refine g_dup hC dX3_add_91 rfl ?_
          refine gf_X3_28 hC dX3_add_92 ?_
          refine g_eqI (x' := nI n) (by rw [hn]) ?_
          refine g_iconst (v := nI 1) hC dX3_add_95 (by decide) ?_
          refine g_iadd hC dX3_add_96 ?_
          refine g_eqI (x' := nI (n + 1)) (nI_add _ _) ?_
          refine gp_X3_28 hC dX3_add_97 ?_
          refine g_iload hC dX3_add_100 1 rfl ?_
          exact g_iret hC hr dX3_add_102 (Nat.le_of_ble_eq_true rfl) (Nat.le_of_ble_eq_true rfl) ⟨rfl, rfl, rfl, q, hq, by rw [show uI (rdI I n g p m) 23 (shf (I 23) n q) 23 = shf (I 23) n q from uI_s, uI_uI], (by first | exact Or.inl (by omega) | exact Or.inr c_56), hz⟩
        · refine g_aload_n hC dX3_add_59 rfl 2 rfl ?_
          refine gf_X3_25 hC dX3_add_60 ?_
          refine g_iload hC dX3_add_63 0 rfl ?_
          refine g_aload_n hC dX3_add_65 rfl 2 rfl ?_
          refine gf_X3_25 hC dX3_add_66 ?_
          refine g_iload hC dX3_add_69 0 rfl ?_
          refine g_iconst (v := nI 1) hC dX3_add_71 (by decide) ?_
          refine g_isub hC dX3_add_72 ?_
          refine g_eqI (x' := nI (q - 1)) (nI_s1 (by omega)) ?_
          refine n_iald hC 23 aa_23 (q - 1) (show q - 1 < 100 by omega) dX3_add_73 ?_
          refine g_eqI (x' := I 23 (q - 1)) (by rw [uI_s, hsh]) ?_
          refine n_iast hC 23 aa_23 q (show q < 100 by omega) dX3_add_74 ?_
          refine g_iinc (v := nI (q - 1)) hC [(5, .int (nI (q - 1))), (4, .int (nI n)), (0, .ref (G.2.1 4)), (1, .int g), (2, .int p), (3, .int m)] dX3_add_75 0 rfl (nI_im (by omega)) (by decide) rfl ?_
          refine g_goto hC 36 dX3_add_78 (by decide) ?_
          refine g_st (V1 := V) (I1 := (uI (rdI I n g p m) 23 (shf (I 23) n (q - 1)))) (J1 := J) rfl (by rw [show uI (rdI I n g p m) 23 (shf (I 23) n q) 23 = shf (I 23) n q from uI_s, uI_uI, shf_s hq0 hq]) rfl ?_
          exact ih (q - 1) (by omega) (by omega) (fun z z1 z2 => by rcases Nat.lt_or_ge z q with y | y; exact (by rw [show z = q - 1 by omega]; exact Int32.not_le.mp c_56); exact hz z y z2)
  refine g_aload_n hC dX3_add_0 rfl 0 rfl ?_
  refine gf_X3_28 hC dX3_add_1 ?_
  refine g_eqI (x' := nI n) (by rw [hn]) ?_
  refine g_istore hC [(4, .int (nI n)), (0, .ref (G.2.1 4)), (1, .int g), (2, .int p), (3, .int m)] dX3_add_4 (by decide) rfl ?_
  refine g_aload_n hC dX3_add_6 rfl 1 rfl ?_
  refine gf_X3_9 hC dX3_add_7 ?_
  refine g_iload hC dX3_add_10 0 rfl ?_
  refine g_iload_n hC dX3_add_12 rfl 2 rfl ?_
  refine n_iast hC 19 aa_19 n (show n < 100 by omega) dX3_add_13 ?_
  refine g_aload_n hC dX3_add_14 rfl 1 rfl ?_
  refine gf_X3_15 hC dX3_add_15 ?_
  refine g_iload hC dX3_add_18 0 rfl ?_
  refine g_iload_n hC dX3_add_20 rfl 3 rfl ?_
  refine n_iast hC 20 aa_20 n (show n < 100 by omega) dX3_add_21 ?_
  refine g_aload_n hC dX3_add_22 rfl 1 rfl ?_
  refine gf_X3_18 hC dX3_add_23 ?_
  refine g_iload hC dX3_add_26 0 rfl ?_
  refine g_iload_n hC dX3_add_28 rfl 4 rfl ?_
  refine n_iast hC 21 aa_21 n (show n < 100 by omega) dX3_add_29 ?_
  refine g_aload_n hC dX3_add_30 rfl 1 rfl ?_
  refine gf_X3_28 hC dX3_add_31 ?_
  refine g_eqI (x' := nI n) (by rw [hn]) ?_
  refine g_istore hC [(5, .int (nI n)), (4, .int (nI n)), (0, .ref (G.2.1 4)), (1, .int g), (2, .int p), (3, .int m)] dX3_add_34 (by decide) rfl ?_
  refine g_st (V1 := V) (I1 := (uI (rdI I n g p m) 23 (shf (I 23) n n))) (J1 := J) rfl (by rw [shf_n]; exact (uI_self (rdI I n g p m) 23).symm) rfl ?_
  exact lp_36 (n + 1) n (Nat.le_refl _) (by omega) (fun z z1 z2 => by omega)
