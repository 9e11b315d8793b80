set_option maxRecDepth 100000 in
theorem m_X1_isOver {l : Launch} {G : wG} (hl : l.stackTraces = false) (hG : wD G) (V : wV) (I : wI) (J : wJ) (j : Nat) (p2 : Int32) (h1 : j < 100) : Ctr l yX1_isOver cX1_isOver 3 (some .boolean) { frames := 0, cells := 0, slots := 0, locals := 0 } G [.ref (G.2.1 5), .int (nI j), .int p2] V I J (pU (some (.int (if p2 - I 25 j < nI 60 then nI 0 else nI 1))) V I J) (noX) := by
  refine ctr_of hl hG (by decide) (Nat.le_of_ble_eq_true rfl) [(0, .ref (G.2.1 5)), (1, .int (nI j)), (2, .int p2)] rfl ?_
  intro K hC hKl hRm hr hT
  subst hKl
  have hC : Cx K G RX1 cX1_isOver 3 := hC
  refine g_iload_n hC dX1_isOver_0 rfl 2 rfl ?_
  refine g_aload_n hC dX1_isOver_1 rfl 0 rfl ?_
  refine gf_X1_15 hC dX1_isOver_2 ?_
  refine g_iload_n hC dX1_isOver_5 rfl 1 rfl ?_
  refine n_iald hC 25 aa_25 j (show j < 100 by omega) dX1_isOver_6 ?_
  refine g_isub hC dX1_isOver_7 ?_
  refine g_bipush (v := nI 60) hC dX1_isOver_8 (by decide) ?_
  refine g_icmp_lt hC 17 dX1_isOver_10 (by decide) (fun c_10 => ?_) (fun c_10 => ?_)
  · refine g_iconst (v := nI 0) hC dX1_isOver_17 (by decide) ?_
    exact g_zret hC (by first | exact Or.inl rfl | exact Or.inr rfl) hr dX1_isOver_18 (Nat.le_of_ble_eq_true rfl) (Nat.le_of_ble_eq_true rfl) ⟨by first | (rw [if_pos c_10] <;> rfl) | (rw [if_neg c_10] <;> rfl), rfl, rfl, rfl⟩
  · refine g_iconst (v := nI 1) hC dX1_isOver_13 (by decide) ?_
    refine g_goto hC 18 dX1_isOver_14 (by decide) ?_
    exact g_zret hC (by first | exact Or.inl rfl | exact Or.inr rfl) hr dX1_isOver_18 (Nat.le_of_ble_eq_true rfl) (Nat.le_of_ble_eq_true rfl) ⟨by first | (rw [if_pos c_10] <;> rfl) | (rw [if_neg c_10] <;> rfl), rfl, rfl, rfl⟩

set_option maxRecDepth 100000 in
theorem m_X3_minutesBetween {l : Launch} {G : wG} (hl : l.stackTraces = false) (hG : wD G) (V : wV) (I : wI) (J : wJ) (a b : Nat) (h1 : a < 100) (h2 : b < 100) : Ctr l yX3_minutesBetween cX3_minutesBetween 3 (some .int) { frames := 0, cells := 0, slots := 0, locals := 0 } G [.ref (G.2.1 4), .int (nI a), .int (nI b)] V I J (pU (some (.int (I 21 b - I 21 a))) V I J) (noX) := by
  refine ctr_of hl hG (by decide) (Nat.le_of_ble_eq_true rfl) [(0, .ref (G.2.1 4)), (1, .int (nI a)), (2, .int (nI b))] rfl ?_
  intro K hC hKl hRm hr hT
  subst hKl
  have hC : Cx K G RX3 cX3_minutesBetween 3 := hC
  refine g_aload_n hC dX3_minutesBetween_0 rfl 0 rfl ?_
  refine gf_X3_18 hC dX3_minutesBetween_1 ?_
  refine g_iload_n hC dX3_minutesBetween_4 rfl 2 rfl ?_
  refine n_iald hC 21 aa_21 b (show b < 100 by omega) dX3_minutesBetween_5 ?_
  refine g_aload_n hC dX3_minutesBetween_6 rfl 0 rfl ?_
  refine gf_X3_18 hC dX3_minutesBetween_7 ?_
  refine g_iload_n hC dX3_minutesBetween_10 rfl 1 rfl ?_
  refine n_iald hC 21 aa_21 a (show a < 100 by omega) dX3_minutesBetween_11 ?_
  refine g_isub hC dX3_minutesBetween_12 ?_
  exact g_iret hC hr dX3_minutesBetween_13 (Nat.le_of_ble_eq_true rfl) (Nat.le_of_ble_eq_true rfl) ⟨rfl, rfl, rfl, rfl⟩

set_option maxRecDepth 100000 in
theorem m_X4_otherEnd {l : Launch} {G : wG} (hl : l.stackTraces = false) (hG : wD G) (V : wV) (I : wI) (J : wJ) (r : Nat) (p2 : Int32) (h1 : r < 24) : Ctr l yX4_otherEnd cX4_otherEnd 3 (some .int) { frames := 0, cells := 0, slots := 0, locals := 0 } G [.ref (G.2.1 1), .int (nI r), .int p2] V I J (pU (some (.int (oE I r p2))) V I J) (noX) := by
  refine ctr_of hl hG (by decide) (Nat.le_of_ble_eq_true rfl) [(0, .ref (G.2.1 1)), (1, .int (nI r)), (2, .int p2)] rfl ?_
  intro K hC hKl hRm hr hT
  subst hKl
  have hC : Cx K G RX4 cX4_otherEnd 3 := hC
  refine g_aload_n hC dX4_otherEnd_0 rfl 0 rfl ?_
  refine gf_X4_9 hC dX4_otherEnd_1 ?_
  refine g_iload_n hC dX4_otherEnd_4 rfl 1 rfl ?_
  refine n_iald hC 8 aa_8 r (show r < 24 by omega) dX4_otherEnd_5 ?_
  refine g_iload_n hC dX4_otherEnd_6 rfl 2 rfl ?_
  refine g_icmp_ne hC 17 dX4_otherEnd_7 (by decide) (fun c_7 => ?_) (fun c_7 => ?_)
  · refine g_aload_n hC dX4_otherEnd_17 rfl 0 rfl ?_
    refine gf_X4_15 hC dX4_otherEnd_18 ?_
    refine g_iload_n hC dX4_otherEnd_21 rfl 1 rfl ?_
    refine n_iald hC 9 aa_9 r (show r < 24 by omega) dX4_otherEnd_22 ?_
    refine g_iload_n hC dX4_otherEnd_23 rfl 2 rfl ?_
    refine g_icmp_ne hC 36 dX4_otherEnd_24 (by decide) (fun c_24 => ?_) (fun c_24 => ?_)
    · refine g_iconst (v := (-1)) hC dX4_otherEnd_36 (by decide) ?_
      exact g_iret hC hr dX4_otherEnd_37 (Nat.le_of_ble_eq_true rfl) (Nat.le_of_ble_eq_true rfl) ⟨by simp [oE, c_7, c_24], rfl, rfl, rfl⟩
    · refine g_aload_n hC dX4_otherEnd_27 rfl 0 rfl ?_
      refine gf_X4_9 hC dX4_otherEnd_28 ?_
      refine g_iload_n hC dX4_otherEnd_31 rfl 1 rfl ?_
      refine n_iald hC 8 aa_8 r (show r < 24 by omega) dX4_otherEnd_32 ?_
      refine g_goto hC 37 dX4_otherEnd_33 (by decide) ?_
      exact g_iret hC hr dX4_otherEnd_37 (Nat.le_of_ble_eq_true rfl) (Nat.le_of_ble_eq_true rfl) ⟨by simp [oE, c_7, c_24], rfl, rfl, rfl⟩
  · refine g_aload_n hC dX4_otherEnd_10 rfl 0 rfl ?_
    refine gf_X4_15 hC dX4_otherEnd_11 ?_
    refine g_iload_n hC dX4_otherEnd_14 rfl 1 rfl ?_
    refine n_iald hC 9 aa_9 r (show r < 24 by omega) dX4_otherEnd_15 ?_
    exact g_iret hC hr dX4_otherEnd_16 (Nat.le_of_ble_eq_true rfl) (Nat.le_of_ble_eq_true rfl) ⟨by simp [oE, c_7], rfl, rfl, rfl⟩

set_option maxRecDepth 100000 in
theorem m_X4_hasWay {l : Launch} {G : wG} (hl : l.stackTraces = false) (hG : wD G) (V : wV) (I : wI) (J : wJ) (g h : Nat) (h1 : g < 12) (h2 : h < 12) : Ctr l yX4_hasWay cX4_hasWay 3 (some .boolean) { frames := 0, cells := 0, slots := 0, locals := 0 } G [.ref (G.2.1 1), .int (nI g), .int (nI h)] V I J (pU (some (.int (if I (35 + g) h < nI 1000000 then nI 1 else nI 0))) V I J) (noX) := by
  refine ctr_of hl hG (by decide) (Nat.le_of_ble_eq_true rfl) [(0, .ref (G.2.1 1)), (1, .int (nI g)), (2, .int (nI h))] rfl ?_
  intro K hC hKl hRm hr hT
  subst hKl
  have hC : Cx K G RX4 cX4_hasWay 3 := hC
  refine g_aload_n hC dX4_hasWay_0 rfl 0 rfl ?_
  refine gf_X4_26 hC dX4_hasWay_1 ?_
  refine g_iload_n hC dX4_hasWay_4 rfl 1 rfl ?_
  refine n_aald33 hC g (show g < 12 by omega) dX4_hasWay_5 ?_
  refine g_iload_n hC dX4_hasWay_6 rfl 2 rfl ?_
  refine n_iald hC (35 + g) (ar_33 (show g < 12 by omega)) h (by rw [al_33 (show g < 12 by omega)]; omega) dX4_hasWay_7 ?_
  refine g_ldc (v := nI 1000000) hC tw_62 dX4_hasWay_8 ?_
  refine g_icmp_ge hC 17 dX4_hasWay_10 (by decide) (fun c_10 => ?_) (fun c_10 => ?_)
  · refine g_iconst (v := nI 0) hC dX4_hasWay_17 (by decide) ?_
    exact g_zret hC (by first | exact Or.inl rfl | exact Or.inr rfl) hr dX4_hasWay_18 (Nat.le_of_ble_eq_true rfl) (Nat.le_of_ble_eq_true rfl) ⟨by first | (rw [if_pos (Int32.not_le.mp c_10)] <;> rfl) | (rw [if_neg (Int32.not_lt.mpr c_10)] <;> rfl), rfl, rfl, rfl⟩
  · refine g_iconst (v := nI 1) hC dX4_hasWay_13 (by decide) ?_
    refine g_goto hC 18 dX4_hasWay_14 (by decide) ?_
    exact g_zret hC (by first | exact Or.inl rfl | exact Or.inr rfl) hr dX4_hasWay_18 (Nat.le_of_ble_eq_true rfl) (Nat.le_of_ble_eq_true rfl) ⟨by first | (rw [if_pos (Int32.not_le.mp c_10)] <;> rfl) | (rw [if_neg (Int32.not_lt.mpr c_10)] <;> rfl), rfl, rfl, rfl⟩

set_option maxRecDepth 100000 in
theorem m_X4_roadTowards {l : Launch} {G : wG} (hl : l.stackTraces = false) (hG : wD G) (V : wV) (I : wI) (J : wJ) (n at9 goal : Nat) (hn : V 2 = nI n) (hw : wfR I n) (h2 : at9 < 12) (h3 : goal < 12) : Ctr l yX4_roadTowards cX4_roadTowards 5 (some .int) { frames := 1, cells := 0, slots := 0, locals := 22 } G [.ref (G.2.1 1), .int (nI at9), .int (nI goal)] V I J (pU (some (.int (rT I n at9 goal))) V I J) (noX) := by
  refine ctr_of hl hG (by decide) (Nat.le_of_ble_eq_true rfl) [(0, .ref (G.2.1 1)), (1, .int (nI at9)), (2, .int (nI goal))] rfl ?_
  intro K hC hKl hRm hr hT
  subst hKl
  have hC : Cx K G RX4 cX4_roadTowards 5 := hC
  have hn24 := hw.1
  have lp_2 : ∀ (k9 : Nat) (i : Nat) (hi : i ≤ n) (h1 : n < i + k9) (hf : rT I n at9 goal = fi (rc I at9 goal) (n - i) i), WW K G 0 0 (QM K G { frames := 1, cells := 0, slots := 0, locals := 22 } (pU (some (.int (rT I n at9 goal))) V I J) (noX)) V I J 2 [(3, .int (nI i)), (0, .ref (G.2.1 1)), (1, .int (nI at9)), (2, .int (nI goal))] [] := by
    intro k9
    induction k9 with
    | zero =>
      intro i hi h1 hf
      omega
    | succ k9 ih =>
      intro i hi h1 hf
      refine g_iload_n hC dX4_roadTowards_2 rfl 0 rfl ?_
      refine g_aload_n hC dX4_roadTowards_3 rfl 1 rfl ?_
      refine gf_X4_34 hC dX4_roadTowards_4 ?_
      refine g_eqI (x' := nI n) (by rw [hn]) ?_
      refine g_icmp_ge hC 59 dX4_roadTowards_7 (by decide) (fun c_7 => ?_) (fun c_7 => ?_)
      · have d_7 : n ≤ i := (nI_leI (by omega) (by omega)).mp c_7
        refine g_iconst (v := (-1)) hC dX4_roadTowards_59 (by decide) ?_
        exact g_iret hC hr dX4_roadTowards_60 (Nat.le_of_ble_eq_true rfl) (Nat.le_of_ble_eq_true rfl) ⟨by rw [hf, show n - i = 0 by omega]; rfl, rfl, rfl, rfl⟩
      · have d_7 : ¬ n ≤ i := fun q => c_7 ((nI_leI (by omega) (by omega)).mpr q)
        refine g_aload_n hC dX4_roadTowards_10 rfl 1 rfl ?_
        refine g_iload_n hC dX4_roadTowards_11 rfl 0 rfl ?_
        refine g_iload_n hC dX4_roadTowards_12 rfl 2 rfl ?_
        refine g_cV hC [.int (nI i), .int (nI at9)] 1 (m_X4_otherEnd hl hG V I J i (nI at9) (by omega)) rfl (st2 := [.int (oE I i (nI at9))]) rfl (by decide) rfl rfl rfl tw_311 tw_312 tw_313 tw_32 tw_314 pd_X4_otherEnd ⟨rfl, rfl⟩ (by rw [hRm]; exact ⟨Nat.le_of_ble_eq_true rfl, Nat.le_of_ble_eq_true rfl, Nat.le_of_ble_eq_true rfl, Nat.le_of_ble_eq_true rfl⟩) (Nat.le_of_ble_eq_true rfl) dX4_roadTowards_13 ?_
        refine g_istore hC [(4, .int (oE I i (nI at9))), (3, .int (nI i)), (0, .ref (G.2.1 1)), (1, .int (nI at9)), (2, .int (nI goal))] dX4_roadTowards_16 (by decide) rfl ?_
        refine g_iload hC dX4_roadTowards_18 0 rfl ?_
        refine g_iconst (v := (-1)) hC dX4_roadTowards_20 (by decide) ?_
        refine g_icmp_eq hC 53 dX4_roadTowards_21 (by decide) (fun c_21 => ?_) (fun c_21 => ?_)
        · refine g_iinc (v := nI (i + 1)) hC [(3, .int (nI (i + 1))), (4, .int (oE I i (nI at9))), (0, .ref (G.2.1 1)), (1, .int (nI at9)), (2, .int (nI goal))] dX4_roadTowards_53 1 rfl (nI_i1 _) (by decide) rfl ?_
          refine g_goto hC 2 dX4_roadTowards_56 (by decide) ?_
          refine g_lv [0, 2, 3, 4] (lv2 := [(3, .int (nI (i + 1))), (0, .ref (G.2.1 1)), (1, .int (nI at9)), (2, .int (nI goal))]) rfl ?_
          exact ih (i + 1) (by omega) (by omega) (by rw [hf, show n - i = (n - (i + 1)) + 1 by omega]; exact fi_n (by first | exact rc_f1 c_21 | exact rc_f2 c_48))
        · have hq := oE_nI hw (show i < n by omega) c_21
          refine g_aload_n hC dX4_roadTowards_24 rfl 2 rfl ?_
          refine gf_X4_26 hC dX4_roadTowards_25 ?_
          refine g_iload hC dX4_roadTowards_28 0 rfl ?_
          refine g_eqI (x' := nI (oE I i (nI at9)).toNatClampNeg) hq.2 ?_
          refine n_aald33 hC ((oE I i (nI at9)).toNatClampNeg) (show (oE I i (nI at9)).toNatClampNeg < 12 by exact hq.1) dX4_roadTowards_30 ?_
          refine g_iload_n hC dX4_roadTowards_31 rfl 4 rfl ?_
          refine n_iald hC (35 + ((oE I i (nI at9)).toNatClampNeg)) (ar_33 (show ((oE I i (nI at9)).toNatClampNeg) < 12 by first | omega | exact hq.1)) goal (by rw [al_33 (show ((oE I i (nI at9)).toNatClampNeg) < 12 by first | omega | exact hq.1)]; first | omega | exact hq.1) dX4_roadTowards_32 ?_
          refine g_aload_n hC dX4_roadTowards_33 rfl 2 rfl ?_
          refine gf_X4_18 hC dX4_roadTowards_34 ?_
          refine g_iload_n hC dX4_roadTowards_37 rfl 1 rfl ?_
          refine n_iald hC 10 aa_10 i (show i < 24 by omega) dX4_roadTowards_38 ?_
          refine g_iadd hC dX4_roadTowards_39 ?_
          refine g_aload_n hC dX4_roadTowards_40 rfl 2 rfl ?_
          refine gf_X4_26 hC dX4_roadTowards_41 ?_
          refine g_iload_n hC dX4_roadTowards_44 rfl 3 rfl ?_
          refine n_aald33 hC at9 (show at9 < 12 by omega) dX4_roadTowards_45 ?_
          refine g_iload_n hC dX4_roadTowards_46 rfl 4 rfl ?_
          refine n_iald hC (35 + at9) (ar_33 (show at9 < 12 by first | omega | exact h2)) goal (by rw [al_33 (show at9 < 12 by first | omega | exact h2)]; first | omega | exact h2) dX4_roadTowards_47 ?_
          refine g_icmp_ne hC 53 dX4_roadTowards_48 (by decide) (fun c_48 => ?_) (fun c_48 => ?_)
          · refine g_iinc (v := nI (i + 1)) hC [(3, .int (nI (i + 1))), (4, .int (oE I i (nI at9))), (0, .ref (G.2.1 1)), (1, .int (nI at9)), (2, .int (nI goal))] dX4_roadTowards_53 1 rfl (nI_i1 _) (by decide) rfl ?_
            refine g_goto hC 2 dX4_roadTowards_56 (by decide) ?_
            refine g_lv [0, 2, 3, 4] (lv2 := [(3, .int (nI (i + 1))), (0, .ref (G.2.1 1)), (1, .int (nI at9)), (2, .int (nI goal))]) rfl ?_
            exact ih (i + 1) (by omega) (by omega) (by rw [hf, show n - i = (n - (i + 1)) + 1 by omega]; exact fi_n (by first | exact rc_f1 c_21 | exact rc_f2 c_48))
          · refine g_iload_n hC dX4_roadTowards_51 rfl 1 rfl ?_
            exact g_iret hC hr dX4_roadTowards_52 (Nat.le_of_ble_eq_true rfl) (Nat.le_of_ble_eq_true rfl) ⟨by rw [hf, show n - i = (n - (i + 1)) + 1 by omega, fi_s (rc_t c_21 c_48)], rfl, rfl, rfl⟩
  refine g_iconst (v := nI 0) hC dX4_roadTowards_0 (by decide) ?_
  refine g_istore_n hC [(3, .int (nI 0)), (0, .ref (G.2.1 1)), (1, .int (nI at9)), (2, .int (nI goal))] dX4_roadTowards_1 rfl (by decide) rfl ?_
  exact lp_2 (n + 1) 0 (by omega) (by omega) rfl

set_option maxRecDepth 100000 in
theorem m_X5_isBusy {l : Launch} {G : wG} (hl : l.stackTraces = false) (hG : wD G) (V : wV) (I : wI) (J : wJ) (m : Int32) : Ctr l yX5_isBusy cX5_isBusy 2 (some .boolean) { frames := 0, cells := 0, slots := 0, locals := 0 } G [.int m] V I J (pU (some (.int (if bz m = true then nI 1 else nI 0))) V I J) (noX) := by
  refine ctr_of hl hG (by decide) (Nat.le_of_ble_eq_true rfl) [(0, .int m)] rfl ?_
  intro K hC hKl hRm hr hT
  subst hKl
  have hC : Cx K G RX5 cX5_isBusy 2 := hC
  refine g_iload_n hC dX5_isBusy_0 rfl 0 rfl ?_
  refine g_bipush (v := nI 60) hC dX5_isBusy_1 (by decide) ?_
  refine g_idiv hC dX5_isBusy_3 (by decide) ?_
  refine g_bipush (v := nI 24) hC dX5_isBusy_4 (by decide) ?_
  refine g_irem hC dX5_isBusy_6 (by decide) ?_
  refine g_istore_n hC [(1, .int (((m) / (nI 60)) - ((m) / (nI 60)) / (nI 24) * (nI 24))), (0, .int m)] dX5_isBusy_7 rfl (by decide) rfl ?_
  refine g_iload_n hC dX5_isBusy_8 rfl 0 rfl ?_
  refine g_bipush (v := nI 7) hC dX5_isBusy_9 (by decide) ?_
  refine g_icmp_eq hC 32 dX5_isBusy_11 (by decide) (fun c_11 => ?_) (fun c_11 => ?_)
  · refine g_iconst (v := nI 1) hC dX5_isBusy_32 (by decide) ?_
    refine g_goto hC 37 dX5_isBusy_33 (by decide) ?_
    exact g_zret hC (by first | exact Or.inl rfl | exact Or.inr rfl) hr dX5_isBusy_37 (Nat.le_of_ble_eq_true rfl) (Nat.le_of_ble_eq_true rfl) ⟨by simp [bz, *], rfl, rfl, rfl⟩
  · refine g_iload_n hC dX5_isBusy_14 rfl 0 rfl ?_
    refine g_bipush (v := nI 8) hC dX5_isBusy_15 (by decide) ?_
    refine g_icmp_eq hC 32 dX5_isBusy_17 (by decide) (fun c_17 => ?_) (fun c_17 => ?_)
    · refine g_iconst (v := nI 1) hC dX5_isBusy_32 (by decide) ?_
      refine g_goto hC 37 dX5_isBusy_33 (by decide) ?_
      exact g_zret hC (by first | exact Or.inl rfl | exact Or.inr rfl) hr dX5_isBusy_37 (Nat.le_of_ble_eq_true rfl) (Nat.le_of_ble_eq_true rfl) ⟨by simp [bz, *], rfl, rfl, rfl⟩
    · refine g_iload_n hC dX5_isBusy_20 rfl 0 rfl ?_
      refine g_bipush (v := nI 16) hC dX5_isBusy_21 (by decide) ?_
      refine g_icmp_eq hC 32 dX5_isBusy_23 (by decide) (fun c_23 => ?_) (fun c_23 => ?_)
      · refine g_iconst (v := nI 1) hC dX5_isBusy_32 (by decide) ?_
        refine g_goto hC 37 dX5_isBusy_33 (by decide) ?_
        exact g_zret hC (by first | exact Or.inl rfl | exact Or.inr rfl) hr dX5_isBusy_37 (Nat.le_of_ble_eq_true rfl) (Nat.le_of_ble_eq_true rfl) ⟨by simp [bz, *], rfl, rfl, rfl⟩
      · refine g_iload_n hC dX5_isBusy_26 rfl 0 rfl ?_
        refine g_bipush (v := nI 17) hC dX5_isBusy_27 (by decide) ?_
        refine g_icmp_ne hC 36 dX5_isBusy_29 (by decide) (fun c_29 => ?_) (fun c_29 => ?_)
        · refine g_iconst (v := nI 0) hC dX5_isBusy_36 (by decide) ?_
          exact g_zret hC (by first | exact Or.inl rfl | exact Or.inr rfl) hr dX5_isBusy_37 (Nat.le_of_ble_eq_true rfl) (Nat.le_of_ble_eq_true rfl) ⟨by simp [bz, *], rfl, rfl, rfl⟩
        · refine g_iconst (v := nI 1) hC dX5_isBusy_32 (by decide) ?_
          refine g_goto hC 37 dX5_isBusy_33 (by decide) ?_
          exact g_zret hC (by first | exact Or.inl rfl | exact Or.inr rfl) hr dX5_isBusy_37 (Nat.le_of_ble_eq_true rfl) (Nat.le_of_ble_eq_true rfl) ⟨by simp [bz, *], rfl, rfl, rfl⟩

set_option maxRecDepth 100000 in
theorem m_X5_centsFor {l : Launch} {G : wG} (hl : l.stackTraces = false) (hG : wD G) (V : wV) (I : wI) (J : wJ) (len : Int32) (kind : Nat) (m : Int32) (h1 : kind < 3) : Ctr l yX5_centsFor cX5_centsFor 5 (some .int) { frames := 1, cells := 0, slots := 0, locals := 21 } G [.ref (G.2.1 2), .int len, .int (nI kind), .int m] V I J (pU (some (.int (cf I len kind m))) V I J) (noX) := by
  refine ctr_of hl hG (by decide) (Nat.le_of_ble_eq_true rfl) [(0, .ref (G.2.1 2)), (1, .int len), (2, .int (nI kind)), (3, .int m)] rfl ?_
  intro K hC hKl hRm hr hT
  subst hKl
  have hC : Cx K G RX5 cX5_centsFor 5 := hC
  refine g_iload_n hC dX5_centsFor_0 rfl 3 rfl ?_
  refine g_cS hC [.int m] (m_X5_isBusy hl hG V I J m) rfl (st2 := [.int ((if bz m = true then nI 1 else nI 0))]) rfl rfl tw_319 tw_320 tw_33 tw_321 pd_X5_isBusy ⟨rfl, rfl⟩ (by rw [hRm]; exact ⟨Nat.le_of_ble_eq_true rfl, Nat.le_of_ble_eq_true rfl, Nat.le_of_ble_eq_true rfl, Nat.le_of_ble_eq_true rfl⟩) (Nat.le_of_ble_eq_true rfl) dX5_centsFor_1 ?_
  refine g_if_eq hC 16 dX5_centsFor_4 (by decide) (fun c_4 => ?_) (fun c_4 => ?_)
  · have hb : bz m = false := by cases e : bz m with | false => rfl | true => rw [e] at c_4; exact absurd c_4 (by decide)
    refine g_bipush (v := nI 100) hC dX5_centsFor_16 (by decide) ?_
    refine g_istore hC [(4, .int (nI 100)), (0, .ref (G.2.1 2)), (1, .int len), (2, .int (nI kind)), (3, .int m)] dX5_centsFor_18 (by decide) rfl ?_
    refine g_iload_n hC dX5_centsFor_20 rfl 2 rfl ?_
    refine g_aload_n hC dX5_centsFor_21 rfl 1 rfl ?_
    refine gf_X5_9 hC dX5_centsFor_22 ?_
    refine g_iload_n hC dX5_centsFor_25 rfl 3 rfl ?_
    refine n_iald hC 12 aa_12 kind (show kind < 3 by omega) dX5_centsFor_26 ?_
    refine g_imul hC dX5_centsFor_27 ?_
    refine g_iload hC dX5_centsFor_28 0 rfl ?_
    refine g_imul hC dX5_centsFor_30 ?_
    refine g_bipush (v := nI 100) hC dX5_centsFor_31 (by decide) ?_
    refine g_idiv hC dX5_centsFor_33 (by decide) ?_
    exact g_iret hC hr dX5_centsFor_34 (Nat.le_of_ble_eq_true rfl) (Nat.le_of_ble_eq_true rfl) ⟨by unfold cf; rw [hb]; rfl, rfl, rfl, rfl⟩
  · have hb : bz m = true := by cases e : bz m with | false => rw [e] at c_4; exact absurd rfl c_4 | true => rfl
    refine g_aload_n hC dX5_centsFor_7 rfl 0 rfl ?_
    refine gf_X5_15 hC dX5_centsFor_8 ?_
    refine g_iload_n hC dX5_centsFor_11 rfl 2 rfl ?_
    refine n_iald hC 13 aa_13 kind (show kind < 3 by omega) dX5_centsFor_12 ?_
    refine g_goto hC 18 dX5_centsFor_13 (by decide) ?_
    refine g_istore hC [(4, .int (I 13 kind)), (0, .ref (G.2.1 2)), (1, .int len), (2, .int (nI kind)), (3, .int m)] dX5_centsFor_18 (by decide) rfl ?_
    refine g_iload_n hC dX5_centsFor_20 rfl 2 rfl ?_
    refine g_aload_n hC dX5_centsFor_21 rfl 1 rfl ?_
    refine gf_X5_9 hC dX5_centsFor_22 ?_
    refine g_iload_n hC dX5_centsFor_25 rfl 3 rfl ?_
    refine n_iald hC 12 aa_12 kind (show kind < 3 by omega) dX5_centsFor_26 ?_
    refine g_imul hC dX5_centsFor_27 ?_
    refine g_iload hC dX5_centsFor_28 0 rfl ?_
    refine g_imul hC dX5_centsFor_30 ?_
    refine g_bipush (v := nI 100) hC dX5_centsFor_31 (by decide) ?_
    refine g_idiv hC dX5_centsFor_33 (by decide) ?_
    exact g_iret hC hr dX5_centsFor_34 (Nat.le_of_ble_eq_true rfl) (Nat.le_of_ble_eq_true rfl) ⟨by unfold cf; rw [hb]; rfl, rfl, rfl, rfl⟩

set_option maxRecDepth 100000 in
theorem m_X2_isExempt {l : Launch} {G : wG} (hl : l.stackTraces = false) (hG : wD G) (V : wV) (I : wI) (J : wJ) (n : Nat) (p m : Int32) (hn : V 4 = nI n) (h1 : n ≤ 20) : Ctr l yX2_isExempt cX2_isExempt 4 (some .boolean) { frames := 0, cells := 0, slots := 0, locals := 0 } G [.ref (G.2.1 3), .int p, .int m] V I J (pU (some (.int (if an (ec I p m) n = true then nI 1 else nI 0))) V I J) (noX) := by
  refine ctr_of hl hG (by decide) (Nat.le_of_ble_eq_true rfl) [(0, .ref (G.2.1 3)), (1, .int p), (2, .int m)] rfl ?_
  intro K hC hKl hRm hr hT
  subst hKl
  have hC : Cx K G RX2 cX2_isExempt 4 := hC
  have lp_2 : ∀ (k9 : Nat) (i : Nat) (hi : i ≤ n) (hk : n < i + k9) (hf : an (ec I p m) i = false), WW K G 0 0 (QM K G { frames := 0, cells := 0, slots := 0, locals := 0 } (pU (some (.int (if an (ec I p m) n = true then nI 1 else nI 0))) V I J) (noX)) V I J 2 [(3, .int (nI i)), (0, .ref (G.2.1 3)), (1, .int p), (2, .int m)] [] := by
    intro k9
    induction k9 with
    | zero =>
      intro i hi hk hf
      omega
    | succ k9 ih =>
      intro i hi hk hf
      refine g_iload_n hC dX2_isExempt_2 rfl 0 rfl ?_
      refine g_aload_n hC dX2_isExempt_3 rfl 1 rfl ?_
      refine gf_X2_27 hC dX2_isExempt_4 ?_
      refine g_eqI (x' := nI n) (by rw [hn]) ?_
      refine g_icmp_ge hC 48 dX2_isExempt_7 (by decide) (fun c_7 => ?_) (fun c_7 => ?_)
      · have d_7 : n ≤ i := (nI_leI (by omega) (by omega)).mp c_7
        refine g_iconst (v := nI 0) hC dX2_isExempt_48 (by decide) ?_
        exact g_zret hC (by first | exact Or.inl rfl | exact Or.inr rfl) hr dX2_isExempt_49 (Nat.le_of_ble_eq_true rfl) (Nat.le_of_ble_eq_true rfl) ⟨by rw [if_neg (by rw [show n = i by omega, hf]; decide)] <;> rfl, rfl, rfl, rfl⟩
      · have d_7 : ¬ n ≤ i := fun q => c_7 ((nI_leI (by omega) (by omega)).mpr q)
        refine g_aload_n hC dX2_isExempt_10 rfl 1 rfl ?_
        refine gf_X2_18 hC dX2_isExempt_11 ?_
        refine g_iload_n hC dX2_isExempt_14 rfl 0 rfl ?_
        refine n_iald hC 16 aa_16 i (show i < 20 by omega) dX2_isExempt_15 ?_
        refine g_iload_n hC dX2_isExempt_16 rfl 2 rfl ?_
        refine g_icmp_ne hC 42 dX2_isExempt_17 (by decide) (fun c_17 => ?_) (fun c_17 => ?_)
        · refine g_iinc (v := nI (i + 1)) hC [(3, .int (nI (i + 1))), (0, .ref (G.2.1 3)), (1, .int p), (2, .int m)] dX2_isExempt_42 0 rfl (nI_i1 _) (by decide) rfl ?_
          refine g_goto hC 2 dX2_isExempt_45 (by decide) ?_
          exact ih (i + 1) (by omega) (by omega) (an_s hf (by first | exact ec_f1 c_17 | exact ec_f2 (Int32.not_le.mpr c_27) | exact ec_f3 (Int32.not_le.mpr c_37)))
        · refine g_aload_n hC dX2_isExempt_20 rfl 1 rfl ?_
          refine gf_X2_21 hC dX2_isExempt_21 ?_
          refine g_iload_n hC dX2_isExempt_24 rfl 0 rfl ?_
          refine n_iald hC 17 aa_17 i (show i < 20 by omega) dX2_isExempt_25 ?_
          refine g_iload_n hC dX2_isExempt_26 rfl 3 rfl ?_
          refine g_icmp_gt hC 42 dX2_isExempt_27 (by decide) (fun c_27 => ?_) (fun c_27 => ?_)
          · refine g_iinc (v := nI (i + 1)) hC [(3, .int (nI (i + 1))), (0, .ref (G.2.1 3)), (1, .int p), (2, .int m)] dX2_isExempt_42 0 rfl (nI_i1 _) (by decide) rfl ?_
            refine g_goto hC 2 dX2_isExempt_45 (by decide) ?_
            exact ih (i + 1) (by omega) (by omega) (an_s hf (by first | exact ec_f1 c_17 | exact ec_f2 (Int32.not_le.mpr c_27) | exact ec_f3 (Int32.not_le.mpr c_37)))
          · refine g_iload_n hC dX2_isExempt_30 rfl 3 rfl ?_
            refine g_aload_n hC dX2_isExempt_31 rfl 1 rfl ?_
            refine gf_X2_24 hC dX2_isExempt_32 ?_
            refine g_iload_n hC dX2_isExempt_35 rfl 0 rfl ?_
            refine n_iald hC 18 aa_18 i (show i < 20 by omega) dX2_isExempt_36 ?_
            refine g_icmp_gt hC 42 dX2_isExempt_37 (by decide) (fun c_37 => ?_) (fun c_37 => ?_)
            · refine g_iinc (v := nI (i + 1)) hC [(3, .int (nI (i + 1))), (0, .ref (G.2.1 3)), (1, .int p), (2, .int m)] dX2_isExempt_42 0 rfl (nI_i1 _) (by decide) rfl ?_
              refine g_goto hC 2 dX2_isExempt_45 (by decide) ?_
              exact ih (i + 1) (by omega) (by omega) (an_s hf (by first | exact ec_f1 c_17 | exact ec_f2 (Int32.not_le.mpr c_27) | exact ec_f3 (Int32.not_le.mpr c_37)))
            · refine g_iconst (v := nI 1) hC dX2_isExempt_40 (by decide) ?_
              exact g_zret hC (by first | exact Or.inl rfl | exact Or.inr rfl) hr dX2_isExempt_41 (Nat.le_of_ble_eq_true rfl) (Nat.le_of_ble_eq_true rfl) ⟨by rw [if_pos (an_t (ec_t c_17 (Int32.not_lt.mp c_27) (Int32.not_lt.mp c_37)) n (by omega))] <;> rfl, rfl, rfl, rfl⟩
  refine g_iconst (v := nI 0) hC dX2_isExempt_0 (by decide) ?_
  refine g_istore_n hC [(3, .int (nI 0)), (0, .ref (G.2.1 3)), (1, .int p), (2, .int m)] dX2_isExempt_1 rfl (by decide) rfl ?_
  exact lp_2 (n + 1) 0 (by omega) (by omega) rfl

set_option maxRecDepth 100000 in
theorem m_X2_addSpan {l : Launch} {G : wG} (hl : l.stackTraces = false) (hG : wD G) (V : wV) (I : wI) (J : wJ) (n : Nat) (p a b : Int32) (hn : V 4 = nI n) (h1 : n < 20) : Ctr l yX2_addSpan cX2_addSpan 4 (some .int) { frames := 0, cells := 0, slots := 0, locals := 0 } G [.ref (G.2.1 3), .int p, .int a, .int b] V I J (pU (some (.int (nI (n + 1)))) (upd V 4 (nI (n + 1))) (uI (uI (uI I 16 (upd (I 16) n p)) 17 (upd (I 17) n a)) 18 (upd (I 18) n b)) J) (noX) := by
  refine ctr_of hl hG (by decide) (Nat.le_of_ble_eq_true rfl) [(0, .ref (G.2.1 3)), (1, .int p), (2, .int a), (3, .int b)] rfl ?_
  intro K hC hKl hRm hr hT
  subst hKl
  have hC : Cx K G RX2 cX2_addSpan 4 := hC
  refine g_aload_n hC dX2_addSpan_0 rfl 0 rfl ?_
  refine gf_X2_18 hC dX2_addSpan_1 ?_
  refine g_aload_n hC dX2_addSpan_4 rfl 0 rfl ?_
  refine gf_X2_27 hC dX2_addSpan_5 ?_
  refine g_eqI (x' := nI n) (by rw [hn]) ?_
  refine g_iload_n hC dX2_addSpan_8 rfl 1 rfl ?_
  refine n_iast hC 16 aa_16 n (show n < 20 by omega) dX2_addSpan_9 ?_
  refine g_aload_n hC dX2_addSpan_10 rfl 0 rfl ?_
  refine gf_X2_21 hC dX2_addSpan_11 ?_
  refine g_aload_n hC dX2_addSpan_14 rfl 0 rfl ?_
  refine gf_X2_27 hC dX2_addSpan_15 ?_
  refine g_eqI (x' := nI n) (by rw [hn]) ?_
  refine g_iload_n hC dX2_addSpan_18 rfl 2 rfl ?_
  refine n_iast hC 17 aa_17 n (show n < 20 by omega) dX2_addSpan_19 ?_
  refine g_aload_n hC dX2_addSpan_20 rfl 0 rfl ?_
  refine gf_X2_24 hC dX2_addSpan_21 ?_
  refine g_aload_n hC dX2_addSpan_24 rfl 0 rfl ?_
  refine gf_X2_27 hC dX2_addSpan_25 ?_
  refine g_eqI (x' := nI n) (by rw [hn]) ?_
  refine g_iload_n hC dX2_addSpan_28 rfl 3 rfl ?_
  refine n_iast hC 18 aa_18 n (show n < 20 by omega) dX2_addSpan_29 ?_
  refine g_aload_n hC dX2_addSpan_30 rfl 0 rfl ?_
  refine g_dup hC dX2_addSpan_31 rfl ?_
  refine gf_X2_27 hC dX2_addSpan_32 ?_
  refine g_eqI (x' := nI n) (by rw [hn]) ?_
  refine g_iconst (v := nI 1) hC dX2_addSpan_35 (by decide) ?_
  refine g_iadd hC dX2_addSpan_36 ?_
  refine g_eqI (x' := nI (n + 1)) (nI_add _ _) ?_
  refine gp_X2_27 hC dX2_addSpan_37 ?_
  refine g_aload_n hC dX2_addSpan_40 rfl 0 rfl ?_
  refine gf_X2_27 hC dX2_addSpan_41 ?_
  refine g_eqI (x' := nI (n + 1)) (by rw [pk_us]) ?_
  exact g_iret hC hr dX2_addSpan_44 (Nat.le_of_ble_eq_true rfl) (Nat.le_of_ble_eq_true rfl) ⟨rfl, rfl, rfl, rfl⟩
