set_option maxRecDepth 100000 in
theorem m_X7_rate {l : Launch} {G : wG} (hl : l.stackTraces = false) (hG : wD G) (V : wV) (I : wI) (J : wJ) (p0 p1 p2 : Int32) : Ctr l yX7_rate cX7_rate 4 none { frames := 2, cells := 0, slots := 0, locals := 43 } G [.ref (G.2.1 7), .int p0, .int p1, .int p2] V I J (mQ (tcRate p0 p1 p2) none V I J (fun r V9 I9 J9 => r = none ∧ V9 = upd V 7 (nI 0) ∧ J9 = J ∧ ∃ k, k < 3 ∧ p0 = nI k ∧ I9 = sI (sI I 56 k p1) 57 k p2)) (noX) := by
  refine ctr_of hl hG (by decide) (Nat.le_of_ble_eq_true rfl) [(0, .ref (G.2.1 7)), (1, .int p0), (2, .int p1), (3, .int p2)] rfl ?_
  intro K hC hKl hRm hr hT
  subst hKl
  have hC : Cx K G RX7 cX7_rate 4 := hC
  refine g_aload_n hC dX7_rate_0 rfl 0 rfl ?_
  refine g_iload_n hC dX7_rate_1 rfl 1 rfl ?_
  refine g_iconst (v := nI 0) hC dX7_rate_2 (by decide) ?_
  refine g_iconst (v := nI 2) hC dX7_rate_3 (by decide) ?_
  refine g_cS hC [.int p0, .int (nI 0), .int (nI 2)] (m_X7_in hl hG V I J p0 (nI 0) (nI 2)) rfl (st2 := [.int ((if rgB p0 (nI 0) (nI 2) = true then nI 1 else nI 0)), .ref (G.2.1 7)]) rfl rfl tw_819 tw_820 tw_38 tw_821 pd_X7_in ⟨rfl, rfl⟩ (by rw [hRm]; exact ⟨Nat.le_of_ble_eq_true rfl, Nat.le_of_ble_eq_true rfl, Nat.le_of_ble_eq_true rfl, Nat.le_of_ble_eq_true rfl⟩) (Nat.le_of_ble_eq_true rfl) dX7_rate_4 ?_
  refine g_if_eq hC 35 dX7_rate_7 (by decide) (fun c_7 => ?_) (fun c_7 => ?_)
  · have e_7 := b10_f c_7
    refine g_iconst (v := nI 1) hC dX7_rate_35 (by decide) ?_
    refine gp_X7_103 hC dX7_rate_36 ?_
    refine g_aload_n hC dX7_rate_39 rfl 0 rfl ?_
    refine gf_X7_103 hC dX7_rate_40 ?_
    refine g_eqI (x' := nI 1) (by rw [pk_us]) ?_
    refine g_if_ne hC 60 dX7_rate_43 (by decide) (fun c_43 => ?_) (fun c_43 => ?_)
    · exact g_vret hC hr dX7_rate_60 (Nat.le_of_ble_eq_true rfl) (Nat.le_of_ble_eq_true rfl) (mQ_x (by have hz : tcRate p0 p1 p2 = 1 := (by simp [tcRate, e_7]); exact hz) (by decide))
    · exact absurd c_43 (by decide)
  · have e_7 := b10_t c_7
    refine g_iload_n hC dX7_rate_10 rfl 2 rfl ?_
    refine g_iconst (v := nI 0) hC dX7_rate_11 (by decide) ?_
    refine g_bipush (v := nI 100) hC dX7_rate_12 (by decide) ?_
    refine g_cS hC [.int p1, .int (nI 0), .int (nI 100)] (m_X7_in hl hG V I J p1 (nI 0) (nI 100)) rfl (st2 := [.int ((if rgB p1 (nI 0) (nI 100) = true then nI 1 else nI 0)), .ref (G.2.1 7)]) rfl rfl tw_819 tw_820 tw_38 tw_821 pd_X7_in ⟨rfl, rfl⟩ (by rw [hRm]; exact ⟨Nat.le_of_ble_eq_true rfl, Nat.le_of_ble_eq_true rfl, Nat.le_of_ble_eq_true rfl, Nat.le_of_ble_eq_true rfl⟩) (Nat.le_of_ble_eq_true rfl) dX7_rate_14 ?_
    refine g_if_eq hC 35 dX7_rate_17 (by decide) (fun c_17 => ?_) (fun c_17 => ?_)
    · have e_17 := b10_f c_17
      refine g_iconst (v := nI 1) hC dX7_rate_35 (by decide) ?_
      refine gp_X7_103 hC dX7_rate_36 ?_
      refine g_aload_n hC dX7_rate_39 rfl 0 rfl ?_
      refine gf_X7_103 hC dX7_rate_40 ?_
      refine g_eqI (x' := nI 1) (by rw [pk_us]) ?_
      refine g_if_ne hC 60 dX7_rate_43 (by decide) (fun c_43 => ?_) (fun c_43 => ?_)
      · exact g_vret hC hr dX7_rate_60 (Nat.le_of_ble_eq_true rfl) (Nat.le_of_ble_eq_true rfl) (mQ_x (by have hz : tcRate p0 p1 p2 = 1 := (by simp [tcRate, e_7, e_17]); exact hz) (by decide))
      · exact absurd c_43 (by decide)
    · have e_17 := b10_t c_17
      refine g_iload_n hC dX7_rate_20 rfl 3 rfl ?_
      refine g_iconst (v := nI 0) hC dX7_rate_21 (by decide) ?_
      refine g_sipush (v := nI 300) hC dX7_rate_22 (by decide) ?_
      refine g_cS hC [.int p2, .int (nI 0), .int (nI 300)] (m_X7_in hl hG V I J p2 (nI 0) (nI 300)) rfl (st2 := [.int ((if rgB p2 (nI 0) (nI 300) = true then nI 1 else nI 0)), .ref (G.2.1 7)]) rfl rfl tw_819 tw_820 tw_38 tw_821 pd_X7_in ⟨rfl, rfl⟩ (by rw [hRm]; exact ⟨Nat.le_of_ble_eq_true rfl, Nat.le_of_ble_eq_true rfl, Nat.le_of_ble_eq_true rfl, Nat.le_of_ble_eq_true rfl⟩) (Nat.le_of_ble_eq_true rfl) dX7_rate_25 ?_
      refine g_if_eq hC 35 dX7_rate_28 (by decide) (fun c_28 => ?_) (fun c_28 => ?_)
      · have e_28 := b10_f c_28
        refine g_iconst (v := nI 1) hC dX7_rate_35 (by decide) ?_
        refine gp_X7_103 hC dX7_rate_36 ?_
        refine g_aload_n hC dX7_rate_39 rfl 0 rfl ?_
        refine gf_X7_103 hC dX7_rate_40 ?_
        refine g_eqI (x' := nI 1) (by rw [pk_us]) ?_
        refine g_if_ne hC 60 dX7_rate_43 (by decide) (fun c_43 => ?_) (fun c_43 => ?_)
        · exact g_vret hC hr dX7_rate_60 (Nat.le_of_ble_eq_true rfl) (Nat.le_of_ble_eq_true rfl) (mQ_x (by have hz : tcRate p0 p1 p2 = 1 := (by simp [tcRate, e_7, e_17, e_28]); exact hz) (by decide))
        · exact absurd c_43 (by decide)
      · have e_28 := b10_t c_28
        refine g_iconst (v := nI 0) hC dX7_rate_31 (by decide) ?_
        refine g_goto hC 36 dX7_rate_32 (by decide) ?_
        refine gp_X7_103 hC dX7_rate_36 ?_
        refine g_aload_n hC dX7_rate_39 rfl 0 rfl ?_
        refine gf_X7_103 hC dX7_rate_40 ?_
        refine g_eqI (x' := nI 0) (by rw [pk_us]) ?_
        refine g_if_ne hC 60 dX7_rate_43 (by decide) (fun c_43 => ?_) (fun c_43 => ?_)
        · exact absurd c_43 (by decide)
        · have hz : tcRate p0 p1 p2 = 0 := by simp [tcRate, e_7, e_17, e_28]
          obtain ⟨k, hk, ek⟩ := rgB_nI e_7 (by omega)
          subst ek
          refine g_aload_n hC dX7_rate_46 rfl 0 rfl ?_
          refine gf_X7_25 hC dX7_rate_47 ?_
          refine g_iload_n hC dX7_rate_50 rfl 1 rfl ?_
          refine g_iload_n hC dX7_rate_51 rfl 2 rfl ?_
          refine n_iast hC 56 aa_56 k (show k < 3 by omega) dX7_rate_52 ?_
          refine g_aload_n hC dX7_rate_53 rfl 0 rfl ?_
          refine gf_X7_28 hC dX7_rate_54 ?_
          refine g_iload_n hC dX7_rate_57 rfl 1 rfl ?_
          refine g_iload_n hC dX7_rate_58 rfl 3 rfl ?_
          refine n_iast hC 57 aa_57 k (show k < 3 by omega) dX7_rate_59 ?_
          exact g_vret hC hr dX7_rate_60 (Nat.le_of_ble_eq_true rfl) (Nat.le_of_ble_eq_true rfl) (Or.inl ⟨hz, rfl, rfl, rfl, k, by omega, rfl, rfl⟩)

set_option maxRecDepth 100000 in
theorem m_X7_most {l : Launch} {G : wG} (hl : l.stackTraces = false) (hG : wD G) (V : wV) (I : wI) (J : wJ) (p0 : Int32) : Ctr l yX7_most cX7_most 3 (some .int) { frames := 2, cells := 0, slots := 0, locals := 43 } G [.ref (G.2.1 7), .int p0] V I J (mQ (tcMost p0) (some (.int (nI 0))) V I J (fun r V9 I9 J9 => r = some (.int (V 11)) ∧ V9 = upd (upd V 7 (nI 0)) 11 p0 ∧ I9 = I ∧ J9 = J)) (noX) := by
  refine ctr_of hl hG (by decide) (Nat.le_of_ble_eq_true rfl) [(0, .ref (G.2.1 7)), (1, .int p0)] rfl ?_
  intro K hC hKl hRm hr hT
  subst hKl
  have hC : Cx K G RX7 cX7_most 3 := hC
  refine g_aload_n hC dX7_most_0 rfl 0 rfl ?_
  refine g_iload_n hC dX7_most_1 rfl 1 rfl ?_
  refine g_iconst (v := nI 0) hC dX7_most_2 (by decide) ?_
  refine g_ldc (v := nI 100000) hC tw_830 dX7_most_3 ?_
  refine g_cS hC [.int p0, .int (nI 0), .int (nI 100000)] (m_X7_in hl hG V I J p0 (nI 0) (nI 100000)) rfl (st2 := [.int ((if rgB p0 (nI 0) (nI 100000) = true then nI 1 else nI 0)), .ref (G.2.1 7)]) rfl rfl tw_819 tw_820 tw_38 tw_821 pd_X7_in ⟨rfl, rfl⟩ (by rw [hRm]; exact ⟨Nat.le_of_ble_eq_true rfl, Nat.le_of_ble_eq_true rfl, Nat.le_of_ble_eq_true rfl, Nat.le_of_ble_eq_true rfl⟩) (Nat.le_of_ble_eq_true rfl) dX7_most_5 ?_
  refine g_if_eq hC 15 dX7_most_8 (by decide) (fun c_8 => ?_) (fun c_8 => ?_)
  · have e_8 := b10_f c_8
    refine g_iconst (v := nI 1) hC dX7_most_15 (by decide) ?_
    refine gp_X7_103 hC dX7_most_16 ?_
    refine g_aload_n hC dX7_most_19 rfl 0 rfl ?_
    refine gf_X7_103 hC dX7_most_20 ?_
    refine g_eqI (x' := nI 1) (by rw [pk_us]) ?_
    refine g_if_le hC 28 dX7_most_23 (by decide) (fun c_23 => ?_) (fun c_23 => ?_)
    · exact absurd c_23 (by decide)
    · refine g_iconst (v := nI 0) hC dX7_most_26 (by decide) ?_
      exact g_iret hC hr dX7_most_27 (Nat.le_of_ble_eq_true rfl) (Nat.le_of_ble_eq_true rfl) (mQ_x (by have hz : tcMost p0 = 1 := (by simp [tcMost, e_8]); exact hz) (by decide))
  · have e_8 := b10_t c_8
    refine g_iconst (v := nI 0) hC dX7_most_11 (by decide) ?_
    refine g_goto hC 16 dX7_most_12 (by decide) ?_
    refine gp_X7_103 hC dX7_most_16 ?_
    refine g_aload_n hC dX7_most_19 rfl 0 rfl ?_
    refine gf_X7_103 hC dX7_most_20 ?_
    refine g_eqI (x' := nI 0) (by rw [pk_us]) ?_
    refine g_if_le hC 28 dX7_most_23 (by decide) (fun c_23 => ?_) (fun c_23 => ?_)
    · have hz : tcMost p0 = 0 := by simp [tcMost, e_8]
      refine g_aload_n hC dX7_most_28 rfl 0 rfl ?_
      refine gf_X7_31 hC dX7_most_29 ?_
      refine g_eqI (x' := V 11) (by rw [pk_un (by decide)]) ?_
      refine g_istore_n hC [(2, .int (V 11)), (0, .ref (G.2.1 7)), (1, .int p0)] dX7_most_32 rfl (by decide) rfl ?_
      refine g_aload_n hC dX7_most_33 rfl 1 rfl ?_
      refine g_iload_n hC dX7_most_34 rfl 2 rfl ?_
      refine gp_X7_31 hC dX7_most_35 ?_
      refine g_iload_n hC dX7_most_38 rfl 0 rfl ?_
      exact g_iret hC hr dX7_most_39 (Nat.le_of_ble_eq_true rfl) (Nat.le_of_ble_eq_true rfl) (Or.inl ⟨hz, rfl, rfl, rfl, rfl⟩)
    · exact absurd c_23 (by decide)

set_option maxRecDepth 100000 in
theorem m_X7_plate {l : Launch} {G : wG} (hl : l.stackTraces = false) (hG : wD G) (V : wV) (I : wI) (J : wJ) (p0 p1 p2 : Int32) : Ctr l yX7_plate cX7_plate 4 none { frames := 2, cells := 0, slots := 0, locals := 43 } G [.ref (G.2.1 7), .int p0, .int p1, .int p2] V I J (mQ (tcPlate p0 p1 p2) none V I J (fun r V9 I9 J9 => r = none ∧ V9 = upd V 7 (nI 0) ∧ J9 = J ∧ ∃ p, p < 10 ∧ p0 = nI p ∧ I9 = sI (sI I 58 p p1) 59 p p2)) (noX) := by
  refine ctr_of hl hG (by decide) (Nat.le_of_ble_eq_true rfl) [(0, .ref (G.2.1 7)), (1, .int p0), (2, .int p1), (3, .int p2)] rfl ?_
  intro K hC hKl hRm hr hT
  subst hKl
  have hC : Cx K G RX7 cX7_plate 4 := hC
  have hR5 : rgB p2 (nI 0) (nI 5) = inB p2 6 := rg_in2 (by omega)
  refine g_aload_n hC dX7_plate_0 rfl 0 rfl ?_
  refine g_iload_n hC dX7_plate_1 rfl 1 rfl ?_
  refine g_cS hC [.int p0] (m_X7_isPlate hl hG V I J p0) rfl (st2 := [.int ((if inB p0 10 = true then nI 1 else nI 0)), .ref (G.2.1 7)]) rfl rfl tw_835 tw_836 tw_38 tw_837 pd_X7_isPlate ⟨rfl, rfl⟩ (by rw [hRm]; exact ⟨Nat.le_of_ble_eq_true rfl, Nat.le_of_ble_eq_true rfl, Nat.le_of_ble_eq_true rfl, Nat.le_of_ble_eq_true rfl⟩) (Nat.le_of_ble_eq_true rfl) dX7_plate_2 ?_
  refine g_if_ne hC 12 dX7_plate_5 (by decide) (fun c_5 => ?_) (fun c_5 => ?_)
  · have e_5 := b10_t c_5
    refine g_iload_n hC dX7_plate_12 rfl 2 rfl ?_
    refine g_iconst (v := nI 0) hC dX7_plate_13 (by decide) ?_
    refine g_iconst (v := nI 2) hC dX7_plate_14 (by decide) ?_
    refine g_cS hC [.int p1, .int (nI 0), .int (nI 2)] (m_X7_in hl hG V I J p1 (nI 0) (nI 2)) rfl (st2 := [.int ((if rgB p1 (nI 0) (nI 2) = true then nI 1 else nI 0)), .ref (G.2.1 7)]) rfl rfl tw_819 tw_820 tw_38 tw_821 pd_X7_in ⟨rfl, rfl⟩ (by rw [hRm]; exact ⟨Nat.le_of_ble_eq_true rfl, Nat.le_of_ble_eq_true rfl, Nat.le_of_ble_eq_true rfl, Nat.le_of_ble_eq_true rfl⟩) (Nat.le_of_ble_eq_true rfl) dX7_plate_15 ?_
    refine g_if_eq hC 37 dX7_plate_18 (by decide) (fun c_18 => ?_) (fun c_18 => ?_)
    · have e_18 := b10_f c_18
      refine g_iconst (v := nI 2) hC dX7_plate_37 (by decide) ?_
      refine gp_X7_103 hC dX7_plate_38 ?_
      refine g_aload_n hC dX7_plate_41 rfl 0 rfl ?_
      refine gf_X7_103 hC dX7_plate_42 ?_
      refine g_eqI (x' := nI 2) (by rw [pk_us]) ?_
      refine g_if_ne hC 62 dX7_plate_45 (by decide) (fun c_45 => ?_) (fun c_45 => ?_)
      · exact g_vret hC hr dX7_plate_62 (Nat.le_of_ble_eq_true rfl) (Nat.le_of_ble_eq_true rfl) (mQ_x (by have hz : tcPlate p0 p1 p2 = 2 := (by simp [tcPlate, hR5, e_5, e_18]); exact hz) (by decide))
      · exact absurd c_45 (by decide)
    · have e_18 := b10_t c_18
      refine g_iload_n hC dX7_plate_21 rfl 3 rfl ?_
      refine g_iconst (v := (-1)) hC dX7_plate_22 (by decide) ?_
      refine g_icmp_eq hC 33 dX7_plate_23 (by decide) (fun c_23 => ?_) (fun c_23 => ?_)
      · refine g_iconst (v := nI 0) hC dX7_plate_33 (by decide) ?_
        refine g_goto hC 38 dX7_plate_34 (by decide) ?_
        refine gp_X7_103 hC dX7_plate_38 ?_
        refine g_aload_n hC dX7_plate_41 rfl 0 rfl ?_
        refine gf_X7_103 hC dX7_plate_42 ?_
        refine g_eqI (x' := nI 0) (by rw [pk_us]) ?_
        refine g_if_ne hC 62 dX7_plate_45 (by decide) (fun c_45 => ?_) (fun c_45 => ?_)
        · exact absurd c_45 (by decide)
        · have hz : tcPlate p0 p1 p2 = 0 := by simp [tcPlate, hR5, e_5, e_18, c_23]
          obtain ⟨p, hp, ep⟩ := inB_nI e_5 (by omega)
          subst ep
          refine g_aload_n hC dX7_plate_48 rfl 0 rfl ?_
          refine gf_X7_35 hC dX7_plate_49 ?_
          refine g_iload_n hC dX7_plate_52 rfl 1 rfl ?_
          refine g_iload_n hC dX7_plate_53 rfl 2 rfl ?_
          refine n_iast hC 58 aa_58 p (show p < 10 by omega) dX7_plate_54 ?_
          refine g_aload_n hC dX7_plate_55 rfl 0 rfl ?_
          refine gf_X7_38 hC dX7_plate_56 ?_
          refine g_iload_n hC dX7_plate_59 rfl 1 rfl ?_
          refine g_iload_n hC dX7_plate_60 rfl 3 rfl ?_
          refine n_iast hC 59 aa_59 p (show p < 10 by omega) dX7_plate_61 ?_
          exact g_vret hC hr dX7_plate_62 (Nat.le_of_ble_eq_true rfl) (Nat.le_of_ble_eq_true rfl) (Or.inl ⟨hz, rfl, rfl, rfl, p, by omega, rfl, rfl⟩)
      · refine g_iload_n hC dX7_plate_26 rfl 3 rfl ?_
        refine g_cS hC [.int p2] (m_X7_isHolder hl hG V I J p2) rfl (st2 := [.int ((if inB p2 6 = true then nI 1 else nI 0)), .ref (G.2.1 7)]) rfl rfl tw_838 tw_839 tw_38 tw_840 pd_X7_isHolder ⟨rfl, rfl⟩ (by rw [hRm]; exact ⟨Nat.le_of_ble_eq_true rfl, Nat.le_of_ble_eq_true rfl, Nat.le_of_ble_eq_true rfl, Nat.le_of_ble_eq_true rfl⟩) (Nat.le_of_ble_eq_true rfl) dX7_plate_27 ?_
        refine g_if_eq hC 37 dX7_plate_30 (by decide) (fun c_30 => ?_) (fun c_30 => ?_)
        · have e_30 := b10_f c_30
          refine g_iconst (v := nI 2) hC dX7_plate_37 (by decide) ?_
          refine gp_X7_103 hC dX7_plate_38 ?_
          refine g_aload_n hC dX7_plate_41 rfl 0 rfl ?_
          refine gf_X7_103 hC dX7_plate_42 ?_
          refine g_eqI (x' := nI 2) (by rw [pk_us]) ?_
          refine g_if_ne hC 62 dX7_plate_45 (by decide) (fun c_45 => ?_) (fun c_45 => ?_)
          · exact g_vret hC hr dX7_plate_62 (Nat.le_of_ble_eq_true rfl) (Nat.le_of_ble_eq_true rfl) (mQ_x (by have hz : tcPlate p0 p1 p2 = 2 := (by simp [tcPlate, hR5, e_5, e_18, c_23, e_30]); exact hz) (by decide))
          · exact absurd c_45 (by decide)
        · have e_30 := b10_t c_30
          refine g_iconst (v := nI 0) hC dX7_plate_33 (by decide) ?_
          refine g_goto hC 38 dX7_plate_34 (by decide) ?_
          refine gp_X7_103 hC dX7_plate_38 ?_
          refine g_aload_n hC dX7_plate_41 rfl 0 rfl ?_
          refine gf_X7_103 hC dX7_plate_42 ?_
          refine g_eqI (x' := nI 0) (by rw [pk_us]) ?_
          refine g_if_ne hC 62 dX7_plate_45 (by decide) (fun c_45 => ?_) (fun c_45 => ?_)
          · exact absurd c_45 (by decide)
          · have hz : tcPlate p0 p1 p2 = 0 := by simp [tcPlate, hR5, e_5, e_18, c_23, e_30]
            obtain ⟨p, hp, ep⟩ := inB_nI e_5 (by omega)
            subst ep
            refine g_aload_n hC dX7_plate_48 rfl 0 rfl ?_
            refine gf_X7_35 hC dX7_plate_49 ?_
            refine g_iload_n hC dX7_plate_52 rfl 1 rfl ?_
            refine g_iload_n hC dX7_plate_53 rfl 2 rfl ?_
            refine n_iast hC 58 aa_58 p (show p < 10 by omega) dX7_plate_54 ?_
            refine g_aload_n hC dX7_plate_55 rfl 0 rfl ?_
            refine gf_X7_38 hC dX7_plate_56 ?_
            refine g_iload_n hC dX7_plate_59 rfl 1 rfl ?_
            refine g_iload_n hC dX7_plate_60 rfl 3 rfl ?_
            refine n_iast hC 59 aa_59 p (show p < 10 by omega) dX7_plate_61 ?_
            exact g_vret hC hr dX7_plate_62 (Nat.le_of_ble_eq_true rfl) (Nat.le_of_ble_eq_true rfl) (Or.inl ⟨hz, rfl, rfl, rfl, p, by omega, rfl, rfl⟩)
  · have e_5 := b10_f c_5
    refine g_iconst (v := nI 1) hC dX7_plate_8 (by decide) ?_
    refine g_goto hC 38 dX7_plate_9 (by decide) ?_
    refine gp_X7_103 hC dX7_plate_38 ?_
    refine g_aload_n hC dX7_plate_41 rfl 0 rfl ?_
    refine gf_X7_103 hC dX7_plate_42 ?_
    refine g_eqI (x' := nI 1) (by rw [pk_us]) ?_
    refine g_if_ne hC 62 dX7_plate_45 (by decide) (fun c_45 => ?_) (fun c_45 => ?_)
    · exact g_vret hC hr dX7_plate_62 (Nat.le_of_ble_eq_true rfl) (Nat.le_of_ble_eq_true rfl) (mQ_x (by have hz : tcPlate p0 p1 p2 = 1 := (by simp [tcPlate, hR5, e_5]); exact hz) (by decide))
    · exact absurd c_45 (by decide)

set_option maxRecDepth 100000 in
theorem m_X7_top {l : Launch} {G : wG} (hl : l.stackTraces = false) (hG : wD G) (V : wV) (I : wI) (J : wJ) (p0 p1 : Int32) : Ctr l yX7_top cX7_top 3 (some .long) { frames := 2, cells := 0, slots := 0, locals := 43 } G [.ref (G.2.1 7), .int p0, .int p1] V I J (mQ (tcTop p0 p1) (some (.long 0)) V I J (fun r V9 I9 J9 => V9 = upd V 7 (nI 0) ∧ I9 = I ∧ ∃ h, h < 6 ∧ p0 = nI h ∧ r = some (.long (J 62 h + p1.toInt64)) ∧ J9 = sJ J 62 h (J 62 h + p1.toInt64))) (noX) := by
  refine ctr_of hl hG (by decide) (Nat.le_of_ble_eq_true rfl) [(0, .ref (G.2.1 7)), (1, .int p0), (2, .int p1)] rfl ?_
  intro K hC hKl hRm hr hT
  subst hKl
  have hC : Cx K G RX7 cX7_top 3 := hC
  refine g_aload_n hC dX7_top_0 rfl 0 rfl ?_
  refine g_iload_n hC dX7_top_1 rfl 1 rfl ?_
  refine g_cS hC [.int p0] (m_X7_isHolder hl hG V I J p0) rfl (st2 := [.int ((if inB p0 6 = true then nI 1 else nI 0)), .ref (G.2.1 7)]) rfl rfl tw_838 tw_839 tw_38 tw_840 pd_X7_isHolder ⟨rfl, rfl⟩ (by rw [hRm]; exact ⟨Nat.le_of_ble_eq_true rfl, Nat.le_of_ble_eq_true rfl, Nat.le_of_ble_eq_true rfl, Nat.le_of_ble_eq_true rfl⟩) (Nat.le_of_ble_eq_true rfl) dX7_top_2 ?_
  refine g_if_ne hC 12 dX7_top_5 (by decide) (fun c_5 => ?_) (fun c_5 => ?_)
  · have e_5 := b10_t c_5
    refine g_iload_n hC dX7_top_12 rfl 2 rfl ?_
    refine g_iconst (v := nI 1) hC dX7_top_13 (by decide) ?_
    refine g_ldc (v := nI 100000) hC tw_830 dX7_top_14 ?_
    refine g_cS hC [.int p1, .int (nI 1), .int (nI 100000)] (m_X7_in hl hG V I J p1 (nI 1) (nI 100000)) rfl (st2 := [.int ((if rgB p1 (nI 1) (nI 100000) = true then nI 1 else nI 0)), .ref (G.2.1 7)]) rfl rfl tw_819 tw_820 tw_38 tw_821 pd_X7_in ⟨rfl, rfl⟩ (by rw [hRm]; exact ⟨Nat.le_of_ble_eq_true rfl, Nat.le_of_ble_eq_true rfl, Nat.le_of_ble_eq_true rfl, Nat.le_of_ble_eq_true rfl⟩) (Nat.le_of_ble_eq_true rfl) dX7_top_16 ?_
    refine g_if_eq hC 26 dX7_top_19 (by decide) (fun c_19 => ?_) (fun c_19 => ?_)
    · have e_19 := b10_f c_19
      refine g_iconst (v := nI 2) hC dX7_top_26 (by decide) ?_
      refine gp_X7_103 hC dX7_top_27 ?_
      refine g_aload_n hC dX7_top_30 rfl 0 rfl ?_
      refine gf_X7_103 hC dX7_top_31 ?_
      refine g_eqI (x' := nI 2) (by rw [pk_us]) ?_
      refine g_if_le hC 39 dX7_top_34 (by decide) (fun c_34 => ?_) (fun c_34 => ?_)
      · exact absurd c_34 (by decide)
      · refine g_lconst (v := 0) hC dX7_top_37 (by decide) ?_
        exact g_lret hC hr dX7_top_38 (Nat.le_of_ble_eq_true rfl) (Nat.le_of_ble_eq_true rfl) (mQ_x (by have hz : tcTop p0 p1 = 2 := (by simp [tcTop, e_5, e_19]); exact hz) (by decide))
    · have e_19 := b10_t c_19
      refine g_iconst (v := nI 0) hC dX7_top_22 (by decide) ?_
      refine g_goto hC 27 dX7_top_23 (by decide) ?_
      refine gp_X7_103 hC dX7_top_27 ?_
      refine g_aload_n hC dX7_top_30 rfl 0 rfl ?_
      refine gf_X7_103 hC dX7_top_31 ?_
      refine g_eqI (x' := nI 0) (by rw [pk_us]) ?_
      refine g_if_le hC 39 dX7_top_34 (by decide) (fun c_34 => ?_) (fun c_34 => ?_)
      · have hz : tcTop p0 p1 = 0 := by simp [tcTop, e_5, e_19]
        obtain ⟨h, hh, eh⟩ := inB_nI e_5 (by omega)
        subst eh
        refine g_aload_n hC dX7_top_39 rfl 0 rfl ?_
        refine gf_X7_48 hC dX7_top_40 ?_
        refine g_iload_n hC dX7_top_43 rfl 1 rfl ?_
        refine g_dup2 hC dX7_top_44 rfl rfl ?_
        refine n_lald hC 62 aa_62 h (show h < 6 by omega) dX7_top_45 ?_
        refine g_iload_n hC dX7_top_46 rfl 2 rfl ?_
        refine g_i2l hC dX7_top_47 ?_
        refine g_ladd hC dX7_top_48 ?_
        refine n_last hC 62 aa_62 h (show h < 6 by omega) dX7_top_49 ?_
        refine g_aload_n hC dX7_top_50 rfl 0 rfl ?_
        refine gf_X7_48 hC dX7_top_51 ?_
        refine g_iload_n hC dX7_top_54 rfl 1 rfl ?_
        refine n_lald hC 62 aa_62 h (show h < 6 by omega) dX7_top_55 ?_
        refine g_eqL (x' := J 62 h + p1.toInt64) (by rw [uJ_s, pk_uLs]) ?_
        exact g_lret hC hr dX7_top_56 (Nat.le_of_ble_eq_true rfl) (Nat.le_of_ble_eq_true rfl) (Or.inl ⟨hz, rfl, rfl, h, hh, rfl, rfl, rfl⟩)
      · exact absurd c_34 (by decide)
  · have e_5 := b10_f c_5
    refine g_iconst (v := nI 1) hC dX7_top_8 (by decide) ?_
    refine g_goto hC 27 dX7_top_9 (by decide) ?_
    refine gp_X7_103 hC dX7_top_27 ?_
    refine g_aload_n hC dX7_top_30 rfl 0 rfl ?_
    refine gf_X7_103 hC dX7_top_31 ?_
    refine g_eqI (x' := nI 1) (by rw [pk_us]) ?_
    refine g_if_le hC 39 dX7_top_34 (by decide) (fun c_34 => ?_) (fun c_34 => ?_)
    · exact absurd c_34 (by decide)
    · refine g_lconst (v := 0) hC dX7_top_37 (by decide) ?_
      exact g_lret hC hr dX7_top_38 (Nat.le_of_ble_eq_true rfl) (Nat.le_of_ble_eq_true rfl) (mQ_x (by have hz : tcTop p0 p1 = 1 := (by simp [tcTop, e_5]); exact hz) (by decide))

set_option maxRecDepth 100000 in
theorem m_X7_exempt {l : Launch} {G : wG} (hl : l.stackTraces = false) (hG : wD G) (V : wV) (I : wI) (J : wJ) (ns : Nat) (p0 p1 p2 : Int32) (v12 : V 12 = nI ns) (hs : ns ≤ 20) : Ctr l yX7_exempt cX7_exempt 4 (some .int) { frames := 2, cells := 0, slots := 0, locals := 43 } G [.ref (G.2.1 7), .int p0, .int p1, .int p2] V I J (mQ (tcExempt ns p0 p1 p2) (some (.int (nI 0))) V I J (fun r V9 I9 J9 => r = some (.int (nI (ns + 1))) ∧ V9 = upd (upd V 7 (nI 0)) 12 (nI (ns + 1)) ∧ ns < 20 ∧ J9 = J ∧ I9 = sI (sI (sI I 64 ns p0) 65 ns p1) 66 ns p2)) (noX) := by
  refine ctr_of hl hG (by decide) (Nat.le_of_ble_eq_true rfl) [(0, .ref (G.2.1 7)), (1, .int p0), (2, .int p1), (3, .int p2)] rfl ?_
  intro K hC hKl hRm hr hT
  subst hKl
  have hC : Cx K G RX7 cX7_exempt 4 := hC
  refine g_aload_n hC dX7_exempt_0 rfl 0 rfl ?_
  refine g_iload_n hC dX7_exempt_1 rfl 1 rfl ?_
  refine g_cS hC [.int p0] (m_X7_isPlate hl hG V I J p0) rfl (st2 := [.int ((if inB p0 10 = true then nI 1 else nI 0)), .ref (G.2.1 7)]) rfl rfl tw_835 tw_836 tw_38 tw_837 pd_X7_isPlate ⟨rfl, rfl⟩ (by rw [hRm]; exact ⟨Nat.le_of_ble_eq_true rfl, Nat.le_of_ble_eq_true rfl, Nat.le_of_ble_eq_true rfl, Nat.le_of_ble_eq_true rfl⟩) (Nat.le_of_ble_eq_true rfl) dX7_exempt_2 ?_
  refine g_if_ne hC 12 dX7_exempt_5 (by decide) (fun c_5 => ?_) (fun c_5 => ?_)
  · have e_5 := b10_t c_5
    refine g_iload_n hC dX7_exempt_12 rfl 2 rfl ?_
    refine g_iconst (v := nI 0) hC dX7_exempt_13 (by decide) ?_
    refine g_ldc (v := nI 100000) hC tw_830 dX7_exempt_14 ?_
    refine g_cS hC [.int p1, .int (nI 0), .int (nI 100000)] (m_X7_in hl hG V I J p1 (nI 0) (nI 100000)) rfl (st2 := [.int ((if rgB p1 (nI 0) (nI 100000) = true then nI 1 else nI 0)), .ref (G.2.1 7)]) rfl rfl tw_819 tw_820 tw_38 tw_821 pd_X7_in ⟨rfl, rfl⟩ (by rw [hRm]; exact ⟨Nat.le_of_ble_eq_true rfl, Nat.le_of_ble_eq_true rfl, Nat.le_of_ble_eq_true rfl, Nat.le_of_ble_eq_true rfl⟩) (Nat.le_of_ble_eq_true rfl) dX7_exempt_16 ?_
    refine g_if_eq hC 32 dX7_exempt_19 (by decide) (fun c_19 => ?_) (fun c_19 => ?_)
    · have e_19 := b10_f c_19
      refine g_iconst (v := nI 2) hC dX7_exempt_32 (by decide) ?_
      refine g_goto hC 50 dX7_exempt_33 (by decide) ?_
      refine gp_X7_103 hC dX7_exempt_50 ?_
      refine g_aload_n hC dX7_exempt_53 rfl 0 rfl ?_
      refine gf_X7_103 hC dX7_exempt_54 ?_
      refine g_eqI (x' := nI 2) (by rw [pk_us]) ?_
      refine g_if_le hC 62 dX7_exempt_57 (by decide) (fun c_57 => ?_) (fun c_57 => ?_)
      · exact absurd c_57 (by decide)
      · refine g_iconst (v := nI 0) hC dX7_exempt_60 (by decide) ?_
        exact g_iret hC hr dX7_exempt_61 (Nat.le_of_ble_eq_true rfl) (Nat.le_of_ble_eq_true rfl) (mQ_x (by have hz : tcExempt ns p0 p1 p2 = 2 := (by simp [tcExempt, e_5, e_19]); exact hz) (by decide))
    · have e_19 := b10_t c_19
      refine g_iload_n hC dX7_exempt_22 rfl 3 rfl ?_
      refine g_iload_n hC dX7_exempt_23 rfl 2 rfl ?_
      refine g_ldc (v := nI 100000) hC tw_830 dX7_exempt_24 ?_
      refine g_cS hC [.int p2, .int p1, .int (nI 100000)] (m_X7_in hl hG V I J p2 p1 (nI 100000)) rfl (st2 := [.int ((if rgB p2 p1 (nI 100000) = true then nI 1 else nI 0)), .ref (G.2.1 7)]) rfl rfl tw_819 tw_820 tw_38 tw_821 pd_X7_in ⟨rfl, rfl⟩ (by rw [hRm]; exact ⟨Nat.le_of_ble_eq_true rfl, Nat.le_of_ble_eq_true rfl, Nat.le_of_ble_eq_true rfl, Nat.le_of_ble_eq_true rfl⟩) (Nat.le_of_ble_eq_true rfl) dX7_exempt_26 ?_
      refine g_if_ne hC 36 dX7_exempt_29 (by decide) (fun c_29 => ?_) (fun c_29 => ?_)
      · have e_29 := b10_t c_29
        refine g_aload_n hC dX7_exempt_36 rfl 0 rfl ?_
        refine gf_X7_138 hC dX7_exempt_37 ?_
        refine g_eqI (x' := nI ns) (by rw [v12]) ?_
        refine g_bipush (v := nI 20) hC dX7_exempt_40 (by decide) ?_
        refine g_icmp_ne hC 49 dX7_exempt_42 (by decide) (fun c_42 => ?_) (fun c_42 => ?_)
        · have d_42 : ¬ ns = 20 := fun q => c_42 ((nI_eq (by omega) (by omega)).mpr q)
          refine g_iconst (v := nI 0) hC dX7_exempt_49 (by decide) ?_
          refine gp_X7_103 hC dX7_exempt_50 ?_
          refine g_aload_n hC dX7_exempt_53 rfl 0 rfl ?_
          refine gf_X7_103 hC dX7_exempt_54 ?_
          refine g_eqI (x' := nI 0) (by rw [pk_us]) ?_
          refine g_if_le hC 62 dX7_exempt_57 (by decide) (fun c_57 => ?_) (fun c_57 => ?_)
          · have hz : tcExempt ns p0 p1 p2 = 0 := by simp [tcExempt, e_5, e_19, e_29, d_42]
            refine g_aload_n hC dX7_exempt_62 rfl 0 rfl ?_
            refine gf_X7_54 hC dX7_exempt_63 ?_
            refine g_aload_n hC dX7_exempt_66 rfl 0 rfl ?_
            refine gf_X7_138 hC dX7_exempt_67 ?_
            refine g_eqI (x' := nI ns) (by rw [pk_un (by decide), v12]) ?_
            refine g_iload_n hC dX7_exempt_70 rfl 1 rfl ?_
            refine n_iast hC 64 aa_64 ns (show ns < 20 by omega) dX7_exempt_71 ?_
            refine g_aload_n hC dX7_exempt_72 rfl 0 rfl ?_
            refine gf_X7_57 hC dX7_exempt_73 ?_
            refine g_aload_n hC dX7_exempt_76 rfl 0 rfl ?_
            refine gf_X7_138 hC dX7_exempt_77 ?_
            refine g_eqI (x' := nI ns) (by rw [pk_un (by decide), v12]) ?_
            refine g_iload_n hC dX7_exempt_80 rfl 2 rfl ?_
            refine n_iast hC 65 aa_65 ns (show ns < 20 by omega) dX7_exempt_81 ?_
            refine g_aload_n hC dX7_exempt_82 rfl 0 rfl ?_
            refine gf_X7_60 hC dX7_exempt_83 ?_
            refine g_aload_n hC dX7_exempt_86 rfl 0 rfl ?_
            refine gf_X7_138 hC dX7_exempt_87 ?_
            refine g_eqI (x' := nI ns) (by rw [pk_un (by decide), v12]) ?_
            refine g_iload_n hC dX7_exempt_90 rfl 3 rfl ?_
            refine n_iast hC 66 aa_66 ns (show ns < 20 by omega) dX7_exempt_91 ?_
            refine g_aload_n hC dX7_exempt_92 rfl 0 rfl ?_
            refine g_dup hC dX7_exempt_93 rfl ?_
            refine gf_X7_138 hC dX7_exempt_94 ?_
            refine g_eqI (x' := nI ns) (by rw [pk_un (by decide), v12]) ?_
            refine g_iconst (v := nI 1) hC dX7_exempt_97 (by decide) ?_
            refine g_iadd hC dX7_exempt_98 ?_
            refine g_eqI (x' := nI (ns + 1)) (nI_add _ _) ?_
            refine gp_X7_138 hC dX7_exempt_99 ?_
            refine g_aload_n hC dX7_exempt_102 rfl 0 rfl ?_
            refine gf_X7_138 hC dX7_exempt_103 ?_
            refine g_eqI (x' := nI (ns + 1)) (by rw [pk_us]) ?_
            exact g_iret hC hr dX7_exempt_106 (Nat.le_of_ble_eq_true rfl) (Nat.le_of_ble_eq_true rfl) (Or.inl ⟨hz, rfl, rfl, by omega, rfl, rfl⟩)
          · exact absurd c_57 (by decide)
        · have d_42 : ns = 20 := (nI_eq (by omega) (by omega)).mp c_42
          refine g_iconst (v := nI 3) hC dX7_exempt_45 (by decide) ?_
          refine g_goto hC 50 dX7_exempt_46 (by decide) ?_
          refine gp_X7_103 hC dX7_exempt_50 ?_
          refine g_aload_n hC dX7_exempt_53 rfl 0 rfl ?_
          refine gf_X7_103 hC dX7_exempt_54 ?_
          refine g_eqI (x' := nI 3) (by rw [pk_us]) ?_
          refine g_if_le hC 62 dX7_exempt_57 (by decide) (fun c_57 => ?_) (fun c_57 => ?_)
          · exact absurd c_57 (by decide)
          · refine g_iconst (v := nI 0) hC dX7_exempt_60 (by decide) ?_
            exact g_iret hC hr dX7_exempt_61 (Nat.le_of_ble_eq_true rfl) (Nat.le_of_ble_eq_true rfl) (mQ_x (by have hz : tcExempt ns p0 p1 p2 = 3 := (by simp [tcExempt, e_5, e_19, e_29, d_42]); exact hz) (by decide))
      · have e_29 := b10_f c_29
        refine g_iconst (v := nI 2) hC dX7_exempt_32 (by decide) ?_
        refine g_goto hC 50 dX7_exempt_33 (by decide) ?_
        refine gp_X7_103 hC dX7_exempt_50 ?_
        refine g_aload_n hC dX7_exempt_53 rfl 0 rfl ?_
        refine gf_X7_103 hC dX7_exempt_54 ?_
        refine g_eqI (x' := nI 2) (by rw [pk_us]) ?_
        refine g_if_le hC 62 dX7_exempt_57 (by decide) (fun c_57 => ?_) (fun c_57 => ?_)
        · exact absurd c_57 (by decide)
        · refine g_iconst (v := nI 0) hC dX7_exempt_60 (by decide) ?_
          exact g_iret hC hr dX7_exempt_61 (Nat.le_of_ble_eq_true rfl) (Nat.le_of_ble_eq_true rfl) (mQ_x (by have hz : tcExempt ns p0 p1 p2 = 2 := (by simp [tcExempt, e_5, e_19, e_29]); exact hz) (by decide))
  · have e_5 := b10_f c_5
    refine g_iconst (v := nI 1) hC dX7_exempt_8 (by decide) ?_
    refine g_goto hC 50 dX7_exempt_9 (by decide) ?_
    refine gp_X7_103 hC dX7_exempt_50 ?_
    refine g_aload_n hC dX7_exempt_53 rfl 0 rfl ?_
    refine gf_X7_103 hC dX7_exempt_54 ?_
    refine g_eqI (x' := nI 1) (by rw [pk_us]) ?_
    refine g_if_le hC 62 dX7_exempt_57 (by decide) (fun c_57 => ?_) (fun c_57 => ?_)
    · exact absurd c_57 (by decide)
    · refine g_iconst (v := nI 0) hC dX7_exempt_60 (by decide) ?_
      exact g_iret hC hr dX7_exempt_61 (Nat.le_of_ble_eq_true rfl) (Nat.le_of_ble_eq_true rfl) (mQ_x (by have hz : tcExempt ns p0 p1 p2 = 1 := (by simp [tcExempt, e_5]); exact hz) (by decide))

set_option maxRecDepth 100000 in
theorem m_X7_read {l : Launch} {G : wG} (hl : l.stackTraces = false) (hG : wD G) (V : wV) (I : wI) (J : wJ) (ng n : Nat) (p0 p1 p2 : Int32) (v9 : V 9 = nI ng) (v13 : V 13 = nI n) (hg : ng ≤ 12) (hn : n ≤ 100) : Ctr l yX7_read cX7_read 4 (some .int) { frames := 2, cells := 0, slots := 0, locals := 43 } G [.ref (G.2.1 7), .int p0, .int p1, .int p2] V I J (mQ (tcRead ng n (V 8) p0 p1 p2) (some (.int (nI 0))) V I J (fun r V9 I9 J9 => r = some (.int (nI n)) ∧ V9 = upd (upd V 7 (nI 0)) 13 (nI (n + 1)) ∧ n < 100 ∧ J9 = J ∧ I9 = sI (sI (sI (sI I 67 n p0) 68 n p1) 69 n p2) 70 n (nI 0))) (noX) := by
  refine ctr_of hl hG (by decide) (Nat.le_of_ble_eq_true rfl) [(0, .ref (G.2.1 7)), (1, .int p0), (2, .int p1), (3, .int p2)] rfl ?_
  intro K hC hKl hRm hr hT
  subst hKl
  have hC : Cx K G RX7 cX7_read 4 := hC
  refine g_aload_n hC dX7_read_0 rfl 0 rfl ?_
  refine g_aload_n hC dX7_read_1 rfl 0 rfl ?_
  refine g_iload_n hC dX7_read_2 rfl 1 rfl ?_
  refine g_cV hC [.int p0] 7 (m_X7_isGate hl hG V I J ng p0 v9 (by omega)) rfl (st2 := [.int ((if inB p0 ng = true then nI 1 else nI 0)), .ref (G.2.1 7)]) rfl (by decide) rfl rfl rfl tw_815 tw_817 tw_16 tw_38 tw_818 pd_X7_isGate ⟨rfl, rfl⟩ (by rw [hRm]; exact ⟨Nat.le_of_ble_eq_true rfl, Nat.le_of_ble_eq_true rfl, Nat.le_of_ble_eq_true rfl, Nat.le_of_ble_eq_true rfl⟩) (Nat.le_of_ble_eq_true rfl) dX7_read_3 ?_
  refine g_if_eq hC 16 dX7_read_6 (by decide) (fun c_6 => ?_) (fun c_6 => ?_)
  · have e_6 := b10_f c_6
    refine g_iconst (v := nI 1) hC dX7_read_16 (by decide) ?_
    refine g_goto hC 50 dX7_read_17 (by decide) ?_
    refine gp_X7_103 hC dX7_read_50 ?_
    refine g_aload_n hC dX7_read_53 rfl 0 rfl ?_
    refine gf_X7_103 hC dX7_read_54 ?_
    refine g_eqI (x' := nI 1) (by rw [pk_us]) ?_
    refine g_if_le hC 62 dX7_read_57 (by decide) (fun c_57 => ?_) (fun c_57 => ?_)
    · exact absurd c_57 (by decide)
    · refine g_iconst (v := nI 0) hC dX7_read_60 (by decide) ?_
      exact g_iret hC hr dX7_read_61 (Nat.le_of_ble_eq_true rfl) (Nat.le_of_ble_eq_true rfl) (mQ_x (by have hz : tcRead ng n (V 8) p0 p1 p2 = 1 := (by simp [tcRead, e_6]); exact hz) (by decide))
  · have e_6 := b10_t c_6
    refine g_iload_n hC dX7_read_9 rfl 2 rfl ?_
    refine g_cS hC [.int p1] (m_X7_isPlate hl hG V I J p1) rfl (st2 := [.int ((if inB p1 10 = true then nI 1 else nI 0)), .ref (G.2.1 7)]) rfl rfl tw_835 tw_836 tw_38 tw_837 pd_X7_isPlate ⟨rfl, rfl⟩ (by rw [hRm]; exact ⟨Nat.le_of_ble_eq_true rfl, Nat.le_of_ble_eq_true rfl, Nat.le_of_ble_eq_true rfl, Nat.le_of_ble_eq_true rfl⟩) (Nat.le_of_ble_eq_true rfl) dX7_read_10 ?_
    refine g_if_ne hC 20 dX7_read_13 (by decide) (fun c_13 => ?_) (fun c_13 => ?_)
    · have e_13 := b10_t c_13
      refine g_iload_n hC dX7_read_20 rfl 3 rfl ?_
      refine g_iconst (v := nI 0) hC dX7_read_21 (by decide) ?_
      refine g_aload_n hC dX7_read_22 rfl 0 rfl ?_
      refine gf_X7_141 hC dX7_read_23 ?_
      refine g_cS hC [.int p2, .int (nI 0), .int (V 8)] (m_X7_in hl hG V I J p2 (nI 0) (V 8)) rfl (st2 := [.int ((if rgB p2 (nI 0) (V 8) = true then nI 1 else nI 0)), .ref (G.2.1 7)]) rfl rfl tw_819 tw_820 tw_38 tw_821 pd_X7_in ⟨rfl, rfl⟩ (by rw [hRm]; exact ⟨Nat.le_of_ble_eq_true rfl, Nat.le_of_ble_eq_true rfl, Nat.le_of_ble_eq_true rfl, Nat.le_of_ble_eq_true rfl⟩) (Nat.le_of_ble_eq_true rfl) dX7_read_26 ?_
      refine g_if_ne hC 36 dX7_read_29 (by decide) (fun c_29 => ?_) (fun c_29 => ?_)
      · have e_29 := b10_t c_29
        refine g_aload_n hC dX7_read_36 rfl 0 rfl ?_
        refine gf_X7_113 hC dX7_read_37 ?_
        refine g_eqI (x' := nI n) (by rw [v13]) ?_
        refine g_bipush (v := nI 100) hC dX7_read_40 (by decide) ?_
        refine g_icmp_ne hC 49 dX7_read_42 (by decide) (fun c_42 => ?_) (fun c_42 => ?_)
        · have d_42 : ¬ n = 100 := fun q => c_42 ((nI_eq (by omega) (by omega)).mpr q)
          refine g_iconst (v := nI 0) hC dX7_read_49 (by decide) ?_
          refine gp_X7_103 hC dX7_read_50 ?_
          refine g_aload_n hC dX7_read_53 rfl 0 rfl ?_
          refine gf_X7_103 hC dX7_read_54 ?_
          refine g_eqI (x' := nI 0) (by rw [pk_us]) ?_
          refine g_if_le hC 62 dX7_read_57 (by decide) (fun c_57 => ?_) (fun c_57 => ?_)
          · have hz : tcRead ng n (V 8) p0 p1 p2 = 0 := by simp [tcRead, e_6, e_13, e_29, d_42]
            refine g_aload_n hC dX7_read_62 rfl 0 rfl ?_
            refine gf_X7_63 hC dX7_read_63 ?_
            refine g_aload_n hC dX7_read_66 rfl 0 rfl ?_
            refine gf_X7_113 hC dX7_read_67 ?_
            refine g_eqI (x' := nI n) (by rw [pk_un (by decide), v13]) ?_
            refine g_iload_n hC dX7_read_70 rfl 1 rfl ?_
            refine n_iast hC 67 aa_67 n (show n < 100 by omega) dX7_read_71 ?_
            refine g_aload_n hC dX7_read_72 rfl 0 rfl ?_
            refine gf_X7_66 hC dX7_read_73 ?_
            refine g_aload_n hC dX7_read_76 rfl 0 rfl ?_
            refine gf_X7_113 hC dX7_read_77 ?_
            refine g_eqI (x' := nI n) (by rw [pk_un (by decide), v13]) ?_
            refine g_iload_n hC dX7_read_80 rfl 2 rfl ?_
            refine n_iast hC 68 aa_68 n (show n < 100 by omega) dX7_read_81 ?_
            refine g_aload_n hC dX7_read_82 rfl 0 rfl ?_
            refine gf_X7_69 hC dX7_read_83 ?_
            refine g_aload_n hC dX7_read_86 rfl 0 rfl ?_
            refine gf_X7_113 hC dX7_read_87 ?_
            refine g_eqI (x' := nI n) (by rw [pk_un (by decide), v13]) ?_
            refine g_iload_n hC dX7_read_90 rfl 3 rfl ?_
            refine n_iast hC 69 aa_69 n (show n < 100 by omega) dX7_read_91 ?_
            refine g_aload_n hC dX7_read_92 rfl 0 rfl ?_
            refine gf_X7_72 hC dX7_read_93 ?_
            refine g_aload_n hC dX7_read_96 rfl 0 rfl ?_
            refine gf_X7_113 hC dX7_read_97 ?_
            refine g_eqI (x' := nI n) (by rw [pk_un (by decide), v13]) ?_
            refine g_iconst (v := nI 0) hC dX7_read_100 (by decide) ?_
            refine n_zast hC 70 aa_70 n (show n < 100 by omega) rfl dX7_read_101 ?_
            refine g_aload_n hC dX7_read_102 rfl 0 rfl ?_
            refine g_dup hC dX7_read_103 rfl ?_
            refine gf_X7_113 hC dX7_read_104 ?_
            refine g_eqI (x' := nI n) (by rw [pk_un (by decide), v13]) ?_
            refine g_iconst (v := nI 1) hC dX7_read_107 (by decide) ?_
            refine g_iadd hC dX7_read_108 ?_
            refine g_eqI (x' := nI (n + 1)) (nI_add _ _) ?_
            refine gp_X7_113 hC dX7_read_109 ?_
            refine g_aload_n hC dX7_read_112 rfl 0 rfl ?_
            refine gf_X7_113 hC dX7_read_113 ?_
            refine g_eqI (x' := nI (n + 1)) (by rw [pk_us]) ?_
            refine g_iconst (v := nI 1) hC dX7_read_116 (by decide) ?_
            refine g_isub hC dX7_read_117 ?_
            refine g_eqI (x' := nI n) (nI_s1 rfl) ?_
            exact g_iret hC hr dX7_read_118 (Nat.le_of_ble_eq_true rfl) (Nat.le_of_ble_eq_true rfl) (Or.inl ⟨hz, rfl, rfl, by omega, rfl, rfl⟩)
          · exact absurd c_57 (by decide)
        · have d_42 : n = 100 := (nI_eq (by omega) (by omega)).mp c_42
          refine g_iconst (v := nI 3) hC dX7_read_45 (by decide) ?_
          refine g_goto hC 50 dX7_read_46 (by decide) ?_
          refine gp_X7_103 hC dX7_read_50 ?_
          refine g_aload_n hC dX7_read_53 rfl 0 rfl ?_
          refine gf_X7_103 hC dX7_read_54 ?_
          refine g_eqI (x' := nI 3) (by rw [pk_us]) ?_
          refine g_if_le hC 62 dX7_read_57 (by decide) (fun c_57 => ?_) (fun c_57 => ?_)
          · exact absurd c_57 (by decide)
          · refine g_iconst (v := nI 0) hC dX7_read_60 (by decide) ?_
            exact g_iret hC hr dX7_read_61 (Nat.le_of_ble_eq_true rfl) (Nat.le_of_ble_eq_true rfl) (mQ_x (by have hz : tcRead ng n (V 8) p0 p1 p2 = 3 := (by simp [tcRead, e_6, e_13, e_29, d_42]); exact hz) (by decide))
      · have e_29 := b10_f c_29
        refine g_iconst (v := nI 2) hC dX7_read_32 (by decide) ?_
        refine g_goto hC 50 dX7_read_33 (by decide) ?_
        refine gp_X7_103 hC dX7_read_50 ?_
        refine g_aload_n hC dX7_read_53 rfl 0 rfl ?_
        refine gf_X7_103 hC dX7_read_54 ?_
        refine g_eqI (x' := nI 2) (by rw [pk_us]) ?_
        refine g_if_le hC 62 dX7_read_57 (by decide) (fun c_57 => ?_) (fun c_57 => ?_)
        · exact absurd c_57 (by decide)
        · refine g_iconst (v := nI 0) hC dX7_read_60 (by decide) ?_
          exact g_iret hC hr dX7_read_61 (Nat.le_of_ble_eq_true rfl) (Nat.le_of_ble_eq_true rfl) (mQ_x (by have hz : tcRead ng n (V 8) p0 p1 p2 = 2 := (by simp [tcRead, e_6, e_13, e_29]); exact hz) (by decide))
    · have e_13 := b10_f c_13
      refine g_iconst (v := nI 1) hC dX7_read_16 (by decide) ?_
      refine g_goto hC 50 dX7_read_17 (by decide) ?_
      refine gp_X7_103 hC dX7_read_50 ?_
      refine g_aload_n hC dX7_read_53 rfl 0 rfl ?_
      refine gf_X7_103 hC dX7_read_54 ?_
      refine g_eqI (x' := nI 1) (by rw [pk_us]) ?_
      refine g_if_le hC 62 dX7_read_57 (by decide) (fun c_57 => ?_) (fun c_57 => ?_)
      · exact absurd c_57 (by decide)
      · refine g_iconst (v := nI 0) hC dX7_read_60 (by decide) ?_
        exact g_iret hC hr dX7_read_61 (Nat.le_of_ble_eq_true rfl) (Nat.le_of_ble_eq_true rfl) (mQ_x (by have hz : tcRead ng n (V 8) p0 p1 p2 = 1 := (by simp [tcRead, e_6, e_13]); exact hz) (by decide))

set_option maxRecDepth 100000 in
theorem m_X7_strike {l : Launch} {G : wG} (hl : l.stackTraces = false) (hG : wD G) (V : wV) (I : wI) (J : wJ) (n : Nat) (p0 : Int32) (v13 : V 13 = nI n) (hn : n ≤ 100) : Ctr l yX7_strike cX7_strike 2 none { frames := 2, cells := 0, slots := 0, locals := 43 } G [.ref (G.2.1 7), .int p0] V I J (mQ ((if inB p0 n = true then (if I 70 (tn p0) = 0 then 0 else 2) else 1)) none V I J (fun r V9 I9 J9 => r = none ∧ V9 = upd V 7 (nI 0) ∧ J9 = J ∧ ∃ q, q < n ∧ p0 = nI q ∧ I9 = sI I 70 q (nI 1))) (noX) := by
  refine ctr_of hl hG (by decide) (Nat.le_of_ble_eq_true rfl) [(0, .ref (G.2.1 7)), (1, .int p0)] rfl ?_
  intro K hC hKl hRm hr hT
  subst hKl
  have hC : Cx K G RX7 cX7_strike 2 := hC
  refine g_aload_n hC dX7_strike_0 rfl 0 rfl ?_
  refine g_aload_n hC dX7_strike_1 rfl 0 rfl ?_
  refine g_iload_n hC dX7_strike_2 rfl 1 rfl ?_
  refine g_cV hC [.int p0] 7 (m_X7_isReading hl hG V I J n p0 v13 (by omega)) rfl (st2 := [.int ((if inB p0 n = true then nI 1 else nI 0)), .ref (G.2.1 7)]) rfl (by decide) rfl rfl rfl tw_857 tw_859 tw_17 tw_38 tw_860 pd_X7_isReading ⟨rfl, rfl⟩ (by rw [hRm]; exact ⟨Nat.le_of_ble_eq_true rfl, Nat.le_of_ble_eq_true rfl, Nat.le_of_ble_eq_true rfl, Nat.le_of_ble_eq_true rfl⟩) (Nat.le_of_ble_eq_true rfl) dX7_strike_3 ?_
  refine g_if_ne hC 13 dX7_strike_6 (by decide) (fun c_6 => ?_) (fun c_6 => ?_)
  · have e_6 := b10_t c_6
    obtain ⟨q, hq, eq9⟩ := inB_nI e_6 (by omega)
    have hcl : tn p0 = q := by rw [eq9]; exact nI_clamp (by omega)
    subst eq9
    refine g_aload_n hC dX7_strike_13 rfl 0 rfl ?_
    refine gf_X7_72 hC dX7_strike_14 ?_
    refine g_iload_n hC dX7_strike_17 rfl 1 rfl ?_
    refine n_zald hC 70 aa_70 q (show q < 100 by omega) dX7_strike_18 ?_
    refine g_if_eq hC 26 dX7_strike_19 (by decide) (fun c_19 => ?_) (fun c_19 => ?_)
    · refine g_iconst (v := nI 0) hC dX7_strike_26 (by decide) ?_
      refine gp_X7_103 hC dX7_strike_27 ?_
      refine g_aload_n hC dX7_strike_30 rfl 0 rfl ?_
      refine gf_X7_103 hC dX7_strike_31 ?_
      refine g_eqI (x' := nI 0) (by rw [pk_us]) ?_
      refine g_if_ne hC 44 dX7_strike_34 (by decide) (fun c_34 => ?_) (fun c_34 => ?_)
      · exact absurd c_34 (by decide)
      · have hz : (if inB (nI q) n = true then (if I 70 (tn (nI q)) = 0 then 0 else 2) else 1) = 0 := by simp [hcl, e_6, c_19]
        refine g_aload_n hC dX7_strike_37 rfl 0 rfl ?_
        refine gf_X7_72 hC dX7_strike_38 ?_
        refine g_iload_n hC dX7_strike_41 rfl 1 rfl ?_
        refine g_iconst (v := nI 1) hC dX7_strike_42 (by decide) ?_
        refine n_zast hC 70 aa_70 q (show q < 100 by omega) rfl dX7_strike_43 ?_
        exact g_vret hC hr dX7_strike_44 (Nat.le_of_ble_eq_true rfl) (Nat.le_of_ble_eq_true rfl) (Or.inl ⟨hz, rfl, rfl, rfl, q, by omega, rfl, rfl⟩)
    · refine g_iconst (v := nI 2) hC dX7_strike_22 (by decide) ?_
      refine g_goto hC 27 dX7_strike_23 (by decide) ?_
      refine gp_X7_103 hC dX7_strike_27 ?_
      refine g_aload_n hC dX7_strike_30 rfl 0 rfl ?_
      refine gf_X7_103 hC dX7_strike_31 ?_
      refine g_eqI (x' := nI 2) (by rw [pk_us]) ?_
      refine g_if_ne hC 44 dX7_strike_34 (by decide) (fun c_34 => ?_) (fun c_34 => ?_)
      · exact g_vret hC hr dX7_strike_44 (Nat.le_of_ble_eq_true rfl) (Nat.le_of_ble_eq_true rfl) (mQ_x (by have hz : (if inB (nI q) n = true then (if I 70 (tn (nI q)) = 0 then 0 else 2) else 1) = 2 := (by simp [hcl, e_6, c_19]); exact hz) (by decide))
      · exact absurd c_34 (by decide)
  · have e_6 := b10_f c_6
    refine g_iconst (v := nI 1) hC dX7_strike_9 (by decide) ?_
    refine g_goto hC 27 dX7_strike_10 (by decide) ?_
    refine gp_X7_103 hC dX7_strike_27 ?_
    refine g_aload_n hC dX7_strike_30 rfl 0 rfl ?_
    refine gf_X7_103 hC dX7_strike_31 ?_
    refine g_eqI (x' := nI 1) (by rw [pk_us]) ?_
    refine g_if_ne hC 44 dX7_strike_34 (by decide) (fun c_34 => ?_) (fun c_34 => ?_)
    · exact g_vret hC hr dX7_strike_44 (Nat.le_of_ble_eq_true rfl) (Nat.le_of_ble_eq_true rfl) (mQ_x (by have hz : (if inB p0 n = true then (if I 70 (tn p0) = 0 then 0 else 2) else 1) = 1 := (by simp [nI_0, e_6]); exact hz) (by decide))
    · exact absurd c_34 (by decide)

set_option maxRecDepth 100000 in
theorem m_X7_pass {l : Launch} {G : wG} (hl : l.stackTraces = false) (hG : wD G) (V : wV) (I : wI) (J : wJ) (p0 : Int32) : Ctr l yX7_pass cX7_pass 2 (some .int) { frames := 2, cells := 0, slots := 0, locals := 43 } G [.ref (G.2.1 7), .int p0] V I J (mQ (tcPass (V 8) p0) (some (.int (nI 0))) V I J (fun r V9 I9 J9 => r = some (.int (V 8 + p0)) ∧ V9 = upd (upd V 7 (nI 0)) 8 (V 8 + p0) ∧ I9 = I ∧ J9 = J)) (noX) := by
  refine ctr_of hl hG (by decide) (Nat.le_of_ble_eq_true rfl) [(0, .ref (G.2.1 7)), (1, .int p0)] rfl ?_
  intro K hC hKl hRm hr hT
  subst hKl
  have hC : Cx K G RX7 cX7_pass 2 := hC
  refine g_aload_n hC dX7_pass_0 rfl 0 rfl ?_
  refine g_iload_n hC dX7_pass_1 rfl 1 rfl ?_
  refine g_iconst (v := nI 1) hC dX7_pass_2 (by decide) ?_
  refine g_sipush (v := nI 1440) hC dX7_pass_3 (by decide) ?_
  refine g_cS hC [.int p0, .int (nI 1), .int (nI 1440)] (m_X7_in hl hG V I J p0 (nI 1) (nI 1440)) rfl (st2 := [.int ((if rgB p0 (nI 1) (nI 1440) = true then nI 1 else nI 0)), .ref (G.2.1 7)]) rfl rfl tw_819 tw_820 tw_38 tw_821 pd_X7_in ⟨rfl, rfl⟩ (by rw [hRm]; exact ⟨Nat.le_of_ble_eq_true rfl, Nat.le_of_ble_eq_true rfl, Nat.le_of_ble_eq_true rfl, Nat.le_of_ble_eq_true rfl⟩) (Nat.le_of_ble_eq_true rfl) dX7_pass_6 ?_
  refine g_if_ne hC 16 dX7_pass_9 (by decide) (fun c_9 => ?_) (fun c_9 => ?_)
  · have e_9 := b10_t c_9
    refine g_aload_n hC dX7_pass_16 rfl 0 rfl ?_
    refine gf_X7_141 hC dX7_pass_17 ?_
    refine g_iload_n hC dX7_pass_20 rfl 1 rfl ?_
    refine g_iadd hC dX7_pass_21 ?_
    refine g_ldc (v := nI 100000) hC tw_830 dX7_pass_22 ?_
    refine g_icmp_le hC 31 dX7_pass_24 (by decide) (fun c_24 => ?_) (fun c_24 => ?_)
    · refine g_iconst (v := nI 0) hC dX7_pass_31 (by decide) ?_
      refine gp_X7_103 hC dX7_pass_32 ?_
      refine g_aload_n hC dX7_pass_35 rfl 0 rfl ?_
      refine gf_X7_103 hC dX7_pass_36 ?_
      refine g_eqI (x' := nI 0) (by rw [pk_us]) ?_
      refine g_if_le hC 44 dX7_pass_39 (by decide) (fun c_39 => ?_) (fun c_39 => ?_)
      · have hz : tcPass (V 8) p0 = 0 := by simp [tcPass, e_9, c_24]
        refine g_aload_n hC dX7_pass_44 rfl 0 rfl ?_
        refine g_dup hC dX7_pass_45 rfl ?_
        refine gf_X7_141 hC dX7_pass_46 ?_
        refine g_eqI (x' := V 8) (by rw [pk_un (by decide)]) ?_
        refine g_iload_n hC dX7_pass_49 rfl 1 rfl ?_
        refine g_iadd hC dX7_pass_50 ?_
        refine gp_X7_141 hC dX7_pass_51 ?_
        refine g_aload_n hC dX7_pass_54 rfl 0 rfl ?_
        refine gf_X7_141 hC dX7_pass_55 ?_
        refine g_eqI (x' := (V 8) + (p0)) (by rw [pk_us]) ?_
        exact g_iret hC hr dX7_pass_58 (Nat.le_of_ble_eq_true rfl) (Nat.le_of_ble_eq_true rfl) (Or.inl ⟨hz, rfl, rfl, rfl, rfl⟩)
      · exact absurd c_39 (by decide)
    · refine g_iconst (v := nI 2) hC dX7_pass_27 (by decide) ?_
      refine g_goto hC 32 dX7_pass_28 (by decide) ?_
      refine gp_X7_103 hC dX7_pass_32 ?_
      refine g_aload_n hC dX7_pass_35 rfl 0 rfl ?_
      refine gf_X7_103 hC dX7_pass_36 ?_
      refine g_eqI (x' := nI 2) (by rw [pk_us]) ?_
      refine g_if_le hC 44 dX7_pass_39 (by decide) (fun c_39 => ?_) (fun c_39 => ?_)
      · exact absurd c_39 (by decide)
      · refine g_iconst (v := nI 0) hC dX7_pass_42 (by decide) ?_
        exact g_iret hC hr dX7_pass_43 (Nat.le_of_ble_eq_true rfl) (Nat.le_of_ble_eq_true rfl) (mQ_x (by have hz : tcPass (V 8) p0 = 2 := (by simp [tcPass, e_9, c_24]); exact hz) (by decide))
  · have e_9 := b10_f c_9
    refine g_iconst (v := nI 1) hC dX7_pass_12 (by decide) ?_
    refine g_goto hC 32 dX7_pass_13 (by decide) ?_
    refine gp_X7_103 hC dX7_pass_32 ?_
    refine g_aload_n hC dX7_pass_35 rfl 0 rfl ?_
    refine gf_X7_103 hC dX7_pass_36 ?_
    refine g_eqI (x' := nI 1) (by rw [pk_us]) ?_
    refine g_if_le hC 44 dX7_pass_39 (by decide) (fun c_39 => ?_) (fun c_39 => ?_)
    · exact absurd c_39 (by decide)
    · refine g_iconst (v := nI 0) hC dX7_pass_42 (by decide) ?_
      exact g_iret hC hr dX7_pass_43 (Nat.le_of_ble_eq_true rfl) (Nat.le_of_ble_eq_true rfl) (mQ_x (by have hz : tcPass (V 8) p0 = 1 := (by simp [tcPass, e_9]); exact hz) (by decide))

set_option maxRecDepth 100000 in
theorem m_X7_distance {l : Launch} {G : wG} (hl : l.stackTraces = false) (hG : wD G) (V : wV) (I : wI) (J : wJ) (ng : Nat) (p0 p1 : Int32) (v9 : V 9 = nI ng) (hg : ng ≤ 12) (hmF : 0 < ng → mF I) : Ctr l yX7_distance cX7_distance 3 (some .int) { frames := 2, cells := 0, slots := 0, locals := 43 } G [.ref (G.2.1 7), .int p0, .int p1] V I J (mQ (tcDist ng p0 p1) (some (.int (nI 0))) V I J (fun r V9 I9 J9 => V9 = upd V 7 (nI 0) ∧ I9 = I ∧ J9 = J ∧ ∃ a b, a < ng ∧ b < ng ∧ p0 = nI a ∧ p1 = nI b ∧ r = some (.int (if I (35 + a) b < nI 1000000 then I (35 + a) b else -1)))) (noX) := by
  refine ctr_of hl hG (by decide) (Nat.le_of_ble_eq_true rfl) [(0, .ref (G.2.1 7)), (1, .int p0), (2, .int p1)] rfl ?_
  intro K hC hKl hRm hr hT
  subst hKl
  have hC : Cx K G RX7 cX7_distance 3 := hC
  refine g_aload_n hC dX7_distance_0 rfl 0 rfl ?_
  refine g_aload_n hC dX7_distance_1 rfl 0 rfl ?_
  refine g_iload_n hC dX7_distance_2 rfl 1 rfl ?_
  refine g_cV hC [.int p0] 7 (m_X7_isGate hl hG V I J ng p0 v9 (by omega)) rfl (st2 := [.int ((if inB p0 ng = true then nI 1 else nI 0)), .ref (G.2.1 7)]) rfl (by decide) rfl rfl rfl tw_815 tw_817 tw_16 tw_38 tw_818 pd_X7_isGate ⟨rfl, rfl⟩ (by rw [hRm]; exact ⟨Nat.le_of_ble_eq_true rfl, Nat.le_of_ble_eq_true rfl, Nat.le_of_ble_eq_true rfl, Nat.le_of_ble_eq_true rfl⟩) (Nat.le_of_ble_eq_true rfl) dX7_distance_3 ?_
  refine g_if_eq hC 21 dX7_distance_6 (by decide) (fun c_6 => ?_) (fun c_6 => ?_)
  · have e_6 := b10_f c_6
    refine g_iconst (v := nI 1) hC dX7_distance_21 (by decide) ?_
    refine gp_X7_103 hC dX7_distance_22 ?_
    refine g_aload_n hC dX7_distance_25 rfl 0 rfl ?_
    refine gf_X7_103 hC dX7_distance_26 ?_
    refine g_eqI (x' := nI 1) (by rw [pk_us]) ?_
    refine g_if_le hC 34 dX7_distance_29 (by decide) (fun c_29 => ?_) (fun c_29 => ?_)
    · exact absurd c_29 (by decide)
    · refine g_iconst (v := nI 0) hC dX7_distance_32 (by decide) ?_
      exact g_iret hC hr dX7_distance_33 (Nat.le_of_ble_eq_true rfl) (Nat.le_of_ble_eq_true rfl) (mQ_x (by have hz : tcDist ng p0 p1 = 1 := (by simp [tcDist, e_6]); exact hz) (by decide))
  · have e_6 := b10_t c_6
    refine g_aload_n hC dX7_distance_9 rfl 0 rfl ?_
    refine g_iload_n hC dX7_distance_10 rfl 2 rfl ?_
    refine g_cV hC [.int p1] 7 (m_X7_isGate hl hG V I J ng p1 v9 (by omega)) rfl (st2 := [.int ((if inB p1 ng = true then nI 1 else nI 0)), .ref (G.2.1 7)]) rfl (by decide) rfl rfl rfl tw_815 tw_817 tw_16 tw_38 tw_818 pd_X7_isGate ⟨rfl, rfl⟩ (by rw [hRm]; exact ⟨Nat.le_of_ble_eq_true rfl, Nat.le_of_ble_eq_true rfl, Nat.le_of_ble_eq_true rfl, Nat.le_of_ble_eq_true rfl⟩) (Nat.le_of_ble_eq_true rfl) dX7_distance_11 ?_
    refine g_if_eq hC 21 dX7_distance_14 (by decide) (fun c_14 => ?_) (fun c_14 => ?_)
    · have e_14 := b10_f c_14
      refine g_iconst (v := nI 1) hC dX7_distance_21 (by decide) ?_
      refine gp_X7_103 hC dX7_distance_22 ?_
      refine g_aload_n hC dX7_distance_25 rfl 0 rfl ?_
      refine gf_X7_103 hC dX7_distance_26 ?_
      refine g_eqI (x' := nI 1) (by rw [pk_us]) ?_
      refine g_if_le hC 34 dX7_distance_29 (by decide) (fun c_29 => ?_) (fun c_29 => ?_)
      · exact absurd c_29 (by decide)
      · refine g_iconst (v := nI 0) hC dX7_distance_32 (by decide) ?_
        exact g_iret hC hr dX7_distance_33 (Nat.le_of_ble_eq_true rfl) (Nat.le_of_ble_eq_true rfl) (mQ_x (by have hz : tcDist ng p0 p1 = 1 := (by simp [tcDist, e_6, e_14]); exact hz) (by decide))
    · have e_14 := b10_t c_14
      refine g_iconst (v := nI 0) hC dX7_distance_17 (by decide) ?_
      refine g_goto hC 22 dX7_distance_18 (by decide) ?_
      refine gp_X7_103 hC dX7_distance_22 ?_
      refine g_aload_n hC dX7_distance_25 rfl 0 rfl ?_
      refine gf_X7_103 hC dX7_distance_26 ?_
      refine g_eqI (x' := nI 0) (by rw [pk_us]) ?_
      refine g_if_le hC 34 dX7_distance_29 (by decide) (fun c_29 => ?_) (fun c_29 => ?_)
      · have hz : tcDist ng p0 p1 = 0 := by simp [tcDist, e_6, e_14]
        obtain ⟨a, ha, ea⟩ := inB_nI e_6 (by omega)
        obtain ⟨b, hb, eb⟩ := inB_nI e_14 (by omega)
        subst ea eb
        refine g_aload_n hC dX7_distance_34 rfl 0 rfl ?_
        refine g_iload_n hC dX7_distance_35 rfl 1 rfl ?_
        refine g_iload_n hC dX7_distance_36 rfl 2 rfl ?_
        refine g_cV hC [.int (nI a), .int (nI b)] 7 (m_X7_away hl hG (upd V 7 (nI 0)) I J a b (by omega) (by omega)) rfl (st2 := [.int (I 55 (12 * a + b))]) rfl (by decide) rfl rfl rfl tw_881 tw_883 tw_21 tw_38 tw_884 pd_X7_away ⟨rfl, rfl⟩ (by rw [hRm]; exact ⟨Nat.le_of_ble_eq_true rfl, Nat.le_of_ble_eq_true rfl, Nat.le_of_ble_eq_true rfl, Nat.le_of_ble_eq_true rfl⟩) (Nat.le_of_ble_eq_true rfl) dX7_distance_37 ?_
        refine g_eqI (x' := I (35 + a) b) (hmF (by omega) _ _ (by omega) (by omega)) ?_
        refine g_ldc (v := nI 1000000) hC tw_810 dX7_distance_40 ?_
        refine g_icmp_ge hC 54 dX7_distance_42 (by decide) (fun c_42 => ?_) (fun c_42 => ?_)
        · refine g_iconst (v := (-1)) hC dX7_distance_54 (by decide) ?_
          exact g_iret hC hr dX7_distance_55 (Nat.le_of_ble_eq_true rfl) (Nat.le_of_ble_eq_true rfl) (Or.inl ⟨hz, rfl, rfl, rfl, a, b, ha, hb, rfl, rfl, by first | rw [if_pos c_42] | rw [if_neg c_42] | rw [if_pos (Int32.not_le.mp c_42)] | rw [if_neg (Int32.not_lt.mpr c_42)]⟩)
        · refine g_aload_n hC dX7_distance_45 rfl 0 rfl ?_
          refine g_iload_n hC dX7_distance_46 rfl 1 rfl ?_
          refine g_iload_n hC dX7_distance_47 rfl 2 rfl ?_
          refine g_cV hC [.int (nI a), .int (nI b)] 7 (m_X7_away hl hG (upd V 7 (nI 0)) I J a b (by omega) (by omega)) rfl (st2 := [.int (I 55 (12 * a + b))]) rfl (by decide) rfl rfl rfl tw_881 tw_883 tw_21 tw_38 tw_884 pd_X7_away ⟨rfl, rfl⟩ (by rw [hRm]; exact ⟨Nat.le_of_ble_eq_true rfl, Nat.le_of_ble_eq_true rfl, Nat.le_of_ble_eq_true rfl, Nat.le_of_ble_eq_true rfl⟩) (Nat.le_of_ble_eq_true rfl) dX7_distance_48 ?_
          refine g_eqI (x' := I (35 + a) b) (hmF (by omega) _ _ (by omega) (by omega)) ?_
          refine g_goto hC 55 dX7_distance_51 (by decide) ?_
          exact g_iret hC hr dX7_distance_55 (Nat.le_of_ble_eq_true rfl) (Nat.le_of_ble_eq_true rfl) (Or.inl ⟨hz, rfl, rfl, rfl, a, b, ha, hb, rfl, rfl, by first | rw [if_pos c_42] | rw [if_neg c_42] | rw [if_pos (Int32.not_le.mp c_42)] | rw [if_neg (Int32.not_lt.mpr c_42)]⟩)
      · exact absurd c_29 (by decide)

set_option maxRecDepth 100000 in
theorem m_X7_billed {l : Launch} {G : wG} (hl : l.stackTraces = false) (hG : wD G) (V : wV) (I : wI) (J : wJ) (p0 : Int32) : Ctr l yX7_billed cX7_billed 2 (some .long) { frames := 2, cells := 0, slots := 0, locals := 43 } G [.ref (G.2.1 7), .int p0] V I J (mQ (tcIn p0 10) (some (.long 0)) V I J (fun r V9 I9 J9 => V9 = upd V 7 (nI 0) ∧ I9 = I ∧ J9 = J ∧ ∃ p, p < 10 ∧ p0 = nI p ∧ r = some (.long (J 60 p)))) (noX) := by
  refine ctr_of hl hG (by decide) (Nat.le_of_ble_eq_true rfl) [(0, .ref (G.2.1 7)), (1, .int p0)] rfl ?_
  intro K hC hKl hRm hr hT
  subst hKl
  have hC : Cx K G RX7 cX7_billed 2 := hC
  refine g_aload_n hC dX7_billed_0 rfl 0 rfl ?_
  refine g_iload_n hC dX7_billed_1 rfl 1 rfl ?_
  refine g_cS hC [.int p0] (m_X7_isPlate hl hG V I J p0) rfl (st2 := [.int ((if inB p0 10 = true then nI 1 else nI 0)), .ref (G.2.1 7)]) rfl rfl tw_835 tw_836 tw_38 tw_837 pd_X7_isPlate ⟨rfl, rfl⟩ (by rw [hRm]; exact ⟨Nat.le_of_ble_eq_true rfl, Nat.le_of_ble_eq_true rfl, Nat.le_of_ble_eq_true rfl, Nat.le_of_ble_eq_true rfl⟩) (Nat.le_of_ble_eq_true rfl) dX7_billed_2 ?_
  refine g_if_eq hC 12 dX7_billed_5 (by decide) (fun c_5 => ?_) (fun c_5 => ?_)
  · have e_5 := b10_f c_5
    refine g_iconst (v := nI 1) hC dX7_billed_12 (by decide) ?_
    refine gp_X7_103 hC dX7_billed_13 ?_
    refine g_aload_n hC dX7_billed_16 rfl 0 rfl ?_
    refine gf_X7_103 hC dX7_billed_17 ?_
    refine g_eqI (x' := nI 1) (by rw [pk_us]) ?_
    refine g_if_le hC 27 dX7_billed_20 (by decide) (fun c_20 => ?_) (fun c_20 => ?_)
    · exact absurd c_20 (by decide)
    · refine g_lconst (v := 0) hC dX7_billed_23 (by decide) ?_
      refine g_goto hC 33 dX7_billed_24 (by decide) ?_
      exact g_lret hC hr dX7_billed_33 (Nat.le_of_ble_eq_true rfl) (Nat.le_of_ble_eq_true rfl) (mQ_x (by have hz : tcIn p0 10 = 1 := (by simp [tcIn, e_5]); exact hz) (by decide))
  · have e_5 := b10_t c_5
    refine g_iconst (v := nI 0) hC dX7_billed_8 (by decide) ?_
    refine g_goto hC 13 dX7_billed_9 (by decide) ?_
    refine gp_X7_103 hC dX7_billed_13 ?_
    refine g_aload_n hC dX7_billed_16 rfl 0 rfl ?_
    refine gf_X7_103 hC dX7_billed_17 ?_
    refine g_eqI (x' := nI 0) (by rw [pk_us]) ?_
    refine g_if_le hC 27 dX7_billed_20 (by decide) (fun c_20 => ?_) (fun c_20 => ?_)
    · have hz : tcIn p0 10 = 0 := by simp [tcIn, e_5]
      obtain ⟨p, hp, ep⟩ := inB_nI e_5 (by omega)
      subst ep
      refine g_aload_n hC dX7_billed_27 rfl 0 rfl ?_
      refine gf_X7_41 hC dX7_billed_28 ?_
      refine g_iload_n hC dX7_billed_31 rfl 1 rfl ?_
      refine n_lald hC 60 aa_60 p (show p < 10 by omega) dX7_billed_32 ?_
      exact g_lret hC hr dX7_billed_33 (Nat.le_of_ble_eq_true rfl) (Nat.le_of_ble_eq_true rfl) (Or.inl ⟨hz, rfl, rfl, rfl, p, hp, rfl, rfl⟩)
    · exact absurd c_20 (by decide)

set_option maxRecDepth 100000 in
theorem m_X7_own {l : Launch} {G : wG} (hl : l.stackTraces = false) (hG : wD G) (V : wV) (I : wI) (J : wJ) (p0 : Int32) : Ctr l yX7_own cX7_own 2 (some .long) { frames := 2, cells := 0, slots := 0, locals := 43 } G [.ref (G.2.1 7), .int p0] V I J (mQ (tcIn p0 10) (some (.long 0)) V I J (fun r V9 I9 J9 => V9 = upd V 7 (nI 0) ∧ I9 = I ∧ J9 = J ∧ ∃ p, p < 10 ∧ p0 = nI p ∧ r = some (.long (J 61 p)))) (noX) := by
  refine ctr_of hl hG (by decide) (Nat.le_of_ble_eq_true rfl) [(0, .ref (G.2.1 7)), (1, .int p0)] rfl ?_
  intro K hC hKl hRm hr hT
  subst hKl
  have hC : Cx K G RX7 cX7_own 2 := hC
  refine g_aload_n hC dX7_own_0 rfl 0 rfl ?_
  refine g_iload_n hC dX7_own_1 rfl 1 rfl ?_
  refine g_cS hC [.int p0] (m_X7_isPlate hl hG V I J p0) rfl (st2 := [.int ((if inB p0 10 = true then nI 1 else nI 0)), .ref (G.2.1 7)]) rfl rfl tw_835 tw_836 tw_38 tw_837 pd_X7_isPlate ⟨rfl, rfl⟩ (by rw [hRm]; exact ⟨Nat.le_of_ble_eq_true rfl, Nat.le_of_ble_eq_true rfl, Nat.le_of_ble_eq_true rfl, Nat.le_of_ble_eq_true rfl⟩) (Nat.le_of_ble_eq_true rfl) dX7_own_2 ?_
  refine g_if_eq hC 12 dX7_own_5 (by decide) (fun c_5 => ?_) (fun c_5 => ?_)
  · have e_5 := b10_f c_5
    refine g_iconst (v := nI 1) hC dX7_own_12 (by decide) ?_
    refine gp_X7_103 hC dX7_own_13 ?_
    refine g_aload_n hC dX7_own_16 rfl 0 rfl ?_
    refine gf_X7_103 hC dX7_own_17 ?_
    refine g_eqI (x' := nI 1) (by rw [pk_us]) ?_
    refine g_if_le hC 27 dX7_own_20 (by decide) (fun c_20 => ?_) (fun c_20 => ?_)
    · exact absurd c_20 (by decide)
    · refine g_lconst (v := 0) hC dX7_own_23 (by decide) ?_
      refine g_goto hC 33 dX7_own_24 (by decide) ?_
      exact g_lret hC hr dX7_own_33 (Nat.le_of_ble_eq_true rfl) (Nat.le_of_ble_eq_true rfl) (mQ_x (by have hz : tcIn p0 10 = 1 := (by simp [tcIn, e_5]); exact hz) (by decide))
  · have e_5 := b10_t c_5
    refine g_iconst (v := nI 0) hC dX7_own_8 (by decide) ?_
    refine g_goto hC 13 dX7_own_9 (by decide) ?_
    refine gp_X7_103 hC dX7_own_13 ?_
    refine g_aload_n hC dX7_own_16 rfl 0 rfl ?_
    refine gf_X7_103 hC dX7_own_17 ?_
    refine g_eqI (x' := nI 0) (by rw [pk_us]) ?_
    refine g_if_le hC 27 dX7_own_20 (by decide) (fun c_20 => ?_) (fun c_20 => ?_)
    · have hz : tcIn p0 10 = 0 := by simp [tcIn, e_5]
      obtain ⟨p, hp, ep⟩ := inB_nI e_5 (by omega)
      subst ep
      refine g_aload_n hC dX7_own_27 rfl 0 rfl ?_
      refine gf_X7_45 hC dX7_own_28 ?_
      refine g_iload_n hC dX7_own_31 rfl 1 rfl ?_
      refine n_lald hC 61 aa_61 p (show p < 10 by omega) dX7_own_32 ?_
      exact g_lret hC hr dX7_own_33 (Nat.le_of_ble_eq_true rfl) (Nat.le_of_ble_eq_true rfl) (Or.inl ⟨hz, rfl, rfl, rfl, p, hp, rfl, rfl⟩)
    · exact absurd c_20 (by decide)

set_option maxRecDepth 100000 in
theorem m_X7_wallet {l : Launch} {G : wG} (hl : l.stackTraces = false) (hG : wD G) (V : wV) (I : wI) (J : wJ) (p0 : Int32) : Ctr l yX7_wallet cX7_wallet 2 (some .long) { frames := 2, cells := 0, slots := 0, locals := 43 } G [.ref (G.2.1 7), .int p0] V I J (mQ (tcIn p0 6) (some (.long 0)) V I J (fun r V9 I9 J9 => V9 = upd V 7 (nI 0) ∧ I9 = I ∧ J9 = J ∧ ∃ p, p < 6 ∧ p0 = nI p ∧ r = some (.long (J 62 p)))) (noX) := by
  refine ctr_of hl hG (by decide) (Nat.le_of_ble_eq_true rfl) [(0, .ref (G.2.1 7)), (1, .int p0)] rfl ?_
  intro K hC hKl hRm hr hT
  subst hKl
  have hC : Cx K G RX7 cX7_wallet 2 := hC
  refine g_aload_n hC dX7_wallet_0 rfl 0 rfl ?_
  refine g_iload_n hC dX7_wallet_1 rfl 1 rfl ?_
  refine g_cS hC [.int p0] (m_X7_isHolder hl hG V I J p0) rfl (st2 := [.int ((if inB p0 6 = true then nI 1 else nI 0)), .ref (G.2.1 7)]) rfl rfl tw_838 tw_839 tw_38 tw_840 pd_X7_isHolder ⟨rfl, rfl⟩ (by rw [hRm]; exact ⟨Nat.le_of_ble_eq_true rfl, Nat.le_of_ble_eq_true rfl, Nat.le_of_ble_eq_true rfl, Nat.le_of_ble_eq_true rfl⟩) (Nat.le_of_ble_eq_true rfl) dX7_wallet_2 ?_
  refine g_if_eq hC 12 dX7_wallet_5 (by decide) (fun c_5 => ?_) (fun c_5 => ?_)
  · have e_5 := b10_f c_5
    refine g_iconst (v := nI 1) hC dX7_wallet_12 (by decide) ?_
    refine gp_X7_103 hC dX7_wallet_13 ?_
    refine g_aload_n hC dX7_wallet_16 rfl 0 rfl ?_
    refine gf_X7_103 hC dX7_wallet_17 ?_
    refine g_eqI (x' := nI 1) (by rw [pk_us]) ?_
    refine g_if_le hC 27 dX7_wallet_20 (by decide) (fun c_20 => ?_) (fun c_20 => ?_)
    · exact absurd c_20 (by decide)
    · refine g_lconst (v := 0) hC dX7_wallet_23 (by decide) ?_
      refine g_goto hC 33 dX7_wallet_24 (by decide) ?_
      exact g_lret hC hr dX7_wallet_33 (Nat.le_of_ble_eq_true rfl) (Nat.le_of_ble_eq_true rfl) (mQ_x (by have hz : tcIn p0 6 = 1 := (by simp [tcIn, e_5]); exact hz) (by decide))
  · have e_5 := b10_t c_5
    refine g_iconst (v := nI 0) hC dX7_wallet_8 (by decide) ?_
    refine g_goto hC 13 dX7_wallet_9 (by decide) ?_
    refine gp_X7_103 hC dX7_wallet_13 ?_
    refine g_aload_n hC dX7_wallet_16 rfl 0 rfl ?_
    refine gf_X7_103 hC dX7_wallet_17 ?_
    refine g_eqI (x' := nI 0) (by rw [pk_us]) ?_
    refine g_if_le hC 27 dX7_wallet_20 (by decide) (fun c_20 => ?_) (fun c_20 => ?_)
    · have hz : tcIn p0 6 = 0 := by simp [tcIn, e_5]
      obtain ⟨p, hp, ep⟩ := inB_nI e_5 (by omega)
      subst ep
      refine g_aload_n hC dX7_wallet_27 rfl 0 rfl ?_
      refine gf_X7_48 hC dX7_wallet_28 ?_
      refine g_iload_n hC dX7_wallet_31 rfl 1 rfl ?_
      refine n_lald hC 62 aa_62 p (show p < 6 by omega) dX7_wallet_32 ?_
      exact g_lret hC hr dX7_wallet_33 (Nat.le_of_ble_eq_true rfl) (Nat.le_of_ble_eq_true rfl) (Or.inl ⟨hz, rfl, rfl, rfl, p, hp, rfl, rfl⟩)
    · exact absurd c_20 (by decide)
