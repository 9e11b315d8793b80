set_option maxRecDepth 100000 in
theorem m_X7_journeys {l : Launch} {G : wG} (hl : l.stackTraces = false) (hG : wD G) (V : wV) (I : wI) (J : wJ) (nr n ns M : Nat) (hc : cGd nr n ns M V I) (G0 : wI) (hx : eqy I G0) (p0 : Int32) : Ctr l yX7_journeys cX7_journeys 2 (some .int) { frames := 4, cells := 0, slots := 0, locals := 104 } G [.ref (G.2.1 7), .int p0] V I J (qQ (tcIn p0 10) (some (.int (nI 0))) V I J (fun r => ∃ p, p < 10 ∧ p0 = nI p ∧ r = some (.int (nI (fj nr ns p G0 n).1)))) (noX) := by
  refine ctr_of hl hG (by decide) (Nat.le_of_ble_eq_true rfl) [(0, .ref (G.2.1 7)), (1, .int p0)] rfl ?_
  intro K hC hKl hRm hr hT
  subst hKl
  have hC : Cx K G RX7 cX7_journeys 2 := hC
  refine g_aload_n hC dX7_journeys_0 rfl 0 rfl ?_
  refine g_iload_n hC dX7_journeys_1 rfl 1 rfl ?_
  refine g_cS hC [.int p0] (m_X7_isPlate hl hG V I J p0) rfl (st2 := [.int ((if inB p0 10 = true then nI 1 else nI 0)), .ref (G.2.1 7)]) rfl rfl tw_835 tw_836 tw_38 tw_837 pd_X7_isPlate ⟨rfl, rfl⟩ (by rw [hRm]; exact ⟨Nat.le_of_ble_eq_true rfl, Nat.le_of_ble_eq_true rfl, Nat.le_of_ble_eq_true rfl, Nat.le_of_ble_eq_true rfl⟩) (Nat.le_of_ble_eq_true rfl) dX7_journeys_2 ?_
  refine g_if_eq hC 12 dX7_journeys_5 (by decide) (fun c_5 => ?_) (fun c_5 => ?_)
  · have e_5 := b10_f c_5
    refine g_iconst (v := nI 1) hC dX7_journeys_12 (by decide) ?_
    refine gp_X7_103 hC dX7_journeys_13 ?_
    refine g_aload_n hC dX7_journeys_16 rfl 0 rfl ?_
    refine gf_X7_103 hC dX7_journeys_17 ?_
    refine g_eqI (x' := nI 1) (by rw [pk_us]) ?_
    refine g_if_le hC 25 dX7_journeys_20 (by decide) (fun c_20 => ?_) (fun c_20 => ?_)
    · exact absurd c_20 (by decide)
    · refine g_iconst (v := nI 0) hC dX7_journeys_23 (by decide) ?_
      exact g_iret hC hr dX7_journeys_24 (Nat.le_of_ble_eq_true rfl) (Nat.le_of_ble_eq_true rfl) (qQ_x (by have hz : tcIn p0 10 = 1 := (by simp [tcIn, e_5]); exact hz) (by decide) pk_us (fv_7 _ _) (gK_rf I) (fq_rf J))
  · have e_5 := b10_t c_5
    refine g_iconst (v := nI 0) hC dX7_journeys_8 (by decide) ?_
    refine g_goto hC 13 dX7_journeys_9 (by decide) ?_
    refine gp_X7_103 hC dX7_journeys_13 ?_
    refine g_aload_n hC dX7_journeys_16 rfl 0 rfl ?_
    refine gf_X7_103 hC dX7_journeys_17 ?_
    refine g_eqI (x' := nI 0) (by rw [pk_us]) ?_
    refine g_if_le hC 25 dX7_journeys_20 (by decide) (fun c_20 => ?_) (fun c_20 => ?_)
    · have hz : tcIn p0 10 = 0 := by simp [tcIn, e_5]
      obtain ⟨p, hp, ep⟩ := inB_nI e_5 (by omega)
      subst ep
      refine g_aload_n hC dX7_journeys_25 rfl 0 rfl ?_
      refine g_iload_n hC dX7_journeys_26 rfl 1 rfl ?_
      refine g_cVr hC [.int (nI p)] 7 (m_X7_goesC hl hG (upd V 7 (nI 0)) I J nr n ns p M G0 (cGd_x hc (fv_7 V (nI 0)) (gK_rf I)) hx hp) rfl (by decide) rfl rfl rfl tw_873 tw_875 tw_19 tw_38 tw_876 pd_X7_goes ⟨rfl, rfl⟩ (by rw [hRm]; exact ⟨Nat.le_of_ble_eq_true rfl, Nat.le_of_ble_eq_true rfl, Nat.le_of_ble_eq_true rfl, Nat.le_of_ble_eq_true rfl⟩) (Nat.le_of_ble_eq_true rfl) dX7_journeys_27 (fun r9 V9 I9 J9 hp9 => ?_)
      obtain ⟨rfl, hVq, hK9, hJ9, hF9⟩ := hp9
      have hVq := hVq.symm
      subst hVq
      have hcn := fj_n (plate := p) hc hx
      refine g_at rfl rfl (st2 := []) rfl ?_
      refine g_aload_n hC dX7_journeys_30 rfl 0 rfl ?_
      refine gf_X7_159 hC dX7_journeys_31 ?_
      refine g_eqI (x' := nI (fj nr ns p G0 n).1) (by rw [pk_us]) ?_
      exact g_iret hC hr dX7_journeys_34 (Nat.le_of_ble_eq_true rfl) (Nat.le_of_ble_eq_true rfl) (qQ_o hz ((pk_un (by decide)).trans pk_us) (fv_tr (fv_7 _ _) (fv_14 _ _)) hK9 hJ9 (⟨p, hp, rfl, rfl⟩))
    · exact absurd c_20 (by decide)

set_option maxRecDepth 100000 in
theorem m_X7_due {l : Launch} {G : wG} (hl : l.stackTraces = false) (hG : wD G) (V : wV) (I : wI) (J : wJ) (nr n ns M : Nat) (hc : cGd nr n ns M V I) (G0 : wI) (hx : eqy I G0) (p0 : Int32) : Ctr l yX7_due cX7_due 2 (some .long) { frames := 5, cells := 0, slots := 0, locals := 128 } G [.ref (G.2.1 7), .int p0] V I J (qQ (tcIn p0 10) (some (.long 0)) V I J (fun r => ∃ p, p < 10 ∧ p0 = nI p ∧ r = some (.long (sF (fj nr ns p G0 n).2.2 (V 8) (nI M) (fj nr ns p G0 n).1)))) (noX) := by
  refine ctr_of hl hG (by decide) (Nat.le_of_ble_eq_true rfl) [(0, .ref (G.2.1 7)), (1, .int p0)] rfl ?_
  intro K hC hKl hRm hr hT
  subst hKl
  have hC : Cx K G RX7 cX7_due 2 := hC
  refine g_aload_n hC dX7_due_0 rfl 0 rfl ?_
  refine g_iload_n hC dX7_due_1 rfl 1 rfl ?_
  refine g_cS hC [.int p0] (m_X7_isPlate hl hG V I J p0) rfl (st2 := [.int ((if inB p0 10 = true then nI 1 else nI 0)), .ref (G.2.1 7)]) rfl rfl tw_835 tw_836 tw_38 tw_837 pd_X7_isPlate ⟨rfl, rfl⟩ (by rw [hRm]; exact ⟨Nat.le_of_ble_eq_true rfl, Nat.le_of_ble_eq_true rfl, Nat.le_of_ble_eq_true rfl, Nat.le_of_ble_eq_true rfl⟩) (Nat.le_of_ble_eq_true rfl) dX7_due_2 ?_
  refine g_if_eq hC 12 dX7_due_5 (by decide) (fun c_5 => ?_) (fun c_5 => ?_)
  · have e_5 := b10_f c_5
    refine g_iconst (v := nI 1) hC dX7_due_12 (by decide) ?_
    refine gp_X7_103 hC dX7_due_13 ?_
    refine g_aload_n hC dX7_due_16 rfl 0 rfl ?_
    refine gf_X7_103 hC dX7_due_17 ?_
    refine g_eqI (x' := nI 1) (by rw [pk_us]) ?_
    refine g_if_le hC 27 dX7_due_20 (by decide) (fun c_20 => ?_) (fun c_20 => ?_)
    · exact absurd c_20 (by decide)
    · refine g_lconst (v := 0) hC dX7_due_23 (by decide) ?_
      refine g_goto hC 32 dX7_due_24 (by decide) ?_
      exact g_lret hC hr dX7_due_32 (Nat.le_of_ble_eq_true rfl) (Nat.le_of_ble_eq_true rfl) (qQ_x (by have hz : tcIn p0 10 = 1 := (by simp [tcIn, e_5]); exact hz) (by decide) pk_us (fv_7 _ _) (gK_rf I) (fq_rf J))
  · have e_5 := b10_t c_5
    refine g_iconst (v := nI 0) hC dX7_due_8 (by decide) ?_
    refine g_goto hC 13 dX7_due_9 (by decide) ?_
    refine gp_X7_103 hC dX7_due_13 ?_
    refine g_aload_n hC dX7_due_16 rfl 0 rfl ?_
    refine gf_X7_103 hC dX7_due_17 ?_
    refine g_eqI (x' := nI 0) (by rw [pk_us]) ?_
    refine g_if_le hC 27 dX7_due_20 (by decide) (fun c_20 => ?_) (fun c_20 => ?_)
    · have hz : tcIn p0 10 = 0 := by simp [tcIn, e_5]
      obtain ⟨p, hp, ep⟩ := inB_nI e_5 (by omega)
      subst ep
      refine g_aload_n hC dX7_due_27 rfl 0 rfl ?_
      refine g_iload_n hC dX7_due_28 rfl 1 rfl ?_
      refine g_cVr hC [.int (nI p)] 7 (m_X7_dueOf hl hG (upd V 7 (nI 0)) I J nr n ns M (cGd_x hc (fv_7 V (nI 0)) (gK_rf I)) p G0 hx hp) rfl (by decide) rfl rfl rfl tw_869 tw_871 tw_18 tw_38 tw_872 pd_X7_dueOf ⟨rfl, rfl⟩ (by rw [hRm]; exact ⟨Nat.le_of_ble_eq_true rfl, Nat.le_of_ble_eq_true rfl, Nat.le_of_ble_eq_true rfl, Nat.le_of_ble_eq_true rfl⟩) (Nat.le_of_ble_eq_true rfl) dX7_due_29 (fun r9 V9 I9 J9 hp9 => ?_)
      obtain ⟨rfl, hVq, hK9, hJ9⟩ := hp9
      have hVq := hVq.symm
      subst hVq
      refine g_at rfl rfl (st2 := [.long (sF (fj nr ns p G0 n).2.2 (V 8) (nI M) (fj nr ns p G0 n).1)]) rfl ?_
      exact g_lret hC hr dX7_due_32 (Nat.le_of_ble_eq_true rfl) (Nat.le_of_ble_eq_true rfl) (qQ_o hz ((pk_un (by decide)).trans pk_us) (fv_tr (fv_7 _ _) (fv_14 _ _)) hK9 hJ9 (⟨p, hp, rfl, rfl⟩))
    · exact absurd c_20 (by decide)

set_option maxRecDepth 100000 in
theorem m_X7_share {l : Launch} {G : wG} (hl : l.stackTraces = false) (hG : wD G) (V : wV) (I : wI) (J : wJ) (nr n ns M : Nat) (hc : cGd nr n ns M V I) (Gp : Nat → wI) (hx : ∀ p, p < 10 → eqy I (Gp p)) (p0 p1 : Int32) : Ctr l yX7_share cX7_share 3 (some .long) { frames := 5, cells := 0, slots := 0, locals := 129 } G [.ref (G.2.1 7), .int p0, .int p1] V I J (qQ (tcIn p0 4) (some (.long 0)) V I J (fun r => ∃ o, o < 4 ∧ p0 = nI o ∧ r = some (.long (if p1 = 0 then J 63 o else dS nr ns n o Gp (V 8) (nI M) 10)))) (noX) := by
  refine ctr_of hl hG (by decide) (Nat.le_of_ble_eq_true rfl) [(0, .ref (G.2.1 7)), (1, .int p0), (2, .int p1)] rfl ?_
  intro K hC hKl hRm hr hT
  subst hKl
  have hC : Cx K G RX7 cX7_share 3 := hC
  have hR3 : rgB p0 (nI 0) (nI 3) = inB p0 4 := rg_in2 (by omega)
  refine g_aload_n hC dX7_share_0 rfl 0 rfl ?_
  refine g_iload_n hC dX7_share_1 rfl 1 rfl ?_
  refine g_iconst (v := nI 0) hC dX7_share_2 (by decide) ?_
  refine g_iconst (v := nI 3) hC dX7_share_3 (by decide) ?_
  refine g_cS hC [.int p0, .int (nI 0), .int (nI 3)] (m_X7_in hl hG V I J p0 (nI 0) (nI 3)) rfl (st2 := [.int ((if rgB p0 (nI 0) (nI 3) = true then nI 1 else nI 0)), .ref (G.2.1 7)]) rfl rfl tw_819 tw_820 tw_38 tw_821 pd_X7_in ⟨rfl, rfl⟩ (by rw [hRm]; exact ⟨Nat.le_of_ble_eq_true rfl, Nat.le_of_ble_eq_true rfl, Nat.le_of_ble_eq_true rfl, Nat.le_of_ble_eq_true rfl⟩) (Nat.le_of_ble_eq_true rfl) dX7_share_4 ?_
  refine g_if_eq hC 14 dX7_share_7 (by decide) (fun c_7 => ?_) (fun c_7 => ?_)
  · have e_7 := b10_f c_7
    refine g_iconst (v := nI 1) hC dX7_share_14 (by decide) ?_
    refine gp_X7_103 hC dX7_share_15 ?_
    refine g_aload_n hC dX7_share_18 rfl 0 rfl ?_
    refine gf_X7_103 hC dX7_share_19 ?_
    refine g_eqI (x' := nI 1) (by rw [pk_us]) ?_
    refine g_if_le hC 29 dX7_share_22 (by decide) (fun c_22 => ?_) (fun c_22 => ?_)
    · exact absurd c_22 (by decide)
    · refine g_lconst (v := 0) hC dX7_share_25 (by decide) ?_
      refine g_goto hC 47 dX7_share_26 (by decide) ?_
      rw [hR3] at e_7
      exact g_lret hC hr dX7_share_47 (Nat.le_of_ble_eq_true rfl) (Nat.le_of_ble_eq_true rfl) (qQ_x (by have hz : tcIn p0 4 = 1 := (by simp [tcIn, e_7]); exact hz) (by decide) pk_us (fv_7 _ _) (gK_rf I) (fq_rf J))
  · have e_7 := b10_t c_7
    refine g_iconst (v := nI 0) hC dX7_share_10 (by decide) ?_
    refine g_goto hC 15 dX7_share_11 (by decide) ?_
    refine gp_X7_103 hC dX7_share_15 ?_
    refine g_aload_n hC dX7_share_18 rfl 0 rfl ?_
    refine gf_X7_103 hC dX7_share_19 ?_
    refine g_eqI (x' := nI 0) (by rw [pk_us]) ?_
    refine g_if_le hC 29 dX7_share_22 (by decide) (fun c_22 => ?_) (fun c_22 => ?_)
    · rw [hR3] at e_7
      have hz : tcIn p0 4 = 0 := by simp [tcIn, e_7]
      obtain ⟨o, ho, eo⟩ := inB_nI e_7 (by omega)
      subst eo
      refine g_iload_n hC dX7_share_29 rfl 2 rfl ?_
      refine g_if_eq hC 41 dX7_share_30 (by decide) (fun c_30 => ?_) (fun c_30 => ?_)
      · refine g_aload_n hC dX7_share_41 rfl 0 rfl ?_
        refine gf_X7_51 hC dX7_share_42 ?_
        refine g_iload_n hC dX7_share_45 rfl 1 rfl ?_
        refine n_lald hC 63 aa_63 o (show o < 4 by omega) dX7_share_46 ?_
        exact g_lret hC hr dX7_share_47 (Nat.le_of_ble_eq_true rfl) (Nat.le_of_ble_eq_true rfl) (qQ_o hz pk_us (fv_7 _ _) (gK_rf I) (fq_rf J) (⟨o, ho, rfl, by rw [if_pos c_30]⟩))
      · refine g_aload_n hC dX7_share_33 rfl 0 rfl ?_
        refine g_iload_n hC dX7_share_34 rfl 1 rfl ?_
        refine g_cVr hC [.int (nI o)] 7 (m_X7_dueTo hl hG (upd V 7 (nI 0)) I J nr n ns M (cGd_x hc (fv_7 V (nI 0)) (gK_rf I)) o Gp hx ho) rfl (by decide) rfl rfl rfl tw_914 tw_916 tw_29 tw_38 tw_917 pd_X7_dueTo ⟨rfl, rfl⟩ (by rw [hRm]; exact ⟨Nat.le_of_ble_eq_true rfl, Nat.le_of_ble_eq_true rfl, Nat.le_of_ble_eq_true rfl, Nat.le_of_ble_eq_true rfl⟩) (Nat.le_of_ble_eq_true rfl) dX7_share_35 (fun r9 V9 I9 J9 hp9 => ?_)
        obtain ⟨rfl, hVb, h7b, hK9, hJ9⟩ := hp9
        refine g_at rfl rfl (st2 := [.long (dS nr ns n o Gp (V 8) (nI M) 10)]) rfl ?_
        refine g_goto hC 47 dX7_share_38 (by decide) ?_
        exact g_lret hC hr dX7_share_47 (Nat.le_of_ble_eq_true rfl) (Nat.le_of_ble_eq_true rfl) (qQ_o hz (h7b.trans pk_us) (fv_tr (fv_7 _ _) hVb) hK9 hJ9 (⟨o, ho, rfl, by rw [if_neg c_30]⟩))
    · exact absurd c_22 (by decide)

set_option maxRecDepth 100000 in
theorem m_X7_journey {l : Launch} {G : wG} (hl : l.stackTraces = false) (hG : wD G) (V : wV) (I : wI) (J : wJ) (nr n ns M : Nat) (hc : cGd nr n ns M V I) (G0 : wI) (hx : eqy I G0) (p0 p1 p2 : Int32) : Ctr l yX7_journey cX7_journey 4 (some .int) { frames := 4, cells := 0, slots := 0, locals := 104 } G [.ref (G.2.1 7), .int p0, .int p1, .int p2] V I J (qQ (tcJourney (if inB p0 10 = true then (fj nr ns (tn p0) G0 n).1 else 0) p0 p1 p2) (some (.int (nI 0))) V I J (fun r => ∃ p j, p < 10 ∧ j < (fj nr ns p G0 n).1 ∧ p0 = nI p ∧ p1 = nI j ∧ ((p2 = nI 0 ∧ r = some (.int ((fj nr ns p G0 n).2.2 24 j))) ∨ (p2 = nI 1 ∧ r = some (.int ((fj nr ns p G0 n).2.2 25 j))) ∨ (p2 = nI 2 ∧ r = some (.int ((fj nr ns p G0 n).2.2 26 j))) ∨ (p2 = nI 3 ∧ r = some (.int (fr (fj nr ns p G0 n).2.2 j (nI M)))) ∨ (p2 = nI 4 ∧ r = some (.int (if V 8 - (fj nr ns p G0 n).2.2 25 j < nI 60 then nI 0 else nI 1))) ∨ ∃ o, o < 4 ∧ p2 = nI (5 + o) ∧ r = some (.int (shr (fj nr ns p G0 n).2.2 j o (nI M)))))) (noX) := by
  refine ctr_of hl hG (by decide) (Nat.le_of_ble_eq_true rfl) [(0, .ref (G.2.1 7)), (1, .int p0), (2, .int p1), (3, .int p2)] rfl ?_
  intro K hC hKl hRm hr hT
  subst hKl
  have hC : Cx K G RX7 cX7_journey 4 := hC
  refine g_aload_n hC dX7_journey_0 rfl 0 rfl ?_
  refine g_iload_n hC dX7_journey_1 rfl 1 rfl ?_
  refine g_cS hC [.int p0] (m_X7_isPlate hl hG V I J p0) rfl (st2 := [.int ((if inB p0 10 = true then nI 1 else nI 0)), .ref (G.2.1 7)]) rfl rfl tw_835 tw_836 tw_38 tw_837 pd_X7_isPlate ⟨rfl, rfl⟩ (by rw [hRm]; exact ⟨Nat.le_of_ble_eq_true rfl, Nat.le_of_ble_eq_true rfl, Nat.le_of_ble_eq_true rfl, Nat.le_of_ble_eq_true rfl⟩) (Nat.le_of_ble_eq_true rfl) dX7_journey_2 ?_
  refine g_if_eq hC 12 dX7_journey_5 (by decide) (fun c_5 => ?_) (fun c_5 => ?_)
  · have e_5 := b10_f c_5
    refine g_iconst (v := nI 1) hC dX7_journey_12 (by decide) ?_
    refine gp_X7_103 hC dX7_journey_13 ?_
    refine g_aload_n hC dX7_journey_16 rfl 0 rfl ?_
    refine gf_X7_103 hC dX7_journey_17 ?_
    refine g_eqI (x' := nI 1) (by rw [pk_us]) ?_
    refine g_if_le hC 25 dX7_journey_20 (by decide) (fun c_20 => ?_) (fun c_20 => ?_)
    · exact absurd c_20 (by decide)
    · refine g_iconst (v := nI 0) hC dX7_journey_23 (by decide) ?_
      exact g_iret hC hr dX7_journey_24 (Nat.le_of_ble_eq_true rfl) (Nat.le_of_ble_eq_true rfl) (qQ_x (by have hz : tcJourney (if inB p0 10 = true then (fj nr ns (tn p0) G0 n).1 else 0) p0 p1 p2 = 1 := (by simp [tcJourney, e_5]); exact hz) (by decide) pk_us (fv_7 _ _) (gK_rf I) (fq_rf J))
  · have e_5 := b10_t c_5
    refine g_iconst (v := nI 0) hC dX7_journey_8 (by decide) ?_
    refine g_goto hC 13 dX7_journey_9 (by decide) ?_
    refine gp_X7_103 hC dX7_journey_13 ?_
    refine g_aload_n hC dX7_journey_16 rfl 0 rfl ?_
    refine gf_X7_103 hC dX7_journey_17 ?_
    refine g_eqI (x' := nI 0) (by rw [pk_us]) ?_
    refine g_if_le hC 25 dX7_journey_20 (by decide) (fun c_20 => ?_) (fun c_20 => ?_)
    · have hz0 : inB p0 10 = true := e_5
      have htn : (if inB p0 10 = true then (fj nr ns (tn p0) G0 n).1 else 0) = (fj nr ns (tn p0) G0 n).1 := if_pos hz0
      obtain ⟨p, hp, ep⟩ := inB_nI e_5 (by omega)
      have hcl : tn p0 = p := by rw [ep]; exact nI_clamp (by omega)
      rw [hcl] at htn
      subst ep
      refine g_aload_n hC dX7_journey_25 rfl 0 rfl ?_
      refine g_iload_n hC dX7_journey_26 rfl 1 rfl ?_
      refine g_cVr hC [.int (nI p)] 7 (m_X7_goesC hl hG (upd V 7 (nI 0)) I J nr n ns p M G0 (cGd_x hc (fv_7 V (nI 0)) (gK_rf I)) hx hp) rfl (by decide) rfl rfl rfl tw_873 tw_875 tw_19 tw_38 tw_876 pd_X7_goes ⟨rfl, rfl⟩ (by rw [hRm]; exact ⟨Nat.le_of_ble_eq_true rfl, Nat.le_of_ble_eq_true rfl, Nat.le_of_ble_eq_true rfl, Nat.le_of_ble_eq_true rfl⟩) (Nat.le_of_ble_eq_true rfl) dX7_journey_27 (fun r9 V9 I9 J9 hp9 => ?_)
      obtain ⟨rfl, hVq, hK9, hJ9, hF9⟩ := hp9
      have hVq := hVq.symm
      subst hVq
      have hcn := fj_n (plate := p) hc hx
      refine g_at rfl rfl (st2 := []) rfl ?_
      refine g_aload_n hC dX7_journey_30 rfl 0 rfl ?_
      refine g_iload_n hC dX7_journey_31 rfl 2 rfl ?_
      refine g_iconst (v := nI 0) hC dX7_journey_32 (by decide) ?_
      refine g_aload_n hC dX7_journey_33 rfl 0 rfl ?_
      refine gf_X7_159 hC dX7_journey_34 ?_
      refine g_eqI (x' := nI (fj nr ns p G0 n).1) (by rw [pk_us]) ?_
      refine g_iconst (v := nI 1) hC dX7_journey_37 (by decide) ?_
      refine g_isub hC dX7_journey_38 ?_
      refine g_cS hC [.int p1, .int (nI 0), .int ((nI (fj nr ns p G0 n).1) - (nI 1))] (m_X7_in hl hG (upd (upd V 7 (nI 0)) 14 (nI (fj nr ns p G0 n).1)) I9 J9 p1 (nI 0) ((nI (fj nr ns p G0 n).1) - (nI 1))) rfl (st2 := [.int ((if rgB p1 (nI 0) ((nI (fj nr ns p G0 n).1) - (nI 1)) = true then nI 1 else nI 0)), .ref (G.2.1 7)]) rfl rfl tw_819 tw_820 tw_38 tw_821 pd_X7_in ⟨rfl, rfl⟩ (by rw [hRm]; exact ⟨Nat.le_of_ble_eq_true rfl, Nat.le_of_ble_eq_true rfl, Nat.le_of_ble_eq_true rfl, Nat.le_of_ble_eq_true rfl⟩) (Nat.le_of_ble_eq_true rfl) dX7_journey_39 ?_
      refine g_eqI (x' := (if inB p1 (fj nr ns p G0 n).1 = true then nI 1 else nI 0)) (by rw [rg_in (by omega)]) ?_
      refine g_if_ne hC 49 dX7_journey_42 (by decide) (fun c_42 => ?_) (fun c_42 => ?_)
      · have e_42 := b10_t c_42
        refine g_iload_n hC dX7_journey_49 rfl 3 rfl ?_
        refine g_iconst (v := nI 0) hC dX7_journey_50 (by decide) ?_
        refine g_bipush (v := nI 8) hC dX7_journey_51 (by decide) ?_
        refine g_cS hC [.int p2, .int (nI 0), .int (nI 8)] (m_X7_in hl hG (upd (upd V 7 (nI 0)) 14 (nI (fj nr ns p G0 n).1)) I9 J9 p2 (nI 0) (nI 8)) rfl (st2 := [.int ((if rgB p2 (nI 0) (nI 8) = true then nI 1 else nI 0)), .ref (G.2.1 7)]) rfl rfl tw_819 tw_820 tw_38 tw_821 pd_X7_in ⟨rfl, rfl⟩ (by rw [hRm]; exact ⟨Nat.le_of_ble_eq_true rfl, Nat.le_of_ble_eq_true rfl, Nat.le_of_ble_eq_true rfl, Nat.le_of_ble_eq_true rfl⟩) (Nat.le_of_ble_eq_true rfl) dX7_journey_53 ?_
        refine g_if_eq hC 63 dX7_journey_56 (by decide) (fun c_56 => ?_) (fun c_56 => ?_)
        · have e_56 := b10_f c_56
          refine g_iconst (v := nI 2) hC dX7_journey_63 (by decide) ?_
          refine gp_X7_103 hC dX7_journey_64 ?_
          refine g_aload_n hC dX7_journey_67 rfl 0 rfl ?_
          refine gf_X7_103 hC dX7_journey_68 ?_
          refine g_eqI (x' := nI 2) (by rw [pk_us]) ?_
          refine g_if_le hC 76 dX7_journey_71 (by decide) (fun c_71 => ?_) (fun c_71 => ?_)
          · exact absurd c_71 (by decide)
          · refine g_iconst (v := nI 0) hC dX7_journey_74 (by decide) ?_
            exact g_iret hC hr dX7_journey_75 (Nat.le_of_ble_eq_true rfl) (Nat.le_of_ble_eq_true rfl) (qQ_x (by have hz : tcJourney (if inB (nI p) 10 = true then (fj nr ns (tn (nI p)) G0 n).1 else 0) (nI p) p1 p2 = 2 := (by rw [hcl, htn]; simp [tcJourney, hz0, e_42, e_56]); exact hz) (by decide) pk_us (fv_tr (fv_tr (fv_7 _ _) (fv_14 _ _)) (fv_7 _ _)) hK9 hJ9)
        · have e_56 := b10_t c_56
          refine g_iconst (v := nI 0) hC dX7_journey_59 (by decide) ?_
          refine g_goto hC 64 dX7_journey_60 (by decide) ?_
          refine gp_X7_103 hC dX7_journey_64 ?_
          refine g_aload_n hC dX7_journey_67 rfl 0 rfl ?_
          refine gf_X7_103 hC dX7_journey_68 ?_
          refine g_eqI (x' := nI 0) (by rw [pk_us]) ?_
          refine g_if_le hC 76 dX7_journey_71 (by decide) (fun c_71 => ?_) (fun c_71 => ?_)
          · have hz : tcJourney (if inB (nI p) 10 = true then (fj nr ns (tn (nI p)) G0 n).1 else 0) (nI p) p1 p2 = 0 := (by rw [hcl, htn]; simp [tcJourney, hz0, e_42, e_56])
            obtain ⟨j, hj, ej⟩ := inB_nI e_42 (by omega)
            obtain ⟨w, hw9, ew⟩ := rgB_nI e_56 (by omega)
            subst ej ew
            obtain ⟨y1, y2, y3, y4, y5⟩ := hF9.1 j hj
            refine g_iload_n hC dX7_journey_76 rfl 3 rfl ?_
            refine g_iconst (v := nI 4) hC dX7_journey_77 (by decide) ?_
            refine g_icmp_le hC 95 dX7_journey_78 (by decide) (fun c_78 => ?_) (fun c_78 => ?_)
            · have d_78 : w ≤ 4 := (nI_leI (by omega) (by omega)).mp c_78
              refine g_iload_n hC dX7_journey_95 rfl 3 rfl ?_
              refine g_if_ne hC 108 dX7_journey_96 (by decide) (fun c_96 => ?_) (fun c_96 => ?_)
              · rw [← nI_0] at c_96
                have d_96 : ¬ w = 0 := fun q => c_96 ((nI_eq (by omega) (by omega)).mpr q)
                refine g_iload_n hC dX7_journey_108 rfl 3 rfl ?_
                refine g_iconst (v := nI 1) hC dX7_journey_109 (by decide) ?_
                refine g_icmp_ne hC 122 dX7_journey_110 (by decide) (fun c_110 => ?_) (fun c_110 => ?_)
                · have d_110 : ¬ w = 1 := fun q => c_110 ((nI_eq (by omega) (by omega)).mpr q)
                  refine g_iload_n hC dX7_journey_122 rfl 3 rfl ?_
                  refine g_iconst (v := nI 2) hC dX7_journey_123 (by decide) ?_
                  refine g_icmp_ne hC 136 dX7_journey_124 (by decide) (fun c_124 => ?_) (fun c_124 => ?_)
                  · have d_124 : ¬ w = 2 := fun q => c_124 ((nI_eq (by omega) (by omega)).mpr q)
                    refine g_iload_n hC dX7_journey_136 rfl 3 rfl ?_
                    refine g_iconst (v := nI 3) hC dX7_journey_137 (by decide) ?_
                    refine g_icmp_ne hC 151 dX7_journey_138 (by decide) (fun c_138 => ?_) (fun c_138 => ?_)
                    · have d_138 : ¬ w = 3 := fun q => c_138 ((nI_eq (by omega) (by omega)).mpr q)
                      refine g_aload_n hC dX7_journey_151 rfl 0 rfl ?_
                      refine g_iload_n hC dX7_journey_152 rfl 2 rfl ?_
                      refine g_cV hC [.int (nI j)] 7 (m_X7_isOver hl hG (upd (upd (upd V 7 (nI 0)) 14 (nI (fj nr ns p G0 n).1)) 7 (nI 0)) I9 J9 j (by omega)) rfl (st2 := [.int ((if (upd (upd (upd V 7 (nI 0)) 14 (nI (fj nr ns p G0 n).1)) 7 (nI 0)) 8 - I9 75 j < nI 60 then nI 0 else nI 1))]) rfl (by decide) rfl rfl rfl tw_910 tw_912 tw_28 tw_38 tw_913 pd_X7_isOver ⟨rfl, rfl⟩ (by rw [hRm]; exact ⟨Nat.le_of_ble_eq_true rfl, Nat.le_of_ble_eq_true rfl, Nat.le_of_ble_eq_true rfl, Nat.le_of_ble_eq_true rfl⟩) (Nat.le_of_ble_eq_true rfl) dX7_journey_153 ?_
                      refine g_eqI (x' := (if V 8 - (fj nr ns p G0 n).2.2 25 j < nI 60 then nI 0 else nI 1)) (by rw [y2, pk_un (by decide), pk_un (by decide), pk_un (by decide)]) ?_
                      refine g_if_eq hC 163 dX7_journey_156 (by decide) (fun c_156 => ?_) (fun c_156 => ?_)
                      · have ho9 := ite01_f c_156
                        refine g_iconst (v := nI 0) hC dX7_journey_163 (by decide) ?_
                        exact g_iret hC hr dX7_journey_164 (Nat.le_of_ble_eq_true rfl) (Nat.le_of_ble_eq_true rfl) (qQ_o hz pk_us (fv_tr (fv_tr (fv_7 _ _) (fv_14 _ _)) (fv_7 _ _)) hK9 hJ9 (⟨p, j, hp, hj, rfl, rfl, Or.inr (Or.inr (Or.inr (Or.inr (Or.inl ⟨(by rw [show w = 4 by omega]), by first | rw [if_pos ho9] | rw [if_neg ho9]⟩))))⟩))
                      · have ho9 := ite01_t c_156
                        refine g_iconst (v := nI 1) hC dX7_journey_159 (by decide) ?_
                        refine g_goto hC 164 dX7_journey_160 (by decide) ?_
                        exact g_iret hC hr dX7_journey_164 (Nat.le_of_ble_eq_true rfl) (Nat.le_of_ble_eq_true rfl) (qQ_o hz pk_us (fv_tr (fv_tr (fv_7 _ _) (fv_14 _ _)) (fv_7 _ _)) hK9 hJ9 (⟨p, j, hp, hj, rfl, rfl, Or.inr (Or.inr (Or.inr (Or.inr (Or.inl ⟨(by rw [show w = 4 by omega]), by first | rw [if_pos ho9] | rw [if_neg ho9]⟩))))⟩))
                    · have d_138 : w = 3 := (nI_eq (by omega) (by omega)).mp c_138
                      refine g_aload_n hC dX7_journey_141 rfl 0 rfl ?_
                      refine gf_X7_97 hC dX7_journey_142 ?_
                      refine g_iload_n hC dX7_journey_145 rfl 2 rfl ?_
                      refine n_lald hC 78 aa_78 j (show j < 100 by omega) dX7_journey_146 ?_
                      refine g_eqL (x' := (fr (fj nr ns p G0 n).2.2 j (nI M)).toInt64) y4 ?_
                      refine g_l2i hC dX7_journey_147 ?_
                      refine g_eqI (x' := fr (fj nr ns p G0 n).2.2 j (nI M)) (i3264 _) ?_
                      refine g_goto hC 164 dX7_journey_148 (by decide) ?_
                      exact g_iret hC hr dX7_journey_164 (Nat.le_of_ble_eq_true rfl) (Nat.le_of_ble_eq_true rfl) (qQ_o hz pk_us (fv_tr (fv_tr (fv_7 _ _) (fv_14 _ _)) (fv_7 _ _)) hK9 hJ9 (⟨p, j, hp, hj, rfl, rfl, Or.inr (Or.inr (Or.inr (Or.inl ⟨(by rw [show w = 3 by omega]), rfl⟩)))⟩))
                  · have d_124 : w = 2 := (nI_eq (by omega) (by omega)).mp c_124
                    refine g_aload_n hC dX7_journey_127 rfl 0 rfl ?_
                    refine gf_X7_91 hC dX7_journey_128 ?_
                    refine g_iload_n hC dX7_journey_131 rfl 2 rfl ?_
                    refine n_iald hC 76 aa_76 j (show j < 100 by omega) dX7_journey_132 ?_
                    refine g_eqI (x' := (fj nr ns p G0 n).2.2 26 j) y3 ?_
                    refine g_goto hC 164 dX7_journey_133 (by decide) ?_
                    exact g_iret hC hr dX7_journey_164 (Nat.le_of_ble_eq_true rfl) (Nat.le_of_ble_eq_true rfl) (qQ_o hz pk_us (fv_tr (fv_tr (fv_7 _ _) (fv_14 _ _)) (fv_7 _ _)) hK9 hJ9 (⟨p, j, hp, hj, rfl, rfl, Or.inr (Or.inr (Or.inl ⟨(by rw [show w = 2 by omega]), rfl⟩))⟩))
                · have d_110 : w = 1 := (nI_eq (by omega) (by omega)).mp c_110
                  refine g_aload_n hC dX7_journey_113 rfl 0 rfl ?_
                  refine gf_X7_88 hC dX7_journey_114 ?_
                  refine g_iload_n hC dX7_journey_117 rfl 2 rfl ?_
                  refine n_iald hC 75 aa_75 j (show j < 100 by omega) dX7_journey_118 ?_
                  refine g_eqI (x' := (fj nr ns p G0 n).2.2 25 j) y2 ?_
                  refine g_goto hC 164 dX7_journey_119 (by decide) ?_
                  exact g_iret hC hr dX7_journey_164 (Nat.le_of_ble_eq_true rfl) (Nat.le_of_ble_eq_true rfl) (qQ_o hz pk_us (fv_tr (fv_tr (fv_7 _ _) (fv_14 _ _)) (fv_7 _ _)) hK9 hJ9 (⟨p, j, hp, hj, rfl, rfl, Or.inr (Or.inl ⟨(by rw [show w = 1 by omega]), rfl⟩)⟩))
              · rw [← nI_0] at c_96
                have d_96 : w = 0 := (nI_eq (by omega) (by omega)).mp c_96
                refine g_aload_n hC dX7_journey_99 rfl 0 rfl ?_
                refine gf_X7_85 hC dX7_journey_100 ?_
                refine g_iload_n hC dX7_journey_103 rfl 2 rfl ?_
                refine n_iald hC 74 aa_74 j (show j < 100 by omega) dX7_journey_104 ?_
                refine g_eqI (x' := (fj nr ns p G0 n).2.2 24 j) y1 ?_
                refine g_goto hC 164 dX7_journey_105 (by decide) ?_
                exact g_iret hC hr dX7_journey_164 (Nat.le_of_ble_eq_true rfl) (Nat.le_of_ble_eq_true rfl) (qQ_o hz pk_us (fv_tr (fv_tr (fv_7 _ _) (fv_14 _ _)) (fv_7 _ _)) hK9 hJ9 (⟨p, j, hp, hj, rfl, rfl, Or.inl ⟨(by rw [show w = 0 by omega]), rfl⟩⟩))
            · have d_78 : ¬ w ≤ 4 := fun q => c_78 ((nI_leI (by omega) (by omega)).mpr q)
              refine g_aload_n hC dX7_journey_81 rfl 0 rfl ?_
              refine gf_X7_100 hC dX7_journey_82 ?_
              refine g_iconst (v := nI 4) hC dX7_journey_85 (by decide) ?_
              refine g_iload_n hC dX7_journey_86 rfl 2 rfl ?_
              refine g_imul hC dX7_journey_87 ?_
              refine g_eqI (x' := nI (4 * j)) (pk_mul _ _) ?_
              refine g_iload_n hC dX7_journey_88 rfl 3 rfl ?_
              refine g_iadd hC dX7_journey_89 ?_
              refine g_eqI (x' := nI ((4 * j) + w)) (nI_add _ _) ?_
              refine g_iconst (v := nI 5) hC dX7_journey_90 (by decide) ?_
              refine g_isub hC dX7_journey_91 ?_
              refine g_eqI (x' := nI (4 * j + (w - 5))) ((pk_sub (by omega)).trans (congrArg nI (by omega))) ?_
              refine n_lald hC 79 aa_79 (4 * j + (w - 5)) (show 4 * j + (w - 5) < 400 by omega) dX7_journey_92 ?_
              refine g_eqL (x' := (shr (fj nr ns p G0 n).2.2 j (w - 5) (nI M)).toInt64) (y5 _ (by omega)) ?_
              refine g_l2i hC dX7_journey_93 ?_
              refine g_eqI (x' := shr (fj nr ns p G0 n).2.2 j (w - 5) (nI M)) (i3264 _) ?_
              exact g_iret hC hr dX7_journey_94 (Nat.le_of_ble_eq_true rfl) (Nat.le_of_ble_eq_true rfl) (qQ_o hz pk_us (fv_tr (fv_tr (fv_7 _ _) (fv_14 _ _)) (fv_7 _ _)) hK9 hJ9 (⟨p, j, hp, hj, rfl, rfl, Or.inr (Or.inr (Or.inr (Or.inr (Or.inr ⟨w - 5, by omega, by rw [show 5 + (w - 5) = w by omega], rfl⟩))))⟩))
          · exact absurd c_71 (by decide)
      · have e_42 := b10_f c_42
        refine g_iconst (v := nI 1) hC dX7_journey_45 (by decide) ?_
        refine g_goto hC 64 dX7_journey_46 (by decide) ?_
        refine gp_X7_103 hC dX7_journey_64 ?_
        refine g_aload_n hC dX7_journey_67 rfl 0 rfl ?_
        refine gf_X7_103 hC dX7_journey_68 ?_
        refine g_eqI (x' := nI 1) (by rw [pk_us]) ?_
        refine g_if_le hC 76 dX7_journey_71 (by decide) (fun c_71 => ?_) (fun c_71 => ?_)
        · exact absurd c_71 (by decide)
        · refine g_iconst (v := nI 0) hC dX7_journey_74 (by decide) ?_
          exact g_iret hC hr dX7_journey_75 (Nat.le_of_ble_eq_true rfl) (Nat.le_of_ble_eq_true rfl) (qQ_x (by have hz : tcJourney (if inB (nI p) 10 = true then (fj nr ns (tn (nI p)) G0 n).1 else 0) (nI p) p1 p2 = 1 := (by rw [hcl, htn]; simp [tcJourney, hz0, e_42]); exact hz) (by decide) pk_us (fv_tr (fv_tr (fv_7 _ _) (fv_14 _ _)) (fv_7 _ _)) hK9 hJ9)
    · exact absurd c_20 (by decide)

set_option maxRecDepth 100000 in
theorem m_X7_ofReading {l : Launch} {G : wG} (hl : l.stackTraces = false) (hG : wD G) (V : wV) (I : wI) (J : wJ) (nr n ns M : Nat) (hc : cGd nr n ns M V I) (G0 : wI) (hx : eqy I G0) (hz28 : ∀ r, G0 28 r = 0 ∨ G0 28 r = 1) (hb22 : ∀ r, I 22 r = 0 ∨ I 22 r = 1) (p0 p1 : Int32) : Ctr l yX7_ofReading cX7_ofReading 3 (some .int) { frames := 4, cells := 0, slots := 0, locals := 104 } G [.ref (G.2.1 7), .int p0, .int p1] V I J (qQ (tcOfR n p0 p1) (some (.int (nI 0))) V I J (fun r => ∃ q, q < n ∧ p0 = nI q ∧ ((p1 = nI 0 ∧ r = some (.int (I 19 q))) ∨ (p1 = nI 1 ∧ r = some (.int (I 20 q))) ∨ (p1 = nI 2 ∧ r = some (.int (I 21 q))) ∨ (p1 = nI 3 ∧ r = some (.int (I 22 q))) ∨ (p1 = nI 4 ∧ r = some (.int (if I 22 q = 0 then (fj nr ns (tn (I 20 q)) G0 n).2.2 28 q else nI 0))) ∨ (p1 = nI 5 ∧ r = some (.int (if I 22 q = 0 then (fj nr ns (tn (I 20 q)) G0 n).2.2 27 q else -1)))))) (noX) := by
  refine ctr_of hl hG (by decide) (Nat.le_of_ble_eq_true rfl) [(0, .ref (G.2.1 7)), (1, .int p0), (2, .int p1)] rfl ?_
  intro K hC hKl hRm hr hT
  subst hKl
  have hC : Cx K G RX7 cX7_ofReading 3 := hC
  have hw := hc.2.2.2.2.2.2.2.2.1
  obtain ⟨w1, w2, w3, w4, w5, w6, w7⟩ := id hw
  have hmI := hc.2.2.2.2.2.1
  obtain ⟨m51, m52, m53, m54, m56, m57, m58, m59, m64, m65, m66, m67, m68, m69, m70⟩ := id hmI
  refine g_aload_n hC dX7_ofReading_0 rfl 0 rfl ?_
  refine g_aload_n hC dX7_ofReading_1 rfl 0 rfl ?_
  refine g_iload_n hC dX7_ofReading_2 rfl 1 rfl ?_
  refine g_cV hC [.int p0] 7 (m_X7_isReading hl hG V I J n p0 hc.2.2.2.1 (by omega)) rfl (st2 := [.int ((if inB p0 n = true then nI 1 else nI 0)), .ref (G.2.1 7)]) rfl (by decide) rfl rfl rfl tw_857 tw_859 tw_17 tw_38 tw_860 pd_X7_isReading ⟨rfl, rfl⟩ (by rw [hRm]; exact ⟨Nat.le_of_ble_eq_true rfl, Nat.le_of_ble_eq_true rfl, Nat.le_of_ble_eq_true rfl, Nat.le_of_ble_eq_true rfl⟩) (Nat.le_of_ble_eq_true rfl) dX7_ofReading_3 ?_
  refine g_if_ne hC 13 dX7_ofReading_6 (by decide) (fun c_6 => ?_) (fun c_6 => ?_)
  · have e_6 := b10_t c_6
    refine g_iload_n hC dX7_ofReading_13 rfl 2 rfl ?_
    refine g_iconst (v := nI 0) hC dX7_ofReading_14 (by decide) ?_
    refine g_iconst (v := nI 5) hC dX7_ofReading_15 (by decide) ?_
    refine g_cS hC [.int p1, .int (nI 0), .int (nI 5)] (m_X7_in hl hG V I J p1 (nI 0) (nI 5)) rfl (st2 := [.int ((if rgB p1 (nI 0) (nI 5) = true then nI 1 else nI 0)), .ref (G.2.1 7)]) rfl rfl tw_819 tw_820 tw_38 tw_821 pd_X7_in ⟨rfl, rfl⟩ (by rw [hRm]; exact ⟨Nat.le_of_ble_eq_true rfl, Nat.le_of_ble_eq_true rfl, Nat.le_of_ble_eq_true rfl, Nat.le_of_ble_eq_true rfl⟩) (Nat.le_of_ble_eq_true rfl) dX7_ofReading_16 ?_
    refine g_if_eq hC 26 dX7_ofReading_19 (by decide) (fun c_19 => ?_) (fun c_19 => ?_)
    · have e_19 := b10_f c_19
      refine g_iconst (v := nI 2) hC dX7_ofReading_26 (by decide) ?_
      refine gp_X7_103 hC dX7_ofReading_27 ?_
      refine g_aload_n hC dX7_ofReading_30 rfl 0 rfl ?_
      refine gf_X7_103 hC dX7_ofReading_31 ?_
      refine g_eqI (x' := nI 2) (by rw [pk_us]) ?_
      refine g_if_le hC 39 dX7_ofReading_34 (by decide) (fun c_34 => ?_) (fun c_34 => ?_)
      · exact absurd c_34 (by decide)
      · refine g_iconst (v := nI 0) hC dX7_ofReading_37 (by decide) ?_
        exact g_iret hC hr dX7_ofReading_38 (Nat.le_of_ble_eq_true rfl) (Nat.le_of_ble_eq_true rfl) (qQ_x (by have hz : tcOfR n p0 p1 = 2 := (by simp [tcOfR, e_6, e_19]); exact hz) (by decide) pk_us (fv_7 _ _) (gK_rf I) (fq_rf J))
    · have e_19 := b10_t c_19
      refine g_iconst (v := nI 0) hC dX7_ofReading_22 (by decide) ?_
      refine g_goto hC 27 dX7_ofReading_23 (by decide) ?_
      refine gp_X7_103 hC dX7_ofReading_27 ?_
      refine g_aload_n hC dX7_ofReading_30 rfl 0 rfl ?_
      refine gf_X7_103 hC dX7_ofReading_31 ?_
      refine g_eqI (x' := nI 0) (by rw [pk_us]) ?_
      refine g_if_le hC 39 dX7_ofReading_34 (by decide) (fun c_34 => ?_) (fun c_34 => ?_)
      · have hz : tcOfR n p0 p1 = 0 := by simp [tcOfR, e_6, e_19]
        obtain ⟨q, hq, eq9⟩ := inB_nI e_6 (by omega)
        obtain ⟨w, hw9, ew⟩ := rgB_nI e_19 (by omega)
        subst eq9 ew
        obtain ⟨pq1, pq2⟩ := vin_tn (w6 q hq).2 (by decide)
        refine g_iload_n hC dX7_ofReading_39 rfl 2 rfl ?_
        refine g_iconst (v := nI 4) hC dX7_ofReading_40 (by decide) ?_
        refine g_icmp_ge hC 100 dX7_ofReading_41 (by decide) (fun c_41 => ?_) (fun c_41 => ?_)
        · have d_41 : 4 ≤ w := (nI_leI (by omega) (by omega)).mp c_41
          refine g_aload_n hC dX7_ofReading_100 rfl 0 rfl ?_
          refine g_aload_n hC dX7_ofReading_101 rfl 0 rfl ?_
          refine gf_X7_66 hC dX7_ofReading_102 ?_
          refine g_iload_n hC dX7_ofReading_105 rfl 1 rfl ?_
          refine n_iald hC 68 aa_68 q (show q < 100 by omega) dX7_ofReading_106 ?_
          refine g_eqI (x' := I 20 q) (by rw [m68]) ?_
          refine g_eqI (x' := nI (tn (I 20 q))) pq2 ?_
          refine g_cVr hC [.int (nI (tn (I 20 q)))] 7 (m_X7_goesC hl hG (upd V 7 (nI 0)) I J nr n ns ((tn (I 20 q))) M G0 (cGd_x hc (fv_7 V (nI 0)) (gK_rf I)) hx pq1) rfl (by decide) rfl rfl rfl tw_873 tw_875 tw_19 tw_38 tw_876 pd_X7_goes ⟨rfl, rfl⟩ (by rw [hRm]; exact ⟨Nat.le_of_ble_eq_true rfl, Nat.le_of_ble_eq_true rfl, Nat.le_of_ble_eq_true rfl, Nat.le_of_ble_eq_true rfl⟩) (Nat.le_of_ble_eq_true rfl) dX7_ofReading_107 (fun r9 V9 I9 J9 hp9 => ?_)
          obtain ⟨rfl, hVq, hK9, hJ9, hF9⟩ := hp9
          have hVq := hVq.symm
          subst hVq
          have hcn := fj_n (plate := (tn (I 20 q))) hc hx
          refine g_at rfl rfl (st2 := []) rfl ?_
          obtain ⟨y1, y2⟩ := hF9.2 q hq pq2
          have hb9 : (if I 22 q = 0 then (fj nr ns (tn (I 20 q)) G0 n).2.2 28 q else nI 0) = 0 ∨ (if I 22 q = 0 then (fj nr ns (tn (I 20 q)) G0 n).2.2 28 q else nI 0) = 1 := (by split; exact z28_fj (wfC_y hw hx) hz28 n (Nat.le_refl _) q; exact Or.inl rfl)
          refine g_iload_n hC dX7_ofReading_110 rfl 2 rfl ?_
          refine g_iconst (v := nI 5) hC dX7_ofReading_111 (by decide) ?_
          refine g_icmp_ne hC 124 dX7_ofReading_112 (by decide) (fun c_112 => ?_) (fun c_112 => ?_)
          · have d_112 : ¬ w = 5 := fun q => c_112 ((nI_eq (by omega) (by omega)).mpr q)
            refine g_aload_n hC dX7_ofReading_124 rfl 0 rfl ?_
            refine gf_X7_76 hC dX7_ofReading_125 ?_
            refine g_iload_n hC dX7_ofReading_128 rfl 1 rfl ?_
            refine n_zald hC 71 aa_71 q (show q < 100 by omega) dX7_ofReading_129 ?_
            refine g_eqI (x' := (if I 22 q = 0 then (fj nr ns (tn (I 20 q)) G0 n).2.2 28 q else nI 0)) y1 ?_
            refine g_if_eq hC 137 dX7_ofReading_130 (by decide) (fun c_130 => ?_) (fun c_130 => ?_)
            · refine g_iconst (v := nI 0) hC dX7_ofReading_137 (by decide) ?_
              exact g_iret hC hr dX7_ofReading_138 (Nat.le_of_ble_eq_true rfl) (Nat.le_of_ble_eq_true rfl) (qQ_o hz ((pk_un (by decide)).trans pk_us) (fv_tr (fv_7 _ _) (fv_14 _ _)) hK9 hJ9 (⟨q, hq, rfl, Or.inr (Or.inr (Or.inr (Or.inr (Or.inl ⟨(by rw [show w = 4 by omega]), by first | (rw [c_130]; rfl) | (rw [hb9.resolve_left c_130]; rfl)⟩))))⟩))
            · refine g_iconst (v := nI 1) hC dX7_ofReading_133 (by decide) ?_
              refine g_goto hC 138 dX7_ofReading_134 (by decide) ?_
              exact g_iret hC hr dX7_ofReading_138 (Nat.le_of_ble_eq_true rfl) (Nat.le_of_ble_eq_true rfl) (qQ_o hz ((pk_un (by decide)).trans pk_us) (fv_tr (fv_7 _ _) (fv_14 _ _)) hK9 hJ9 (⟨q, hq, rfl, Or.inr (Or.inr (Or.inr (Or.inr (Or.inl ⟨(by rw [show w = 4 by omega]), by first | (rw [c_130]; rfl) | (rw [hb9.resolve_left c_130]; rfl)⟩))))⟩))
          · have d_112 : w = 5 := (nI_eq (by omega) (by omega)).mp c_112
            refine g_aload_n hC dX7_ofReading_115 rfl 0 rfl ?_
            refine gf_X7_79 hC dX7_ofReading_116 ?_
            refine g_iload_n hC dX7_ofReading_119 rfl 1 rfl ?_
            refine n_iald hC 72 aa_72 q (show q < 100 by omega) dX7_ofReading_120 ?_
            refine g_eqI (x' := (if I 22 q = 0 then (fj nr ns (tn (I 20 q)) G0 n).2.2 27 q else -1)) y2 ?_
            refine g_goto hC 138 dX7_ofReading_121 (by decide) ?_
            exact g_iret hC hr dX7_ofReading_138 (Nat.le_of_ble_eq_true rfl) (Nat.le_of_ble_eq_true rfl) (qQ_o hz ((pk_un (by decide)).trans pk_us) (fv_tr (fv_7 _ _) (fv_14 _ _)) hK9 hJ9 (⟨q, hq, rfl, Or.inr (Or.inr (Or.inr (Or.inr (Or.inr ⟨(by rw [show w = 5 by omega]), rfl⟩))))⟩))
        · have d_41 : ¬ 4 ≤ w := fun q => c_41 ((nI_leI (by omega) (by omega)).mpr q)
          refine g_iload_n hC dX7_ofReading_44 rfl 2 rfl ?_
          refine g_if_ne hC 57 dX7_ofReading_45 (by decide) (fun c_45 => ?_) (fun c_45 => ?_)
          · rw [← nI_0] at c_45
            have d_45 : ¬ w = 0 := fun q => c_45 ((nI_eq (by omega) (by omega)).mpr q)
            refine g_iload_n hC dX7_ofReading_57 rfl 2 rfl ?_
            refine g_iconst (v := nI 1) hC dX7_ofReading_58 (by decide) ?_
            refine g_icmp_ne hC 71 dX7_ofReading_59 (by decide) (fun c_59 => ?_) (fun c_59 => ?_)
            · have d_59 : ¬ w = 1 := fun q => c_59 ((nI_eq (by omega) (by omega)).mpr q)
              refine g_iload_n hC dX7_ofReading_71 rfl 2 rfl ?_
              refine g_iconst (v := nI 2) hC dX7_ofReading_72 (by decide) ?_
              refine g_icmp_ne hC 85 dX7_ofReading_73 (by decide) (fun c_73 => ?_) (fun c_73 => ?_)
              · have d_73 : ¬ w = 2 := fun q => c_73 ((nI_eq (by omega) (by omega)).mpr q)
                refine g_aload_n hC dX7_ofReading_85 rfl 0 rfl ?_
                refine gf_X7_72 hC dX7_ofReading_86 ?_
                refine g_iload_n hC dX7_ofReading_89 rfl 1 rfl ?_
                refine n_zald hC 70 aa_70 q (show q < 100 by omega) dX7_ofReading_90 ?_
                refine g_eqI (x' := I 22 q) (by rw [m70]) ?_
                refine g_if_eq hC 98 dX7_ofReading_91 (by decide) (fun c_91 => ?_) (fun c_91 => ?_)
                · refine g_iconst (v := nI 0) hC dX7_ofReading_98 (by decide) ?_
                  exact g_iret hC hr dX7_ofReading_99 (Nat.le_of_ble_eq_true rfl) (Nat.le_of_ble_eq_true rfl) (qQ_o hz pk_us (fv_7 _ _) (gK_rf I) (fq_rf J) (⟨q, hq, rfl, Or.inr (Or.inr (Or.inr (Or.inl ⟨(by rw [show w = 3 by omega]), by first | (rw [c_91]; rfl) | (rw [(hb22 q).resolve_left c_91]; rfl)⟩)))⟩))
                · refine g_iconst (v := nI 1) hC dX7_ofReading_94 (by decide) ?_
                  refine g_goto hC 99 dX7_ofReading_95 (by decide) ?_
                  exact g_iret hC hr dX7_ofReading_99 (Nat.le_of_ble_eq_true rfl) (Nat.le_of_ble_eq_true rfl) (qQ_o hz pk_us (fv_7 _ _) (gK_rf I) (fq_rf J) (⟨q, hq, rfl, Or.inr (Or.inr (Or.inr (Or.inl ⟨(by rw [show w = 3 by omega]), by first | (rw [c_91]; rfl) | (rw [(hb22 q).resolve_left c_91]; rfl)⟩)))⟩))
              · have d_73 : w = 2 := (nI_eq (by omega) (by omega)).mp c_73
                refine g_aload_n hC dX7_ofReading_76 rfl 0 rfl ?_
                refine gf_X7_69 hC dX7_ofReading_77 ?_
                refine g_iload_n hC dX7_ofReading_80 rfl 1 rfl ?_
                refine n_iald hC 69 aa_69 q (show q < 100 by omega) dX7_ofReading_81 ?_
                refine g_eqI (x' := I 21 q) (by rw [m69]) ?_
                refine g_goto hC 99 dX7_ofReading_82 (by decide) ?_
                exact g_iret hC hr dX7_ofReading_99 (Nat.le_of_ble_eq_true rfl) (Nat.le_of_ble_eq_true rfl) (qQ_o hz pk_us (fv_7 _ _) (gK_rf I) (fq_rf J) (⟨q, hq, rfl, Or.inr (Or.inr (Or.inl ⟨(by rw [show w = 2 by omega]), rfl⟩))⟩))
            · have d_59 : w = 1 := (nI_eq (by omega) (by omega)).mp c_59
              refine g_aload_n hC dX7_ofReading_62 rfl 0 rfl ?_
              refine gf_X7_66 hC dX7_ofReading_63 ?_
              refine g_iload_n hC dX7_ofReading_66 rfl 1 rfl ?_
              refine n_iald hC 68 aa_68 q (show q < 100 by omega) dX7_ofReading_67 ?_
              refine g_eqI (x' := I 20 q) (by rw [m68]) ?_
              refine g_goto hC 99 dX7_ofReading_68 (by decide) ?_
              exact g_iret hC hr dX7_ofReading_99 (Nat.le_of_ble_eq_true rfl) (Nat.le_of_ble_eq_true rfl) (qQ_o hz pk_us (fv_7 _ _) (gK_rf I) (fq_rf J) (⟨q, hq, rfl, Or.inr (Or.inl ⟨(by rw [show w = 1 by omega]), rfl⟩)⟩))
          · rw [← nI_0] at c_45
            have d_45 : w = 0 := (nI_eq (by omega) (by omega)).mp c_45
            refine g_aload_n hC dX7_ofReading_48 rfl 0 rfl ?_
            refine gf_X7_63 hC dX7_ofReading_49 ?_
            refine g_iload_n hC dX7_ofReading_52 rfl 1 rfl ?_
            refine n_iald hC 67 aa_67 q (show q < 100 by omega) dX7_ofReading_53 ?_
            refine g_eqI (x' := I 19 q) (by rw [m67]) ?_
            refine g_goto hC 99 dX7_ofReading_54 (by decide) ?_
            exact g_iret hC hr dX7_ofReading_99 (Nat.le_of_ble_eq_true rfl) (Nat.le_of_ble_eq_true rfl) (qQ_o hz pk_us (fv_7 _ _) (gK_rf I) (fq_rf J) (⟨q, hq, rfl, Or.inl ⟨(by rw [show w = 0 by omega]), rfl⟩⟩))
      · exact absurd c_34 (by decide)
  · have e_6 := b10_f c_6
    refine g_iconst (v := nI 1) hC dX7_ofReading_9 (by decide) ?_
    refine g_goto hC 27 dX7_ofReading_10 (by decide) ?_
    refine gp_X7_103 hC dX7_ofReading_27 ?_
    refine g_aload_n hC dX7_ofReading_30 rfl 0 rfl ?_
    refine gf_X7_103 hC dX7_ofReading_31 ?_
    refine g_eqI (x' := nI 1) (by rw [pk_us]) ?_
    refine g_if_le hC 39 dX7_ofReading_34 (by decide) (fun c_34 => ?_) (fun c_34 => ?_)
    · exact absurd c_34 (by decide)
    · refine g_iconst (v := nI 0) hC dX7_ofReading_37 (by decide) ?_
      exact g_iret hC hr dX7_ofReading_38 (Nat.le_of_ble_eq_true rfl) (Nat.le_of_ble_eq_true rfl) (qQ_x (by have hz : tcOfR n p0 p1 = 1 := (by simp [tcOfR, e_6]); exact hz) (by decide) pk_us (fv_7 _ _) (gK_rf I) (fq_rf J))
