set_option maxRecDepth 100000 in
theorem m_X6_isDoubleNow {l : Launch} {G : wG} (hl : l.stackTraces = false) (hG : wD G) (V : wV) (I : wI) (J : wJ) (nr n ns : Nat) (v2 : V 2 = nI nr) (v4 : V 4 = nI ns) (v5 : V 5 = nI n) (hw : wfC I nr n ns) (hz : ∀ r, I 28 r = 0 ∨ I 28 r = 1) (r : Nat) (h1 : r < n) : Ctr l yX6_isDoubleNow cX6_isDoubleNow 2 (some .boolean) { frames := 6, cells := 0, slots := 0, locals := 154 } G [.ref (G.2.1 0), .int (nI r)] V I J (fun r9 V9 I9 J9 => r9 = some (.int (if I 22 r = 0 then (fj nr ns (tn (I 20 r)) I n).2.2 28 r else nI 0)) ∧ scr V I J V9 I9 J9) (noX) := by
  refine ctr_of hl hG (by decide) (Nat.le_of_ble_eq_true rfl) [(0, .ref (G.2.1 0)), (1, .int (nI r))] rfl ?_
  intro K hC hKl hRm hr hT
  subst hKl
  have hC : Cx K G RX6 cX6_isDoubleNow 2 := hC
  obtain ⟨w1, w2, w3, w4, w5, w6, w7⟩ := id hw
  have w24 := w1.1
  obtain ⟨pr1, pr2⟩ := vin_tn (w6 r h1).2 (by decide)
  refine g_aload_n hC dX6_isDoubleNow_0 rfl 0 rfl ?_
  refine gf_X6_33 hC dX6_isDoubleNow_1 ?_
  refine gf_X6_138 hC dX6_isDoubleNow_4 ?_
  refine g_iload_n hC dX6_isDoubleNow_7 rfl 1 rfl ?_
  refine n_zald hC 22 aa_22 r (show r < 100 by omega) dX6_isDoubleNow_8 ?_
  refine g_if_eq hC 14 dX6_isDoubleNow_9 (by decide) (fun c_9 => ?_) (fun c_9 => ?_)
  · refine g_aload_n hC dX6_isDoubleNow_14 rfl 0 rfl ?_
    refine g_aload_n hC dX6_isDoubleNow_15 rfl 0 rfl ?_
    refine gf_X6_33 hC dX6_isDoubleNow_16 ?_
    refine gf_X6_208 hC dX6_isDoubleNow_19 ?_
    refine g_iload_n hC dX6_isDoubleNow_22 rfl 1 rfl ?_
    refine n_iald hC 20 aa_20 r (show r < 100 by omega) dX6_isDoubleNow_23 ?_
    refine g_eqI (x' := nI (tn (I 20 r))) pr2 ?_
    refine g_cV hC [.int (nI (tn (I 20 r)))] 0 (m_X6_findJourneys hl hG V I J nr n ns v2 v4 v5 hw (tn (I 20 r)) pr1) rfl (st2 := []) rfl (by decide) rfl rfl rfl tw_259 tw_261 tw_0 tw_31 tw_262 pd_X6_findJourneys ⟨rfl, rfl⟩ (by rw [hRm]; exact ⟨Nat.le_of_ble_eq_true rfl, Nat.le_of_ble_eq_true rfl, Nat.le_of_ble_eq_true rfl, Nat.le_of_ble_eq_true rfl⟩) (Nat.le_of_ble_eq_true rfl) dX6_isDoubleNow_24 ?_
    refine g_aload_n hC dX6_isDoubleNow_27 rfl 0 rfl ?_
    refine gf_X6_40 hC dX6_isDoubleNow_28 ?_
    refine gf_X6_299 hC dX6_isDoubleNow_31 ?_
    refine g_iload_n hC dX6_isDoubleNow_34 rfl 1 rfl ?_
    refine n_zald hC 28 aa_28 r (show r < 100 by omega) dX6_isDoubleNow_35 ?_
    exact g_zret hC (z28_fj hw hz n (Nat.le_refl _) r) hr dX6_isDoubleNow_36 (Nat.le_of_ble_eq_true rfl) (Nat.le_of_ble_eq_true rfl) ⟨by rw [if_pos c_9], scr_fj hw hz⟩
  · refine g_iconst (v := nI 0) hC dX6_isDoubleNow_12 (by decide) ?_
    exact g_zret hC (by first | exact Or.inl rfl | exact Or.inr rfl) hr dX6_isDoubleNow_13 (Nat.le_of_ble_eq_true rfl) (Nat.le_of_ble_eq_true rfl) ⟨by rw [if_neg c_9], scr_rf hz⟩

set_option maxRecDepth 100000 in
theorem m_X6_journeyNow {l : Launch} {G : wG} (hl : l.stackTraces = false) (hG : wD G) (V : wV) (I : wI) (J : wJ) (nr n ns : Nat) (v2 : V 2 = nI nr) (v4 : V 4 = nI ns) (v5 : V 5 = nI n) (hw : wfC I nr n ns) (hz : ∀ r, I 28 r = 0 ∨ I 28 r = 1) (r : Nat) (h1 : r < n) : Ctr l yX6_journeyNow cX6_journeyNow 2 (some .int) { frames := 6, cells := 0, slots := 0, locals := 154 } G [.ref (G.2.1 0), .int (nI r)] V I J (fun r9 V9 I9 J9 => r9 = some (.int (if I 22 r = 0 then (fj nr ns (tn (I 20 r)) I n).2.2 27 r else -1)) ∧ scr V I J V9 I9 J9) (noX) := by
  refine ctr_of hl hG (by decide) (Nat.le_of_ble_eq_true rfl) [(0, .ref (G.2.1 0)), (1, .int (nI r))] rfl ?_
  intro K hC hKl hRm hr hT
  subst hKl
  have hC : Cx K G RX6 cX6_journeyNow 2 := hC
  obtain ⟨w1, w2, w3, w4, w5, w6, w7⟩ := id hw
  have w24 := w1.1
  obtain ⟨pr1, pr2⟩ := vin_tn (w6 r h1).2 (by decide)
  refine g_aload_n hC dX6_journeyNow_0 rfl 0 rfl ?_
  refine gf_X6_33 hC dX6_journeyNow_1 ?_
  refine gf_X6_138 hC dX6_journeyNow_4 ?_
  refine g_iload_n hC dX6_journeyNow_7 rfl 1 rfl ?_
  refine n_zald hC 22 aa_22 r (show r < 100 by omega) dX6_journeyNow_8 ?_
  refine g_if_eq hC 14 dX6_journeyNow_9 (by decide) (fun c_9 => ?_) (fun c_9 => ?_)
  · refine g_aload_n hC dX6_journeyNow_14 rfl 0 rfl ?_
    refine g_aload_n hC dX6_journeyNow_15 rfl 0 rfl ?_
    refine gf_X6_33 hC dX6_journeyNow_16 ?_
    refine gf_X6_208 hC dX6_journeyNow_19 ?_
    refine g_iload_n hC dX6_journeyNow_22 rfl 1 rfl ?_
    refine n_iald hC 20 aa_20 r (show r < 100 by omega) dX6_journeyNow_23 ?_
    refine g_eqI (x' := nI (tn (I 20 r))) pr2 ?_
    refine g_cV hC [.int (nI (tn (I 20 r)))] 0 (m_X6_findJourneys hl hG V I J nr n ns v2 v4 v5 hw (tn (I 20 r)) pr1) rfl (st2 := []) rfl (by decide) rfl rfl rfl tw_259 tw_261 tw_0 tw_31 tw_262 pd_X6_findJourneys ⟨rfl, rfl⟩ (by rw [hRm]; exact ⟨Nat.le_of_ble_eq_true rfl, Nat.le_of_ble_eq_true rfl, Nat.le_of_ble_eq_true rfl, Nat.le_of_ble_eq_true rfl⟩) (Nat.le_of_ble_eq_true rfl) dX6_journeyNow_24 ?_
    refine g_aload_n hC dX6_journeyNow_27 rfl 0 rfl ?_
    refine gf_X6_40 hC dX6_journeyNow_28 ?_
    refine gf_X6_257 hC dX6_journeyNow_31 ?_
    refine g_iload_n hC dX6_journeyNow_34 rfl 1 rfl ?_
    refine n_iald hC 27 aa_27 r (show r < 100 by omega) dX6_journeyNow_35 ?_
    exact g_iret hC hr dX6_journeyNow_36 (Nat.le_of_ble_eq_true rfl) (Nat.le_of_ble_eq_true rfl) ⟨by rw [if_pos c_9], scr_fj hw hz⟩
  · refine g_iconst (v := (-1)) hC dX6_journeyNow_12 (by decide) ?_
    exact g_iret hC hr dX6_journeyNow_13 (Nat.le_of_ble_eq_true rfl) (Nat.le_of_ble_eq_true rfl) ⟨by rw [if_neg c_9], scr_rf hz⟩

set_option maxRecDepth 100000 in
theorem m_X6_dueToOwner {l : Launch} {G : wG} (hl : l.stackTraces = false) (hG : wD G) (V : wV) (I : wI) (J : wJ) (nr n ns : Nat) (v2 : V 2 = nI nr) (v4 : V 4 = nI ns) (v5 : V 5 = nI n) (hw : wfC I nr n ns) (hz : ∀ r, I 28 r = 0 ∨ I 28 r = 1) (o : Nat) (h1 : o < 4) : Ctr l yX6_dueToOwner cX6_dueToOwner 5 (some .long) { frames := 6, cells := 0, slots := 0, locals := 154 } G [.ref (G.2.1 0), .int (nI o)] V I J (fun r9 V9 I9 J9 => r9 = some (.long (dO nr ns n o V I 10).1) ∧ scr V I J V9 I9 J9) (noX) := by
  refine ctr_of hl hG (by decide) (Nat.le_of_ble_eq_true rfl) [(0, .ref (G.2.1 0)), (1, .int (nI o))] rfl ?_
  intro K hC hKl hRm hr hT
  subst hKl
  have hC : Cx K G RX6 cX6_dueToOwner 5 := hC
  obtain ⟨w1, w2, w3, w4, w5, w6, w7⟩ := id hw
  have w24 := w1.1
  have lp_5 : ∀ (k9 : Nat) (p : Nat) (hp : p ≤ 10) (hk : 10 < p + k9), WW K G 0 0 (QM K G { frames := 6, cells := 0, slots := 0, locals := 154 } (fun r9 V9 I9 J9 => r9 = some (.long (dO nr ns n o V I 10).1) ∧ scr V I J V9 I9 J9) (noX)) ((dO nr ns n o V I p).2.1) ((dO nr ns n o V I p).2.2) J 5 [(4, .int (nI p)), (2, .long ((dO nr ns n o V I p).1)), (0, .ref (G.2.1 0)), (1, .int (nI o))] [] := by
    intro k9
    induction k9 with
    | zero =>
      intro p hp hk
      omega
    | succ k9 ih =>
      intro p hp hk
      have hs := dO_ok (V := V) (J := J) (o := o) hw hz p
      have hwx := wfC_x hw hs.2.1
      have hfc := (fj_ok (plate := p) hwx n (Nat.le_refl _)).1
      refine g_iload hC dX6_dueToOwner_5 0 rfl ?_
      refine g_bipush (v := nI 10) hC dX6_dueToOwner_7 (by decide) ?_
      refine g_icmp_ge hC 46 dX6_dueToOwner_9 (by decide) (fun c_9 => ?_) (fun c_9 => ?_)
      · have d_9 : 10 ≤ p := (nI_leI (by omega) (by omega)).mp c_9
        refine g_lload_n hC dX6_dueToOwner_46 rfl 1 rfl ?_
        have ep : p = 10 := by omega
        subst ep
        exact g_lret hC hr dX6_dueToOwner_47 (Nat.le_of_ble_eq_true rfl) (Nat.le_of_ble_eq_true rfl) ⟨rfl, dO_ok hw hz 10⟩
      · have d_9 : ¬ 10 ≤ p := fun q => c_9 ((nI_leI (by omega) (by omega)).mpr q)
        refine g_aload_n hC dX6_dueToOwner_12 rfl 2 rfl ?_
        refine g_iload hC dX6_dueToOwner_13 0 rfl ?_
        refine g_cV hC [.int (nI p)] 0 (m_X6_findJourneys hl hG (dO nr ns n o V I p).2.1 (dO nr ns n o V I p).2.2 J nr n ns ((hs.1 2 (by decide)).trans v2) ((hs.1 4 (by decide)).trans v4) ((hs.1 5 (by decide)).trans v5) hwx p (by omega)) rfl (st2 := []) rfl (by decide) rfl rfl rfl tw_259 tw_261 tw_0 tw_31 tw_262 pd_X6_findJourneys ⟨rfl, rfl⟩ (by rw [hRm]; exact ⟨Nat.le_of_ble_eq_true rfl, Nat.le_of_ble_eq_true rfl, Nat.le_of_ble_eq_true rfl, Nat.le_of_ble_eq_true rfl⟩) (Nat.le_of_ble_eq_true rfl) dX6_dueToOwner_15 ?_
        refine g_lload_n hC dX6_dueToOwner_18 rfl 1 rfl ?_
        refine g_aload_n hC dX6_dueToOwner_19 rfl 2 rfl ?_
        refine gf_X6_40 hC dX6_dueToOwner_20 ?_
        refine g_iload_n hC dX6_dueToOwner_23 rfl 3 rfl ?_
        refine g_aload_n hC dX6_dueToOwner_24 rfl 2 rfl ?_
        refine gf_X6_51 hC dX6_dueToOwner_25 ?_
        refine g_eqI (x' := V 0) (by rw [pk_un (by decide), hs.1 0 (by decide)]) ?_
        refine g_aload_n hC dX6_dueToOwner_28 rfl 2 rfl ?_
        refine gf_X6_19 hC dX6_dueToOwner_29 ?_
        refine gf_X6_99 hC dX6_dueToOwner_32 ?_
        refine g_eqI (x' := V 3) (by rw [pk_un (by decide), hs.1 3 (by decide)]) ?_
        refine g_cV hC [.int (nI o), .int (V 0), .int (V 3)] 5 (m_X1_sumShares hl hG (upd (dO nr ns n o V I p).2.1 6 (nI (fj nr ns p (dO nr ns n o V I p).2.2 n).1)) (fj nr ns p (dO nr ns n o V I p).2.2 n).2.2 J (fj nr ns p (dO nr ns n o V I p).2.2 n).1 o (V 0) (V 3) pk_us (by omega) h1) rfl (st2 := [.long (sS (fj nr ns p (dO nr ns n o V I p).2.2 n).2.2 o (V 0) (V 3) (fj nr ns p (dO nr ns n o V I p).2.2 n).1), .long ((dO nr ns n o V I p).1)]) rfl (by decide) rfl rfl rfl tw_350 tw_351 tw_352 tw_36 tw_353 pd_X1_sumShares ⟨rfl, rfl⟩ (by rw [hRm]; exact ⟨Nat.le_of_ble_eq_true rfl, Nat.le_of_ble_eq_true rfl, Nat.le_of_ble_eq_true rfl, Nat.le_of_ble_eq_true rfl⟩) (Nat.le_of_ble_eq_true rfl) dX6_dueToOwner_35 ?_
        refine g_ladd hC dX6_dueToOwner_38 ?_
        refine g_lstore_n hC [(2, .long (((dO nr ns n o V I p).1) + (sS (fj nr ns p (dO nr ns n o V I p).2.2 n).2.2 o (V 0) (V 3) (fj nr ns p (dO nr ns n o V I p).2.2 n).1))), (4, .int (nI p)), (0, .ref (G.2.1 0)), (1, .int (nI o))] dX6_dueToOwner_39 rfl (by decide) rfl ?_
        refine g_iinc (v := nI (p + 1)) hC [(4, .int (nI (p + 1))), (2, .long (((dO nr ns n o V I p).1) + (sS (fj nr ns p (dO nr ns n o V I p).2.2 n).2.2 o (V 0) (V 3) (fj nr ns p (dO nr ns n o V I p).2.2 n).1))), (0, .ref (G.2.1 0)), (1, .int (nI o))] dX6_dueToOwner_40 1 rfl (nI_i1 _) (by decide) rfl ?_
        refine g_goto hC 5 dX6_dueToOwner_43 (by decide) ?_
        exact ih (p + 1) (by omega) (by omega)
  refine g_lconst (v := 0) hC dX6_dueToOwner_0 (by decide) ?_
  refine g_lstore_n hC [(2, .long 0), (0, .ref (G.2.1 0)), (1, .int (nI o))] dX6_dueToOwner_1 rfl (by decide) rfl ?_
  refine g_iconst (v := nI 0) hC dX6_dueToOwner_2 (by decide) ?_
  refine g_istore hC [(4, .int (nI 0)), (2, .long 0), (0, .ref (G.2.1 0)), (1, .int (nI o))] dX6_dueToOwner_3 (by decide) rfl ?_
  exact lp_5 11 0 (by omega) (by omega)

theorem m_X0_chargeC {l : Launch} {G : wG} (hl : l.stackTraces = false) (hG : wD G) (V : wV) (I : wI) (J : wJ) (p : Nat) (hv : Int32) (due : Int64) (h1 : p < 10) (h : hv = -1 ∨ vp_in hv 6) : Ctr l yX0_charge cX0_charge 7 (some .long) { frames := 0, cells := 0, slots := 0, locals := 0 } G [.ref (G.2.1 6), .int (nI p), .int hv, .long due] V I J (pU (some (.long (due - J 31 p))) V I (chJ J p hv due)) noX := by
  rcases h with h | h
  · subst h
    exact m_X0_chargeN hl hG V I J p due h1
  · obtain ⟨h2, h3⟩ := vin_tn h (by decide)
    have hne : ¬ hv = -1 := by rw [h3]; exact nI_m1 (by omega)
    have hc : chJ J p hv due = sJ (sJ J 31 p due) 29 (tn hv) (J 29 (tn hv) - (due - J 31 p)) := if_neg hne
    rw [hc]
    have hm := m_X0_charge hl hG V I J p (tn hv) due h1 h2
    rw [← h3] at hm
    exact hm

set_option maxRecDepth 100000 in
theorem m_X6_bill {l : Launch} {G : wG} (hl : l.stackTraces = false) (hG : wD G) (V : wV) (I : wI) (J : wJ) (nr n ns : Nat) (v2 : V 2 = nI nr) (v4 : V 4 = nI ns) (v5 : V 5 = nI n) (hw : wfC I nr n ns) (hz : ∀ r, I 28 r = 0 ∨ I 28 r = 1) (hh : ∀ p, p < 10 → I 15 p = -1 ∨ vp_in (I 15 p) 6) : Ctr l yX6_bill cX6_bill 7 (some .long) { frames := 6, cells := 0, slots := 0, locals := 154 } G [.ref (G.2.1 0)] V I J (fun r9 V9 I9 J9 => r9 = some (.long (blS nr ns n V I J 10).1) ∧ V9 = (blS nr ns n V I J 10).2.1 ∧ I9 = (blS nr ns n V I J 10).2.2.1 ∧ J9 = (blS nr ns n V I J 10).2.2.2) (noX) := by
  refine ctr_of hl hG (by decide) (Nat.le_of_ble_eq_true rfl) [(0, .ref (G.2.1 0))] rfl ?_
  intro K hC hKl hRm hr hT
  subst hKl
  have hC : Cx K G RX6 cX6_bill 7 := hC
  obtain ⟨w1, w2, w3, w4, w5, w6, w7⟩ := id hw
  have w24 := w1.1
  have lp_11 : ∀ (k9 : Nat) (p : Nat) (hp : p ≤ 10) (hk : 10 < p + k9), WW K G 0 0 (QM K G { frames := 6, cells := 0, slots := 0, locals := 154 } (fun r9 V9 I9 J9 => r9 = some (.long (blS nr ns n V I J 10).1) ∧ V9 = (blS nr ns n V I J 10).2.1 ∧ I9 = (blS nr ns n V I J 10).2.2.1 ∧ J9 = (blS nr ns n V I J 10).2.2.2) (noX)) ((blS nr ns n V I J p).2.1) ((blS nr ns n V I J p).2.2.1) ((blS nr ns n V I J p).2.2.2) 11 [(3, .int (nI p)), (1, .long ((blS nr ns n V I J p).1)), (0, .ref (G.2.1 0))] [] := by
    intro k9
    induction k9 with
    | zero =>
      intro p hp hk
      omega
    | succ k9 ih =>
      intro p hp hk
      have hs := blS_ok (V := V) (J := J) hw hz p
      have hwx := wfC_x hw hs.2.1
      have hfo := fj_ok (plate := p) hwx n (Nat.le_refl _)
      have hfc := hfo.1
      have h15 : (fj nr ns p (blS nr ns n V I J p).2.2.1 n).2.2 15 p = (blS nr ns n V I J p).2.2.1 15 p := by rw [hfo.2.1 15 (by omega)]
      refine g_iload_n hC dX6_bill_11 rfl 0 rfl ?_
      refine g_bipush (v := nI 10) hC dX6_bill_12 (by decide) ?_
      refine g_icmp_ge hC 118 dX6_bill_14 (by decide) (fun c_14 => ?_) (fun c_14 => ?_)
      · have d_14 : 10 ≤ p := (nI_leI (by omega) (by omega)).mp c_14
        refine g_lload_n hC dX6_bill_118 rfl 1 rfl ?_
        have ep : p = 10 := by omega
        subst ep
        exact g_lret hC hr dX6_bill_119 (Nat.le_of_ble_eq_true rfl) (Nat.le_of_ble_eq_true rfl) ⟨rfl, rfl, rfl, rfl⟩
      · have d_14 : ¬ 10 ≤ p := fun q => c_14 ((nI_leI (by omega) (by omega)).mpr q)
        refine g_aload_n hC dX6_bill_17 rfl 2 rfl ?_
        refine g_iload_n hC dX6_bill_18 rfl 0 rfl ?_
        refine g_cV hC [.int (nI p)] 0 (m_X6_findJourneys hl hG (blS nr ns n V I J p).2.1 (blS nr ns n V I J p).2.2.1 (blS nr ns n V I J p).2.2.2 nr n ns ((hs.1 2 (by decide)).trans v2) ((hs.1 4 (by decide)).trans v4) ((hs.1 5 (by decide)).trans v5) hwx p (by omega)) rfl (st2 := []) rfl (by decide) rfl rfl rfl tw_259 tw_261 tw_0 tw_31 tw_262 pd_X6_findJourneys ⟨rfl, rfl⟩ (by rw [hRm]; exact ⟨Nat.le_of_ble_eq_true rfl, Nat.le_of_ble_eq_true rfl, Nat.le_of_ble_eq_true rfl, Nat.le_of_ble_eq_true rfl⟩) (Nat.le_of_ble_eq_true rfl) dX6_bill_19 ?_
        refine g_aload_n hC dX6_bill_22 rfl 2 rfl ?_
        refine gf_X6_40 hC dX6_bill_23 ?_
        refine g_aload_n hC dX6_bill_26 rfl 2 rfl ?_
        refine gf_X6_51 hC dX6_bill_27 ?_
        refine g_eqI (x' := V 0) (by rw [pk_un (by decide), hs.1 0 (by decide)]) ?_
        refine g_aload_n hC dX6_bill_30 rfl 2 rfl ?_
        refine gf_X6_19 hC dX6_bill_31 ?_
        refine gf_X6_99 hC dX6_bill_34 ?_
        refine g_eqI (x' := V 3) (by rw [pk_un (by decide), hs.1 3 (by decide)]) ?_
        refine g_cV hC [.int (V 0), .int (V 3)] 5 (m_X1_sumFares hl hG (upd (blS nr ns n V I J p).2.1 6 (nI (fj nr ns p (blS nr ns n V I J p).2.2.1 n).1)) (fj nr ns p (blS nr ns n V I J p).2.2.1 n).2.2 (blS nr ns n V I J p).2.2.2 (fj nr ns p (blS nr ns n V I J p).2.2.1 n).1 (V 0) (V 3) pk_us (by omega)) rfl (st2 := [.long (sF (fj nr ns p (blS nr ns n V I J p).2.2.1 n).2.2 (V 0) (V 3) (fj nr ns p (blS nr ns n V I J p).2.2.1 n).1)]) rfl (by decide) rfl rfl rfl tw_327 tw_328 tw_329 tw_36 tw_330 pd_X1_sumFares ⟨rfl, rfl⟩ (by rw [hRm]; exact ⟨Nat.le_of_ble_eq_true rfl, Nat.le_of_ble_eq_true rfl, Nat.le_of_ble_eq_true rfl, Nat.le_of_ble_eq_true rfl⟩) (Nat.le_of_ble_eq_true rfl) dX6_bill_37 ?_
        refine g_lstore hC [(4, .long (sF (fj nr ns p (blS nr ns n V I J p).2.2.1 n).2.2 (V 0) (V 3) (fj nr ns p (blS nr ns n V I J p).2.2.1 n).1)), (3, .int (nI p)), (1, .long ((blS nr ns n V I J p).1)), (0, .ref (G.2.1 0))] dX6_bill_40 (by decide) rfl ?_
        refine g_lload_n hC dX6_bill_42 rfl 2 rfl ?_
        refine g_aload_n hC dX6_bill_43 rfl 3 rfl ?_
        refine gf_X6_47 hC dX6_bill_44 ?_
        refine g_iload_n hC dX6_bill_47 rfl 1 rfl ?_
        refine g_aload_n hC dX6_bill_48 rfl 3 rfl ?_
        refine gf_X6_26 hC dX6_bill_49 ?_
        refine gf_X6_108 hC dX6_bill_52 ?_
        refine g_iload_n hC dX6_bill_55 rfl 1 rfl ?_
        refine n_iald hC 15 aa_15 p (show p < 10 by omega) dX6_bill_56 ?_
        refine g_eqI (x' := (blS nr ns n V I J p).2.2.1 15 p) h15 ?_
        refine g_lload hC dX6_bill_57 0 rfl ?_
        refine g_cV hC [.int (nI p), .int ((blS nr ns n V I J p).2.2.1 15 p), .long (sF (fj nr ns p (blS nr ns n V I J p).2.2.1 n).2.2 (V 0) (V 3) (fj nr ns p (blS nr ns n V I J p).2.2.1 n).1)] 6 (m_X0_chargeC hl hG (upd (blS nr ns n V I J p).2.1 6 (nI (fj nr ns p (blS nr ns n V I J p).2.2.1 n).1)) (fj nr ns p (blS nr ns n V I J p).2.2.1 n).2.2 (blS nr ns n V I J p).2.2.2 p ((blS nr ns n V I J p).2.2.1 15 p) (sF (fj nr ns p (blS nr ns n V I J p).2.2.1 n).2.2 (V 0) (V 3) (fj nr ns p (blS nr ns n V I J p).2.2.1 n).1) (by omega) (by rw [hs.2.1 15 (by omega)]; exact hh p (by omega))) rfl (st2 := [.long (sF (fj nr ns p (blS nr ns n V I J p).2.2.1 n).2.2 (V 0) (V 3) (fj nr ns p (blS nr ns n V I J p).2.2.1 n).1 - (blS nr ns n V I J p).2.2.2 31 p), .long ((blS nr ns n V I J p).1)]) rfl (by decide) rfl rfl rfl tw_346 tw_347 tw_348 tw_37 tw_349 pd_X0_charge ⟨rfl, rfl⟩ (by rw [hRm]; exact ⟨Nat.le_of_ble_eq_true rfl, Nat.le_of_ble_eq_true rfl, Nat.le_of_ble_eq_true rfl, Nat.le_of_ble_eq_true rfl⟩) (Nat.le_of_ble_eq_true rfl) dX6_bill_59 ?_
        refine g_ladd hC dX6_bill_62 ?_
        refine g_lstore_n hC [(1, .long (((blS nr ns n V I J p).1) + (sF (fj nr ns p (blS nr ns n V I J p).2.2.1 n).2.2 (V 0) (V 3) (fj nr ns p (blS nr ns n V I J p).2.2.1 n).1 - (blS nr ns n V I J p).2.2.2 31 p))), (4, .long (sF (fj nr ns p (blS nr ns n V I J p).2.2.1 n).2.2 (V 0) (V 3) (fj nr ns p (blS nr ns n V I J p).2.2.1 n).1)), (3, .int (nI p)), (0, .ref (G.2.1 0))] dX6_bill_63 rfl (by decide) rfl ?_
        refine g_iconst (v := nI 0) hC dX6_bill_64 (by decide) ?_
        refine g_istore hC [(6, .int (nI 0)), (1, .long (((blS nr ns n V I J p).1) + (sF (fj nr ns p (blS nr ns n V I J p).2.2.1 n).2.2 (V 0) (V 3) (fj nr ns p (blS nr ns n V I J p).2.2.1 n).1 - (blS nr ns n V I J p).2.2.2 31 p))), (4, .long (sF (fj nr ns p (blS nr ns n V I J p).2.2.1 n).2.2 (V 0) (V 3) (fj nr ns p (blS nr ns n V I J p).2.2.1 n).1)), (3, .int (nI p)), (0, .ref (G.2.1 0))] dX6_bill_65 (by decide) rfl ?_
        refine g_iload hC dX6_bill_67 0 rfl ?_
        refine g_iconst (v := nI 4) hC dX6_bill_69 (by decide) ?_
        refine g_icmp_ge hC 112 dX6_bill_70 (by decide) (fun c_70 => ?_) (fun c_70 => ?_)
        · exact absurd c_70 (by decide)
        · refine g_aload_n hC dX6_bill_73 rfl 4 rfl ?_
          refine gf_X6_47 hC dX6_bill_74 ?_
          refine gf_X6_160 hC dX6_bill_77 ?_
          refine g_iload hC dX6_bill_80 0 rfl ?_
          refine g_dup2 hC dX6_bill_82 rfl rfl ?_
          refine n_lald hC 32 aa_32 0 (show 0 < 4 by omega) dX6_bill_83 ?_
          refine g_aload_n hC dX6_bill_84 rfl 4 rfl ?_
          refine gf_X6_40 hC dX6_bill_85 ?_
          refine g_iload hC dX6_bill_88 0 rfl ?_
          refine g_aload_n hC dX6_bill_90 rfl 4 rfl ?_
          refine gf_X6_51 hC dX6_bill_91 ?_
          refine g_eqI (x' := V 0) (by rw [pk_un (by decide), hs.1 0 (by decide)]) ?_
          refine g_aload_n hC dX6_bill_94 rfl 4 rfl ?_
          refine gf_X6_19 hC dX6_bill_95 ?_
          refine gf_X6_99 hC dX6_bill_98 ?_
          refine g_eqI (x' := V 3) (by rw [pk_un (by decide), hs.1 3 (by decide)]) ?_
          refine g_cV hC [.int (nI 0), .int (V 0), .int (V 3)] 5 (m_X1_sumShares hl hG (upd (blS nr ns n V I J p).2.1 6 (nI (fj nr ns p (blS nr ns n V I J p).2.2.1 n).1)) (fj nr ns p (blS nr ns n V I J p).2.2.1 n).2.2 (blJ nr ns n V p (blS nr ns n V I J p) 0) (fj nr ns p (blS nr ns n V I J p).2.2.1 n).1 0 (V 0) (V 3) pk_us (by omega) (by omega)) rfl (st2 := [.long (sS (fj nr ns p (blS nr ns n V I J p).2.2.1 n).2.2 0 (V 0) (V 3) (fj nr ns p (blS nr ns n V I J p).2.2.1 n).1), .long ((blJ nr ns n V p (blS nr ns n V I J p) 0) 32 0), .int (nI 0), .ref (G.2.1 32)]) rfl (by decide) rfl rfl rfl tw_350 tw_351 tw_352 tw_36 tw_353 pd_X1_sumShares ⟨rfl, rfl⟩ (by rw [hRm]; exact ⟨Nat.le_of_ble_eq_true rfl, Nat.le_of_ble_eq_true rfl, Nat.le_of_ble_eq_true rfl, Nat.le_of_ble_eq_true rfl⟩) (Nat.le_of_ble_eq_true rfl) dX6_bill_101 ?_
          refine g_ladd hC dX6_bill_104 ?_
          refine n_last hC 32 aa_32 0 (show 0 < 4 by omega) dX6_bill_105 ?_
          refine g_st (V1 := (upd (blS nr ns n V I J p).2.1 6 (nI (fj nr ns p (blS nr ns n V I J p).2.2.1 n).1))) (I1 := (fj nr ns p (blS nr ns n V I J p).2.2.1 n).2.2) (J1 := (blJ nr ns n V p (blS nr ns n V I J p) 1)) rfl rfl rfl ?_
          refine g_iinc (v := nI 1) hC [(6, .int (nI 1)), (1, .long (((blS nr ns n V I J p).1) + (sF (fj nr ns p (blS nr ns n V I J p).2.2.1 n).2.2 (V 0) (V 3) (fj nr ns p (blS nr ns n V I J p).2.2.1 n).1 - (blS nr ns n V I J p).2.2.2 31 p))), (4, .long (sF (fj nr ns p (blS nr ns n V I J p).2.2.1 n).2.2 (V 0) (V 3) (fj nr ns p (blS nr ns n V I J p).2.2.1 n).1)), (3, .int (nI p)), (0, .ref (G.2.1 0))] dX6_bill_106 0 rfl (nI_i1 _) (by decide) rfl ?_
          refine g_goto hC 67 dX6_bill_109 (by decide) ?_
          refine g_iload hC dX6_bill_67 0 rfl ?_
          refine g_iconst (v := nI 4) hC dX6_bill_69 (by decide) ?_
          refine g_icmp_ge hC 112 dX6_bill_70 (by decide) (fun c_70 => ?_) (fun c_70 => ?_)
          · exact absurd c_70 (by decide)
          · refine g_aload_n hC dX6_bill_73 rfl 4 rfl ?_
            refine gf_X6_47 hC dX6_bill_74 ?_
            refine gf_X6_160 hC dX6_bill_77 ?_
            refine g_iload hC dX6_bill_80 0 rfl ?_
            refine g_dup2 hC dX6_bill_82 rfl rfl ?_
            refine n_lald hC 32 aa_32 1 (show 1 < 4 by omega) dX6_bill_83 ?_
            refine g_aload_n hC dX6_bill_84 rfl 4 rfl ?_
            refine gf_X6_40 hC dX6_bill_85 ?_
            refine g_iload hC dX6_bill_88 0 rfl ?_
            refine g_aload_n hC dX6_bill_90 rfl 4 rfl ?_
            refine gf_X6_51 hC dX6_bill_91 ?_
            refine g_eqI (x' := V 0) (by rw [pk_un (by decide), hs.1 0 (by decide)]) ?_
            refine g_aload_n hC dX6_bill_94 rfl 4 rfl ?_
            refine gf_X6_19 hC dX6_bill_95 ?_
            refine gf_X6_99 hC dX6_bill_98 ?_
            refine g_eqI (x' := V 3) (by rw [pk_un (by decide), hs.1 3 (by decide)]) ?_
            refine g_cV hC [.int (nI 1), .int (V 0), .int (V 3)] 5 (m_X1_sumShares hl hG (upd (blS nr ns n V I J p).2.1 6 (nI (fj nr ns p (blS nr ns n V I J p).2.2.1 n).1)) (fj nr ns p (blS nr ns n V I J p).2.2.1 n).2.2 (blJ nr ns n V p (blS nr ns n V I J p) 1) (fj nr ns p (blS nr ns n V I J p).2.2.1 n).1 1 (V 0) (V 3) pk_us (by omega) (by omega)) rfl (st2 := [.long (sS (fj nr ns p (blS nr ns n V I J p).2.2.1 n).2.2 1 (V 0) (V 3) (fj nr ns p (blS nr ns n V I J p).2.2.1 n).1), .long ((blJ nr ns n V p (blS nr ns n V I J p) 1) 32 1), .int (nI 1), .ref (G.2.1 32)]) rfl (by decide) rfl rfl rfl tw_350 tw_351 tw_352 tw_36 tw_353 pd_X1_sumShares ⟨rfl, rfl⟩ (by rw [hRm]; exact ⟨Nat.le_of_ble_eq_true rfl, Nat.le_of_ble_eq_true rfl, Nat.le_of_ble_eq_true rfl, Nat.le_of_ble_eq_true rfl⟩) (Nat.le_of_ble_eq_true rfl) dX6_bill_101 ?_
            refine g_ladd hC dX6_bill_104 ?_
            refine n_last hC 32 aa_32 1 (show 1 < 4 by omega) dX6_bill_105 ?_
            refine g_st (V1 := (upd (blS nr ns n V I J p).2.1 6 (nI (fj nr ns p (blS nr ns n V I J p).2.2.1 n).1))) (I1 := (fj nr ns p (blS nr ns n V I J p).2.2.1 n).2.2) (J1 := (blJ nr ns n V p (blS nr ns n V I J p) 2)) rfl rfl rfl ?_
            refine g_iinc (v := nI 2) hC [(6, .int (nI 2)), (1, .long (((blS nr ns n V I J p).1) + (sF (fj nr ns p (blS nr ns n V I J p).2.2.1 n).2.2 (V 0) (V 3) (fj nr ns p (blS nr ns n V I J p).2.2.1 n).1 - (blS nr ns n V I J p).2.2.2 31 p))), (4, .long (sF (fj nr ns p (blS nr ns n V I J p).2.2.1 n).2.2 (V 0) (V 3) (fj nr ns p (blS nr ns n V I J p).2.2.1 n).1)), (3, .int (nI p)), (0, .ref (G.2.1 0))] dX6_bill_106 0 rfl (nI_i1 _) (by decide) rfl ?_
            refine g_goto hC 67 dX6_bill_109 (by decide) ?_
            refine g_iload hC dX6_bill_67 0 rfl ?_
            refine g_iconst (v := nI 4) hC dX6_bill_69 (by decide) ?_
            refine g_icmp_ge hC 112 dX6_bill_70 (by decide) (fun c_70 => ?_) (fun c_70 => ?_)
            · exact absurd c_70 (by decide)
            · refine g_aload_n hC dX6_bill_73 rfl 4 rfl ?_
              refine gf_X6_47 hC dX6_bill_74 ?_
              refine gf_X6_160 hC dX6_bill_77 ?_
              refine g_iload hC dX6_bill_80 0 rfl ?_
              refine g_dup2 hC dX6_bill_82 rfl rfl ?_
              refine n_lald hC 32 aa_32 2 (show 2 < 4 by omega) dX6_bill_83 ?_
              refine g_aload_n hC dX6_bill_84 rfl 4 rfl ?_
              refine gf_X6_40 hC dX6_bill_85 ?_
              refine g_iload hC dX6_bill_88 0 rfl ?_
              refine g_aload_n hC dX6_bill_90 rfl 4 rfl ?_
              refine gf_X6_51 hC dX6_bill_91 ?_
              refine g_eqI (x' := V 0) (by rw [pk_un (by decide), hs.1 0 (by decide)]) ?_
              refine g_aload_n hC dX6_bill_94 rfl 4 rfl ?_
              refine gf_X6_19 hC dX6_bill_95 ?_
              refine gf_X6_99 hC dX6_bill_98 ?_
              refine g_eqI (x' := V 3) (by rw [pk_un (by decide), hs.1 3 (by decide)]) ?_
              refine g_cV hC [.int (nI 2), .int (V 0), .int (V 3)] 5 (m_X1_sumShares hl hG (upd (blS nr ns n V I J p).2.1 6 (nI (fj nr ns p (blS nr ns n V I J p).2.2.1 n).1)) (fj nr ns p (blS nr ns n V I J p).2.2.1 n).2.2 (blJ nr ns n V p (blS nr ns n V I J p) 2) (fj nr ns p (blS nr ns n V I J p).2.2.1 n).1 2 (V 0) (V 3) pk_us (by omega) (by omega)) rfl (st2 := [.long (sS (fj nr ns p (blS nr ns n V I J p).2.2.1 n).2.2 2 (V 0) (V 3) (fj nr ns p (blS nr ns n V I J p).2.2.1 n).1), .long ((blJ nr ns n V p (blS nr ns n V I J p) 2) 32 2), .int (nI 2), .ref (G.2.1 32)]) rfl (by decide) rfl rfl rfl tw_350 tw_351 tw_352 tw_36 tw_353 pd_X1_sumShares ⟨rfl, rfl⟩ (by rw [hRm]; exact ⟨Nat.le_of_ble_eq_true rfl, Nat.le_of_ble_eq_true rfl, Nat.le_of_ble_eq_true rfl, Nat.le_of_ble_eq_true rfl⟩) (Nat.le_of_ble_eq_true rfl) dX6_bill_101 ?_
              refine g_ladd hC dX6_bill_104 ?_
              refine n_last hC 32 aa_32 2 (show 2 < 4 by omega) dX6_bill_105 ?_
              refine g_st (V1 := (upd (blS nr ns n V I J p).2.1 6 (nI (fj nr ns p (blS nr ns n V I J p).2.2.1 n).1))) (I1 := (fj nr ns p (blS nr ns n V I J p).2.2.1 n).2.2) (J1 := (blJ nr ns n V p (blS nr ns n V I J p) 3)) rfl rfl rfl ?_
              refine g_iinc (v := nI 3) hC [(6, .int (nI 3)), (1, .long (((blS nr ns n V I J p).1) + (sF (fj nr ns p (blS nr ns n V I J p).2.2.1 n).2.2 (V 0) (V 3) (fj nr ns p (blS nr ns n V I J p).2.2.1 n).1 - (blS nr ns n V I J p).2.2.2 31 p))), (4, .long (sF (fj nr ns p (blS nr ns n V I J p).2.2.1 n).2.2 (V 0) (V 3) (fj nr ns p (blS nr ns n V I J p).2.2.1 n).1)), (3, .int (nI p)), (0, .ref (G.2.1 0))] dX6_bill_106 0 rfl (nI_i1 _) (by decide) rfl ?_
              refine g_goto hC 67 dX6_bill_109 (by decide) ?_
              refine g_iload hC dX6_bill_67 0 rfl ?_
              refine g_iconst (v := nI 4) hC dX6_bill_69 (by decide) ?_
              refine g_icmp_ge hC 112 dX6_bill_70 (by decide) (fun c_70 => ?_) (fun c_70 => ?_)
              · exact absurd c_70 (by decide)
              · refine g_aload_n hC dX6_bill_73 rfl 4 rfl ?_
                refine gf_X6_47 hC dX6_bill_74 ?_
                refine gf_X6_160 hC dX6_bill_77 ?_
                refine g_iload hC dX6_bill_80 0 rfl ?_
                refine g_dup2 hC dX6_bill_82 rfl rfl ?_
                refine n_lald hC 32 aa_32 3 (show 3 < 4 by omega) dX6_bill_83 ?_
                refine g_aload_n hC dX6_bill_84 rfl 4 rfl ?_
                refine gf_X6_40 hC dX6_bill_85 ?_
                refine g_iload hC dX6_bill_88 0 rfl ?_
                refine g_aload_n hC dX6_bill_90 rfl 4 rfl ?_
                refine gf_X6_51 hC dX6_bill_91 ?_
                refine g_eqI (x' := V 0) (by rw [pk_un (by decide), hs.1 0 (by decide)]) ?_
                refine g_aload_n hC dX6_bill_94 rfl 4 rfl ?_
                refine gf_X6_19 hC dX6_bill_95 ?_
                refine gf_X6_99 hC dX6_bill_98 ?_
                refine g_eqI (x' := V 3) (by rw [pk_un (by decide), hs.1 3 (by decide)]) ?_
                refine g_cV hC [.int (nI 3), .int (V 0), .int (V 3)] 5 (m_X1_sumShares hl hG (upd (blS nr ns n V I J p).2.1 6 (nI (fj nr ns p (blS nr ns n V I J p).2.2.1 n).1)) (fj nr ns p (blS nr ns n V I J p).2.2.1 n).2.2 (blJ nr ns n V p (blS nr ns n V I J p) 3) (fj nr ns p (blS nr ns n V I J p).2.2.1 n).1 3 (V 0) (V 3) pk_us (by omega) (by omega)) rfl (st2 := [.long (sS (fj nr ns p (blS nr ns n V I J p).2.2.1 n).2.2 3 (V 0) (V 3) (fj nr ns p (blS nr ns n V I J p).2.2.1 n).1), .long ((blJ nr ns n V p (blS nr ns n V I J p) 3) 32 3), .int (nI 3), .ref (G.2.1 32)]) rfl (by decide) rfl rfl rfl tw_350 tw_351 tw_352 tw_36 tw_353 pd_X1_sumShares ⟨rfl, rfl⟩ (by rw [hRm]; exact ⟨Nat.le_of_ble_eq_true rfl, Nat.le_of_ble_eq_true rfl, Nat.le_of_ble_eq_true rfl, Nat.le_of_ble_eq_true rfl⟩) (Nat.le_of_ble_eq_true rfl) dX6_bill_101 ?_
                refine g_ladd hC dX6_bill_104 ?_
                refine n_last hC 32 aa_32 3 (show 3 < 4 by omega) dX6_bill_105 ?_
                refine g_st (V1 := (upd (blS nr ns n V I J p).2.1 6 (nI (fj nr ns p (blS nr ns n V I J p).2.2.1 n).1))) (I1 := (fj nr ns p (blS nr ns n V I J p).2.2.1 n).2.2) (J1 := (blJ nr ns n V p (blS nr ns n V I J p) 4)) rfl rfl rfl ?_
                refine g_iinc (v := nI 4) hC [(6, .int (nI 4)), (1, .long (((blS nr ns n V I J p).1) + (sF (fj nr ns p (blS nr ns n V I J p).2.2.1 n).2.2 (V 0) (V 3) (fj nr ns p (blS nr ns n V I J p).2.2.1 n).1 - (blS nr ns n V I J p).2.2.2 31 p))), (4, .long (sF (fj nr ns p (blS nr ns n V I J p).2.2.1 n).2.2 (V 0) (V 3) (fj nr ns p (blS nr ns n V I J p).2.2.1 n).1)), (3, .int (nI p)), (0, .ref (G.2.1 0))] dX6_bill_106 0 rfl (nI_i1 _) (by decide) rfl ?_
                refine g_goto hC 67 dX6_bill_109 (by decide) ?_
                refine g_iload hC dX6_bill_67 0 rfl ?_
                refine g_iconst (v := nI 4) hC dX6_bill_69 (by decide) ?_
                refine g_icmp_ge hC 112 dX6_bill_70 (by decide) (fun c_70 => ?_) (fun c_70 => ?_)
                · refine g_iinc (v := nI (p + 1)) hC [(3, .int (nI (p + 1))), (6, .int (nI 4)), (1, .long (((blS nr ns n V I J p).1) + (sF (fj nr ns p (blS nr ns n V I J p).2.2.1 n).2.2 (V 0) (V 3) (fj nr ns p (blS nr ns n V I J p).2.2.1 n).1 - (blS nr ns n V I J p).2.2.2 31 p))), (4, .long (sF (fj nr ns p (blS nr ns n V I J p).2.2.1 n).2.2 (V 0) (V 3) (fj nr ns p (blS nr ns n V I J p).2.2.1 n).1)), (0, .ref (G.2.1 0))] dX6_bill_112 3 rfl (nI_i1 _) (by decide) rfl ?_
                  refine g_goto hC 11 dX6_bill_115 (by decide) ?_
                  refine g_lv [0, 2, 4] (lv2 := [(3, .int (nI (p + 1))), (1, .long (((blS nr ns n V I J p).1) + (sF (fj nr ns p (blS nr ns n V I J p).2.2.1 n).2.2 (V 0) (V 3) (fj nr ns p (blS nr ns n V I J p).2.2.1 n).1 - (blS nr ns n V I J p).2.2.2 31 p))), (0, .ref (G.2.1 0))]) rfl ?_
                  exact ih (p + 1) (by omega) (by omega)
                · exact absurd c_70 (by decide)
  refine g_lconst (v := 0) hC dX6_bill_0 (by decide) ?_
  refine g_lstore_n hC [(1, .long 0), (0, .ref (G.2.1 0))] dX6_bill_1 rfl (by decide) rfl ?_
  refine g_aload_n hC dX6_bill_2 rfl 1 rfl ?_
  refine gf_X6_47 hC dX6_bill_3 ?_
  refine g_cV hC [] 6 (m_X0_forgetShares hl hG V I J) rfl (st2 := []) rfl (by decide) rfl rfl rfl tw_255 tw_256 tw_257 tw_37 tw_258 pd_X0_forgetShares ⟨rfl, rfl⟩ (by rw [hRm]; exact ⟨Nat.le_of_ble_eq_true rfl, Nat.le_of_ble_eq_true rfl, Nat.le_of_ble_eq_true rfl, Nat.le_of_ble_eq_true rfl⟩) (Nat.le_of_ble_eq_true rfl) dX6_bill_6 ?_
  refine g_iconst (v := nI 0) hC dX6_bill_9 (by decide) ?_
  refine g_istore_n hC [(3, .int (nI 0)), (1, .long 0), (0, .ref (G.2.1 0))] dX6_bill_10 rfl (by decide) rfl ?_
  exact lp_11 11 0 (by omega) (by omega)
