set_option maxRecDepth 100000 in
theorem m_X6_journeys {l : Launch} {G : wG} (hl : l.stackTraces = false) (hG : wD G) (V : wV) (I : wI) (J : wJ) (nr n ns : Nat) (v2 : V 2 = nI nr) (v4 : V 4 = nI ns) (v5 : V 5 = nI n) (hw : wfC I nr n ns) (hz : ∀ r, I 28 r = 0 ∨ I 28 r = 1) (p0 : Int32) : Ctr l yX6_journeys cX6_journeys 2 (some .int) { frames := 7, cells := 6, slots := 36, locals := 154 } G [.ref (G.2.1 0), .int p0] V I J (fun r V9 I9 J9 => tcIn p0 10 = 0 ∧ scr V I J V9 I9 J9 ∧ ∃ p, p < 10 ∧ p0 = nI p ∧ r = some (.int (nI (fj nr ns p I n).1))) (xCs V I J (tcIn p0 10) [xIOB]) := by
  refine ctr_of hl hG (by decide) (Nat.le_of_ble_eq_true rfl) [(0, .ref (G.2.1 0)), (1, .int p0)] rfl ?_
  intro K hC hKl hRm hr hT
  subst hKl
  have hC : Cx K G RX6 cX6_journeys 2 := hC
  obtain ⟨w1, w2, w3, w4, w5, w6, w7⟩ := id hw
  have w24 := w1.1
  have hsc0 := scr_rf (V := V) (J := J) hz
  refine g_iload_n hC dX6_journeys_0 rfl 1 rfl ?_
  refine g_callS hC [.int p0] (m_X6_requirePlate hl hG V I J p0) rfl rfl tw_527 tw_528 tw_31 tw_529 pd_X6_requirePlate (by rw [hRm]; exact ⟨Nat.le_of_ble_eq_true rfl, Nat.le_of_ble_eq_true rfl⟩) (Nat.le_of_ble_eq_true rfl) (by rw [hRm]; exact ⟨Nat.le_of_ble_eq_true rfl, Nat.le_of_ble_eq_true rfl⟩) dX6_journeys_1 (fun E9 V9 I9 J9 hx9 => ?_) (fun r9 V9 I9 J9 hp9 => ?_)
  · obtain ⟨rfl, hV9, hI9, hJ9, e_1⟩ := hx9
    have hV9 := hV9.symm
    have hI9 := hI9.symm
    have hJ9 := hJ9.symm
    subst hV9 hI9 hJ9
    exact g_out hC hT (Nat.le_of_ble_eq_true rfl) (Nat.le_of_ble_eq_true rfl) ⟨hsc0, 0, rfl, by simp [tcIn, e_1]⟩
  · obtain ⟨⟨rfl, hV9, hI9, hJ9⟩, f_1⟩ := hp9
    have hV9 := hV9.symm
    have hI9 := hI9.symm
    have hJ9 := hJ9.symm
    subst hV9 hI9 hJ9
    refine g_cs (c2 := 1) (s2 := 6) rfl rfl ?_
    refine g_at rfl rfl (st2 := []) rfl ?_
    have hz0 : inB p0 10 = true := f_1
    obtain ⟨p, hp, ep⟩ := inB_nI f_1 (by omega)
    subst ep
    have hfc := (fj_ok (plate := p) hw n (Nat.le_refl _)).1
    have hsc := scr_fj (V := V) (J := J) (plate := p) hw hz
    refine g_aload_n hC dX6_journeys_4 rfl 0 rfl ?_
    refine g_iload_n hC dX6_journeys_5 rfl 1 rfl ?_
    refine g_cV hC [.int (nI p)] 0 (m_X6_findJourneys hl hG V I J nr n ns v2 v4 v5 hw p (by omega)) rfl (st2 := []) rfl (by decide) rfl rfl rfl tw_259 tw_261 tw_0 tw_31 tw_262 pd_X6_findJourneys ⟨rfl, rfl⟩ (by rw [hRm]; exact ⟨Nat.le_of_ble_eq_true rfl, Nat.le_of_ble_eq_true rfl, Nat.le_of_ble_eq_true rfl, Nat.le_of_ble_eq_true rfl⟩) (Nat.le_of_ble_eq_true rfl) dX6_journeys_6 ?_
    refine g_aload_n hC dX6_journeys_9 rfl 0 rfl ?_
    refine gf_X6_40 hC dX6_journeys_10 ?_
    refine gf_X6_183 hC dX6_journeys_13 ?_
    refine g_eqI (x' := nI (fj nr ns p I n).1) (by rw [pk_us]) ?_
    exact g_iret hC hr dX6_journeys_16 (Nat.le_of_ble_eq_true rfl) (Nat.le_of_ble_eq_true rfl) ⟨by simp [tcIn, hz0], hsc, p, hp, rfl, rfl⟩

set_option maxRecDepth 100000 in
theorem m_X6_due {l : Launch} {G : wG} (hl : l.stackTraces = false) (hG : wD G) (V : wV) (I : wI) (J : wJ) (nr n ns : Nat) (v2 : V 2 = nI nr) (v4 : V 4 = nI ns) (v5 : V 5 = nI n) (hw : wfC I nr n ns) (hz : ∀ r, I 28 r = 0 ∨ I 28 r = 1) (p0 : Int32) : Ctr l yX6_due cX6_due 2 (some .long) { frames := 7, cells := 6, slots := 36, locals := 154 } G [.ref (G.2.1 0), .int p0] V I J (fun r V9 I9 J9 => tcIn p0 10 = 0 ∧ scr V I J V9 I9 J9 ∧ ∃ p, p < 10 ∧ p0 = nI p ∧ r = some (.long (sF (fj nr ns p I n).2.2 (V 0) (V 3) (fj nr ns p I n).1))) (xCs V I J (tcIn p0 10) [xIOB]) := by
  refine ctr_of hl hG (by decide) (Nat.le_of_ble_eq_true rfl) [(0, .ref (G.2.1 0)), (1, .int p0)] rfl ?_
  intro K hC hKl hRm hr hT
  subst hKl
  have hC : Cx K G RX6 cX6_due 2 := hC
  obtain ⟨w1, w2, w3, w4, w5, w6, w7⟩ := id hw
  have w24 := w1.1
  have hsc0 := scr_rf (V := V) (J := J) hz
  refine g_iload_n hC dX6_due_0 rfl 1 rfl ?_
  refine g_callS hC [.int p0] (m_X6_requirePlate hl hG V I J p0) rfl rfl tw_527 tw_528 tw_31 tw_529 pd_X6_requirePlate (by rw [hRm]; exact ⟨Nat.le_of_ble_eq_true rfl, Nat.le_of_ble_eq_true rfl⟩) (Nat.le_of_ble_eq_true rfl) (by rw [hRm]; exact ⟨Nat.le_of_ble_eq_true rfl, Nat.le_of_ble_eq_true rfl⟩) dX6_due_1 (fun E9 V9 I9 J9 hx9 => ?_) (fun r9 V9 I9 J9 hp9 => ?_)
  · obtain ⟨rfl, hV9, hI9, hJ9, e_1⟩ := hx9
    have hV9 := hV9.symm
    have hI9 := hI9.symm
    have hJ9 := hJ9.symm
    subst hV9 hI9 hJ9
    exact g_out hC hT (Nat.le_of_ble_eq_true rfl) (Nat.le_of_ble_eq_true rfl) ⟨hsc0, 0, rfl, by simp [tcIn, e_1]⟩
  · obtain ⟨⟨rfl, hV9, hI9, hJ9⟩, f_1⟩ := hp9
    have hV9 := hV9.symm
    have hI9 := hI9.symm
    have hJ9 := hJ9.symm
    subst hV9 hI9 hJ9
    refine g_cs (c2 := 1) (s2 := 6) rfl rfl ?_
    refine g_at rfl rfl (st2 := []) rfl ?_
    have hz0 : inB p0 10 = true := f_1
    obtain ⟨p, hp, ep⟩ := inB_nI f_1 (by omega)
    subst ep
    have hfc := (fj_ok (plate := p) hw n (Nat.le_refl _)).1
    have hsc := scr_fj (V := V) (J := J) (plate := p) hw hz
    refine g_aload_n hC dX6_due_4 rfl 0 rfl ?_
    refine g_iload_n hC dX6_due_5 rfl 1 rfl ?_
    refine g_cV hC [.int (nI p)] 0 (m_X6_findJourneys hl hG V I J nr n ns v2 v4 v5 hw p (by omega)) rfl (st2 := []) rfl (by decide) rfl rfl rfl tw_259 tw_261 tw_0 tw_31 tw_262 pd_X6_findJourneys ⟨rfl, rfl⟩ (by rw [hRm]; exact ⟨Nat.le_of_ble_eq_true rfl, Nat.le_of_ble_eq_true rfl, Nat.le_of_ble_eq_true rfl, Nat.le_of_ble_eq_true rfl⟩) (Nat.le_of_ble_eq_true rfl) dX6_due_6 ?_
    refine g_aload_n hC dX6_due_9 rfl 0 rfl ?_
    refine gf_X6_40 hC dX6_due_10 ?_
    refine g_aload_n hC dX6_due_13 rfl 0 rfl ?_
    refine gf_X6_51 hC dX6_due_14 ?_
    refine g_eqI (x' := V 0) (by rw [pk_un (by decide)]) ?_
    refine g_aload_n hC dX6_due_17 rfl 0 rfl ?_
    refine gf_X6_19 hC dX6_due_18 ?_
    refine gf_X6_99 hC dX6_due_21 ?_
    refine g_eqI (x' := V 3) (by rw [pk_un (by decide)]) ?_
    refine g_cV hC [.int (V 0), .int (V 3)] 5 (m_X1_sumFares hl hG (upd V 6 (nI (fj nr ns p I n).1)) (fj nr ns p I n).2.2 J (fj nr ns p I n).1 (V 0) (V 3) pk_us (by omega)) rfl (st2 := [.long (sF (fj nr ns p I n).2.2 (V 0) (V 3) (fj nr ns p I n).1)]) rfl (by decide) rfl rfl rfl tw_327 tw_328 tw_329 tw_36 tw_330 pd_X1_sumFares ⟨rfl, rfl⟩ (by rw [hRm]; exact ⟨Nat.le_of_ble_eq_true rfl, Nat.le_of_ble_eq_true rfl, Nat.le_of_ble_eq_true rfl, Nat.le_of_ble_eq_true rfl⟩) (Nat.le_of_ble_eq_true rfl) dX6_due_24 ?_
    exact g_lret hC hr dX6_due_27 (Nat.le_of_ble_eq_true rfl) (Nat.le_of_ble_eq_true rfl) ⟨by simp [tcIn, hz0], hsc, p, hp, rfl, rfl⟩

set_option maxRecDepth 100000 in
theorem m_X6_journey {l : Launch} {G : wG} (hl : l.stackTraces = false) (hG : wD G) (V : wV) (I : wI) (J : wJ) (nr n ns : Nat) (v2 : V 2 = nI nr) (v4 : V 4 = nI ns) (v5 : V 5 = nI n) (hw : wfC I nr n ns) (hz : ∀ r, I 28 r = 0 ∨ I 28 r = 1) (p0 p1 p2 : Int32) : Ctr l yX6_journey cX6_journey 4 (some .int) { frames := 7, cells := 6, slots := 36, locals := 154 } G [.ref (G.2.1 0), .int p0, .int p1, .int p2] V I J (fun r V9 I9 J9 => tcJourney (if inB p0 10 = true then (fj nr ns (tn p0) I n).1 else 0) p0 p1 p2 = 0 ∧ scr V I J V9 I9 J9 ∧ ∃ p j, p < 10 ∧ j < (fj nr ns p I n).1 ∧ p0 = nI p ∧ p1 = nI j ∧ ((p2 = nI 0 ∧ r = some (.int ((fj nr ns p I n).2.2 24 j))) ∨ (p2 = nI 1 ∧ r = some (.int ((fj nr ns p I n).2.2 25 j))) ∨ (p2 = nI 2 ∧ r = some (.int ((fj nr ns p I n).2.2 26 j))) ∨ (p2 = nI 3 ∧ r = some (.int (fr (fj nr ns p I n).2.2 j (V 3)))) ∨ (p2 = nI 4 ∧ r = some (.int (if V 0 - (fj nr ns p I n).2.2 25 j < nI 60 then nI 0 else nI 1))) ∨ ∃ o, o < 4 ∧ p2 = nI (5 + o) ∧ r = some (.int (shr (fj nr ns p I n).2.2 j o (V 3))))) (xCs V I J (tcJourney (if inB p0 10 = true then (fj nr ns (tn p0) I n).1 else 0) p0 p1 p2) [xIOB, xIAE]) := by
  refine ctr_of hl hG (by decide) (Nat.le_of_ble_eq_true rfl) [(0, .ref (G.2.1 0)), (1, .int p0), (2, .int p1), (3, .int p2)] rfl ?_
  intro K hC hKl hRm hr hT
  subst hKl
  have hC : Cx K G RX6 cX6_journey 4 := hC
  obtain ⟨w1, w2, w3, w4, w5, w6, w7⟩ := id hw
  have w24 := w1.1
  have hsc0 := scr_rf (V := V) (J := J) hz
  refine g_iload_n hC dX6_journey_0 rfl 1 rfl ?_
  refine g_callS hC [.int p0] (m_X6_requirePlate hl hG V I J p0) rfl rfl tw_527 tw_528 tw_31 tw_529 pd_X6_requirePlate (by rw [hRm]; exact ⟨Nat.le_of_ble_eq_true rfl, Nat.le_of_ble_eq_true rfl⟩) (Nat.le_of_ble_eq_true rfl) (by rw [hRm]; exact ⟨Nat.le_of_ble_eq_true rfl, Nat.le_of_ble_eq_true rfl⟩) dX6_journey_1 (fun E9 V9 I9 J9 hx9 => ?_) (fun r9 V9 I9 J9 hp9 => ?_)
  · obtain ⟨rfl, hV9, hI9, hJ9, e_1⟩ := hx9
    have hV9 := hV9.symm
    have hI9 := hI9.symm
    have hJ9 := hJ9.symm
    subst hV9 hI9 hJ9
    exact g_out hC hT (Nat.le_of_ble_eq_true rfl) (Nat.le_of_ble_eq_true rfl) ⟨hsc0, 0, rfl, by simp [tcJourney, e_1]⟩
  · obtain ⟨⟨rfl, hV9, hI9, hJ9⟩, f_1⟩ := hp9
    have hV9 := hV9.symm
    have hI9 := hI9.symm
    have hJ9 := hJ9.symm
    subst hV9 hI9 hJ9
    refine g_cs (c2 := 1) (s2 := 6) rfl rfl ?_
    refine g_at rfl rfl (st2 := []) rfl ?_
    have hz0 : inB p0 10 = true := f_1
    have htn : (if inB p0 10 = true then (fj nr ns (tn p0) I n).1 else 0) = (fj nr ns (tn p0) I n).1 := if_pos hz0
    obtain ⟨p, hp, ep⟩ := inB_nI f_1 (by omega)
    have hcl : tn p0 = p := by rw [ep]; exact nI_clamp (by omega)
    rw [hcl] at htn
    subst ep
    have hfc := (fj_ok (plate := p) hw n (Nat.le_refl _)).1
    have hsc := scr_fj (V := V) (J := J) (plate := p) hw hz
    refine g_aload_n hC dX6_journey_4 rfl 0 rfl ?_
    refine g_iload_n hC dX6_journey_5 rfl 1 rfl ?_
    refine g_cV hC [.int (nI p)] 0 (m_X6_findJourneys hl hG V I J nr n ns v2 v4 v5 hw p (by omega)) rfl (st2 := []) rfl (by decide) rfl rfl rfl tw_259 tw_261 tw_0 tw_31 tw_262 pd_X6_findJourneys ⟨rfl, rfl⟩ (by rw [hRm]; exact ⟨Nat.le_of_ble_eq_true rfl, Nat.le_of_ble_eq_true rfl, Nat.le_of_ble_eq_true rfl, Nat.le_of_ble_eq_true rfl⟩) (Nat.le_of_ble_eq_true rfl) dX6_journey_6 ?_
    refine g_iload_n hC dX6_journey_9 rfl 2 rfl ?_
    refine g_if_lt hC 24 dX6_journey_10 (by decide) (fun c_10 => ?_) (fun c_10 => ?_)
    · exact g_th_IOB hC hT 184 (List.mem_of_getElem? (i := 13) rfl) dX6_journey_24 dX6_journey_27 dX6_journey_28 dX6_journey_30 dX6_journey_33 (by rw [hRm]; decide) (by rw [hRm]; exact Nat.le_of_ble_eq_true rfl) (by rw [hRm]; exact Nat.le_of_ble_eq_true rfl) (by rw [hRm]; exact Nat.le_of_ble_eq_true rfl) (Nat.le_of_ble_eq_true rfl) (Nat.le_of_ble_eq_true rfl) ⟨hsc, 0, rfl, by rw [hcl, htn]; have f9 : inB p1 (fj nr ns p I n).1 = false := inB_f (by first | exact Or.inl c_10 | exact Or.inr c_21); simp [tcJourney, hz0, f9]⟩
    · refine g_iload_n hC dX6_journey_13 rfl 2 rfl ?_
      refine g_aload_n hC dX6_journey_14 rfl 0 rfl ?_
      refine gf_X6_40 hC dX6_journey_15 ?_
      refine gf_X6_183 hC dX6_journey_18 ?_
      refine g_eqI (x' := nI (fj nr ns p I n).1) (by rw [pk_us]) ?_
      refine g_icmp_lt hC 34 dX6_journey_21 (by decide) (fun c_21 => ?_) (fun c_21 => ?_)
      · have f9 := inB_t c_10 c_21
        refine g_iload_n hC dX6_journey_34 rfl 3 rfl ?_
        refine g_iconst (v := nI 0) hC dX6_journey_35 (by decide) ?_
        refine g_bipush (v := nI 8) hC dX6_journey_36 (by decide) ?_
        refine g_callS hC [.int p2, .int (nI 0), .int (nI 8)] (m_X6_requireRange hl hG (upd V 6 (nI (fj nr ns p I n).1)) (fj nr ns p I n).2.2 J p2 (nI 0) (nI 8)) rfl rfl tw_475 tw_476 tw_31 tw_477 pd_X6_requireRange (by rw [hRm]; exact ⟨Nat.le_of_ble_eq_true rfl, Nat.le_of_ble_eq_true rfl⟩) (Nat.le_of_ble_eq_true rfl) (by rw [hRm]; exact ⟨Nat.le_of_ble_eq_true rfl, Nat.le_of_ble_eq_true rfl⟩) dX6_journey_38 (fun E9 V9 I9 J9 hx9 => ?_) (fun r9 V9 I9 J9 hp9 => ?_)
        · obtain ⟨rfl, hV9, hI9, hJ9, e_38⟩ := hx9
          have hV9 := hV9.symm
          have hI9 := hI9.symm
          have hJ9 := hJ9.symm
          subst hV9 hI9 hJ9
          exact g_out hC hT (Nat.le_of_ble_eq_true rfl) (Nat.le_of_ble_eq_true rfl) ⟨hsc, 1, rfl, by rw [hcl, htn]; simp [tcJourney, hz0, f9, e_38]⟩
        · obtain ⟨⟨rfl, hV9, hI9, hJ9⟩, f_38⟩ := hp9
          have hV9 := hV9.symm
          have hI9 := hI9.symm
          have hJ9 := hJ9.symm
          subst hV9 hI9 hJ9
          refine g_cs (c2 := 2) (s2 := 12) rfl rfl ?_
          refine g_at rfl rfl (st2 := []) rfl ?_
          have hzz : tcJourney (if inB (nI p) 10 = true then (fj nr ns (tn (nI p)) I n).1 else 0) (nI p) p1 p2 = 0 := by rw [hcl, htn]; simp [tcJourney, hz0, f9, f_38]
          obtain ⟨j, hj, ej⟩ := inB_nI f9 (by omega)
          obtain ⟨w, hw9, ew⟩ := rgB_nI f_38 (by omega)
          subst ej ew
          refine g_iload_n hC dX6_journey_41 rfl 3 rfl ?_
          rcases (show w = 0 ∨ w = 1 ∨ w = 2 ∨ w = 3 ∨ w = 4 ∨ w = 5 ∨ w = 6 ∨ w = 7 ∨ w = 8 by omega) with rfl | rfl | rfl | rfl | rfl | rfl | rfl | rfl | rfl
          · refine g_tsI hC 76 dX6_journey_42 (by decide) (by decide) (off := 34) (by decide) (by decide) ?_
            refine g_aload_n hC dX6_journey_76 rfl 0 rfl ?_
            refine gf_X6_40 hC dX6_journey_77 ?_
            refine gf_X6_186 hC dX6_journey_80 ?_
            refine g_iload_n hC dX6_journey_83 rfl 2 rfl ?_
            refine n_iald hC 24 aa_24 j (show j < 100 by omega) dX6_journey_84 ?_
            exact g_iret hC hr dX6_journey_85 (Nat.le_of_ble_eq_true rfl) (Nat.le_of_ble_eq_true rfl) ⟨hzz, hsc, p, j, hp, hj, rfl, rfl, Or.inl ⟨rfl, rfl⟩⟩
          · refine g_tsI hC 86 dX6_journey_42 (by decide) (by decide) (off := 44) (by decide) (by decide) ?_
            refine g_aload_n hC dX6_journey_86 rfl 0 rfl ?_
            refine gf_X6_40 hC dX6_journey_87 ?_
            refine gf_X6_189 hC dX6_journey_90 ?_
            refine g_iload_n hC dX6_journey_93 rfl 2 rfl ?_
            refine n_iald hC 25 aa_25 j (show j < 100 by omega) dX6_journey_94 ?_
            exact g_iret hC hr dX6_journey_95 (Nat.le_of_ble_eq_true rfl) (Nat.le_of_ble_eq_true rfl) ⟨hzz, hsc, p, j, hp, hj, rfl, rfl, Or.inr (Or.inl ⟨rfl, rfl⟩)⟩
          · refine g_tsI hC 96 dX6_journey_42 (by decide) (by decide) (off := 54) (by decide) (by decide) ?_
            refine g_aload_n hC dX6_journey_96 rfl 0 rfl ?_
            refine gf_X6_40 hC dX6_journey_97 ?_
            refine gf_X6_192 hC dX6_journey_100 ?_
            refine g_iload_n hC dX6_journey_103 rfl 2 rfl ?_
            refine n_iald hC 26 aa_26 j (show j < 100 by omega) dX6_journey_104 ?_
            exact g_iret hC hr dX6_journey_105 (Nat.le_of_ble_eq_true rfl) (Nat.le_of_ble_eq_true rfl) ⟨hzz, hsc, p, j, hp, hj, rfl, rfl, Or.inr (Or.inr (Or.inl ⟨rfl, rfl⟩))⟩
          · refine g_tsI hC 106 dX6_journey_42 (by decide) (by decide) (off := 64) (by decide) (by decide) ?_
            refine g_aload_n hC dX6_journey_106 rfl 0 rfl ?_
            refine gf_X6_40 hC dX6_journey_107 ?_
            refine g_iload_n hC dX6_journey_110 rfl 2 rfl ?_
            refine g_aload_n hC dX6_journey_111 rfl 0 rfl ?_
            refine gf_X6_19 hC dX6_journey_112 ?_
            refine gf_X6_99 hC dX6_journey_115 ?_
            refine g_eqI (x' := V 3) (by rw [pk_un (by decide)]) ?_
            refine g_cV hC [.int (nI j), .int (V 3)] 5 (m_X1_fareOf hl hG (upd V 6 (nI (fj nr ns p I n).1)) (fj nr ns p I n).2.2 J j (V 3) (by omega)) rfl (st2 := [.int (fr (fj nr ns p I n).2.2 j (V 3))]) rfl (by decide) rfl rfl rfl tw_622 tw_336 tw_337 tw_36 tw_338 pd_X1_fareOf ⟨rfl, rfl⟩ (by rw [hRm]; exact ⟨Nat.le_of_ble_eq_true rfl, Nat.le_of_ble_eq_true rfl, Nat.le_of_ble_eq_true rfl, Nat.le_of_ble_eq_true rfl⟩) (Nat.le_of_ble_eq_true rfl) dX6_journey_118 ?_
            exact g_iret hC hr dX6_journey_121 (Nat.le_of_ble_eq_true rfl) (Nat.le_of_ble_eq_true rfl) ⟨hzz, hsc, p, j, hp, hj, rfl, rfl, Or.inr (Or.inr (Or.inr (Or.inl ⟨rfl, rfl⟩)))⟩
          · refine g_tsI hC 122 dX6_journey_42 (by decide) (by decide) (off := 80) (by decide) (by decide) ?_
            refine g_aload_n hC dX6_journey_122 rfl 0 rfl ?_
            refine gf_X6_40 hC dX6_journey_123 ?_
            refine g_iload_n hC dX6_journey_126 rfl 2 rfl ?_
            refine g_aload_n hC dX6_journey_127 rfl 0 rfl ?_
            refine gf_X6_51 hC dX6_journey_128 ?_
            refine g_eqI (x' := V 0) (by rw [pk_un (by decide)]) ?_
            refine g_cV hC [.int (nI j), .int (V 0)] 5 (m_X1_isOver hl hG (upd V 6 (nI (fj nr ns p I n).1)) (fj nr ns p I n).2.2 J j (V 0) (by omega)) rfl (st2 := [.int ((if V 0 - (fj nr ns p I n).2.2 25 j < nI 60 then nI 0 else nI 1))]) rfl (by decide) rfl rfl rfl tw_623 tw_332 tw_333 tw_36 tw_334 pd_X1_isOver ⟨rfl, rfl⟩ (by rw [hRm]; exact ⟨Nat.le_of_ble_eq_true rfl, Nat.le_of_ble_eq_true rfl, Nat.le_of_ble_eq_true rfl, Nat.le_of_ble_eq_true rfl⟩) (Nat.le_of_ble_eq_true rfl) dX6_journey_131 ?_
            refine g_if_eq hC 141 dX6_journey_134 (by decide) (fun c_134 => ?_) (fun c_134 => ?_)
            · have hq := ite01_f c_134
              refine g_iconst (v := nI 0) hC dX6_journey_141 (by decide) ?_
              exact g_iret hC hr dX6_journey_142 (Nat.le_of_ble_eq_true rfl) (Nat.le_of_ble_eq_true rfl) ⟨hzz, hsc, p, j, hp, hj, rfl, rfl, Or.inr (Or.inr (Or.inr (Or.inr (Or.inl ⟨rfl, by first | rw [if_pos hq] | rw [if_neg hq]⟩))))⟩
            · have hq := ite01_t c_134
              refine g_iconst (v := nI 1) hC dX6_journey_137 (by decide) ?_
              refine g_goto hC 142 dX6_journey_138 (by decide) ?_
              exact g_iret hC hr dX6_journey_142 (Nat.le_of_ble_eq_true rfl) (Nat.le_of_ble_eq_true rfl) ⟨hzz, hsc, p, j, hp, hj, rfl, rfl, Or.inr (Or.inr (Or.inr (Or.inr (Or.inl ⟨rfl, by first | rw [if_pos hq] | rw [if_neg hq]⟩))))⟩
          · refine g_tsO hC 143 dX6_journey_42 (by decide) (by decide) ?_
            refine g_aload_n hC dX6_journey_143 rfl 0 rfl ?_
            refine gf_X6_40 hC dX6_journey_144 ?_
            refine g_iload_n hC dX6_journey_147 rfl 2 rfl ?_
            refine g_iload_n hC dX6_journey_148 rfl 3 rfl ?_
            refine g_iconst (v := nI 5) hC dX6_journey_149 (by decide) ?_
            refine g_isub hC dX6_journey_150 ?_
            refine g_eqI (x' := nI 0) (by decide) ?_
            refine g_aload_n hC dX6_journey_151 rfl 0 rfl ?_
            refine gf_X6_19 hC dX6_journey_152 ?_
            refine gf_X6_99 hC dX6_journey_155 ?_
            refine g_eqI (x' := V 3) (by rw [pk_un (by decide)]) ?_
            refine g_cV hC [.int (nI j), .int (nI 0), .int (V 3)] 5 (m_X1_shareOf hl hG (upd V 6 (nI (fj nr ns p I n).1)) (fj nr ns p I n).2.2 J j 0 (V 3) (by omega) (by omega)) rfl (st2 := [.int (shr (fj nr ns p I n).2.2 j 0 (V 3))]) rfl (by decide) rfl rfl rfl tw_624 tw_355 tw_356 tw_36 tw_357 pd_X1_shareOf ⟨rfl, rfl⟩ (by rw [hRm]; exact ⟨Nat.le_of_ble_eq_true rfl, Nat.le_of_ble_eq_true rfl, Nat.le_of_ble_eq_true rfl, Nat.le_of_ble_eq_true rfl⟩) (Nat.le_of_ble_eq_true rfl) dX6_journey_158 ?_
            exact g_iret hC hr dX6_journey_161 (Nat.le_of_ble_eq_true rfl) (Nat.le_of_ble_eq_true rfl) ⟨hzz, hsc, p, j, hp, hj, rfl, rfl, Or.inr (Or.inr (Or.inr (Or.inr (Or.inr ⟨0, by omega, rfl, rfl⟩))))⟩
          · refine g_tsO hC 143 dX6_journey_42 (by decide) (by decide) ?_
            refine g_aload_n hC dX6_journey_143 rfl 0 rfl ?_
            refine gf_X6_40 hC dX6_journey_144 ?_
            refine g_iload_n hC dX6_journey_147 rfl 2 rfl ?_
            refine g_iload_n hC dX6_journey_148 rfl 3 rfl ?_
            refine g_iconst (v := nI 5) hC dX6_journey_149 (by decide) ?_
            refine g_isub hC dX6_journey_150 ?_
            refine g_eqI (x' := nI 1) (by decide) ?_
            refine g_aload_n hC dX6_journey_151 rfl 0 rfl ?_
            refine gf_X6_19 hC dX6_journey_152 ?_
            refine gf_X6_99 hC dX6_journey_155 ?_
            refine g_eqI (x' := V 3) (by rw [pk_un (by decide)]) ?_
            refine g_cV hC [.int (nI j), .int (nI 1), .int (V 3)] 5 (m_X1_shareOf hl hG (upd V 6 (nI (fj nr ns p I n).1)) (fj nr ns p I n).2.2 J j 1 (V 3) (by omega) (by omega)) rfl (st2 := [.int (shr (fj nr ns p I n).2.2 j 1 (V 3))]) rfl (by decide) rfl rfl rfl tw_624 tw_355 tw_356 tw_36 tw_357 pd_X1_shareOf ⟨rfl, rfl⟩ (by rw [hRm]; exact ⟨Nat.le_of_ble_eq_true rfl, Nat.le_of_ble_eq_true rfl, Nat.le_of_ble_eq_true rfl, Nat.le_of_ble_eq_true rfl⟩) (Nat.le_of_ble_eq_true rfl) dX6_journey_158 ?_
            exact g_iret hC hr dX6_journey_161 (Nat.le_of_ble_eq_true rfl) (Nat.le_of_ble_eq_true rfl) ⟨hzz, hsc, p, j, hp, hj, rfl, rfl, Or.inr (Or.inr (Or.inr (Or.inr (Or.inr ⟨1, by omega, rfl, rfl⟩))))⟩
          · refine g_tsO hC 143 dX6_journey_42 (by decide) (by decide) ?_
            refine g_aload_n hC dX6_journey_143 rfl 0 rfl ?_
            refine gf_X6_40 hC dX6_journey_144 ?_
            refine g_iload_n hC dX6_journey_147 rfl 2 rfl ?_
            refine g_iload_n hC dX6_journey_148 rfl 3 rfl ?_
            refine g_iconst (v := nI 5) hC dX6_journey_149 (by decide) ?_
            refine g_isub hC dX6_journey_150 ?_
            refine g_eqI (x' := nI 2) (by decide) ?_
            refine g_aload_n hC dX6_journey_151 rfl 0 rfl ?_
            refine gf_X6_19 hC dX6_journey_152 ?_
            refine gf_X6_99 hC dX6_journey_155 ?_
            refine g_eqI (x' := V 3) (by rw [pk_un (by decide)]) ?_
            refine g_cV hC [.int (nI j), .int (nI 2), .int (V 3)] 5 (m_X1_shareOf hl hG (upd V 6 (nI (fj nr ns p I n).1)) (fj nr ns p I n).2.2 J j 2 (V 3) (by omega) (by omega)) rfl (st2 := [.int (shr (fj nr ns p I n).2.2 j 2 (V 3))]) rfl (by decide) rfl rfl rfl tw_624 tw_355 tw_356 tw_36 tw_357 pd_X1_shareOf ⟨rfl, rfl⟩ (by rw [hRm]; exact ⟨Nat.le_of_ble_eq_true rfl, Nat.le_of_ble_eq_true rfl, Nat.le_of_ble_eq_true rfl, Nat.le_of_ble_eq_true rfl⟩) (Nat.le_of_ble_eq_true rfl) dX6_journey_158 ?_
            exact g_iret hC hr dX6_journey_161 (Nat.le_of_ble_eq_true rfl) (Nat.le_of_ble_eq_true rfl) ⟨hzz, hsc, p, j, hp, hj, rfl, rfl, Or.inr (Or.inr (Or.inr (Or.inr (Or.inr ⟨2, by omega, rfl, rfl⟩))))⟩
          · refine g_tsO hC 143 dX6_journey_42 (by decide) (by decide) ?_
            refine g_aload_n hC dX6_journey_143 rfl 0 rfl ?_
            refine gf_X6_40 hC dX6_journey_144 ?_
            refine g_iload_n hC dX6_journey_147 rfl 2 rfl ?_
            refine g_iload_n hC dX6_journey_148 rfl 3 rfl ?_
            refine g_iconst (v := nI 5) hC dX6_journey_149 (by decide) ?_
            refine g_isub hC dX6_journey_150 ?_
            refine g_eqI (x' := nI 3) (by decide) ?_
            refine g_aload_n hC dX6_journey_151 rfl 0 rfl ?_
            refine gf_X6_19 hC dX6_journey_152 ?_
            refine gf_X6_99 hC dX6_journey_155 ?_
            refine g_eqI (x' := V 3) (by rw [pk_un (by decide)]) ?_
            refine g_cV hC [.int (nI j), .int (nI 3), .int (V 3)] 5 (m_X1_shareOf hl hG (upd V 6 (nI (fj nr ns p I n).1)) (fj nr ns p I n).2.2 J j 3 (V 3) (by omega) (by omega)) rfl (st2 := [.int (shr (fj nr ns p I n).2.2 j 3 (V 3))]) rfl (by decide) rfl rfl rfl tw_624 tw_355 tw_356 tw_36 tw_357 pd_X1_shareOf ⟨rfl, rfl⟩ (by rw [hRm]; exact ⟨Nat.le_of_ble_eq_true rfl, Nat.le_of_ble_eq_true rfl, Nat.le_of_ble_eq_true rfl, Nat.le_of_ble_eq_true rfl⟩) (Nat.le_of_ble_eq_true rfl) dX6_journey_158 ?_
            exact g_iret hC hr dX6_journey_161 (Nat.le_of_ble_eq_true rfl) (Nat.le_of_ble_eq_true rfl) ⟨hzz, hsc, p, j, hp, hj, rfl, rfl, Or.inr (Or.inr (Or.inr (Or.inr (Or.inr ⟨3, by omega, rfl, rfl⟩))))⟩
      · exact g_th_IOB hC hT 184 (List.mem_of_getElem? (i := 13) rfl) dX6_journey_24 dX6_journey_27 dX6_journey_28 dX6_journey_30 dX6_journey_33 (by rw [hRm]; decide) (by rw [hRm]; exact Nat.le_of_ble_eq_true rfl) (by rw [hRm]; exact Nat.le_of_ble_eq_true rfl) (by rw [hRm]; exact Nat.le_of_ble_eq_true rfl) (Nat.le_of_ble_eq_true rfl) (Nat.le_of_ble_eq_true rfl) ⟨hsc, 0, rfl, by rw [hcl, htn]; have f9 : inB p1 (fj nr ns p I n).1 = false := inB_f (by first | exact Or.inl c_10 | exact Or.inr c_21); simp [tcJourney, hz0, f9]⟩

set_option maxRecDepth 100000 in
theorem m_X6_ofReading {l : Launch} {G : wG} (hl : l.stackTraces = false) (hG : wD G) (V : wV) (I : wI) (J : wJ) (nr n ns : Nat) (v2 : V 2 = nI nr) (v4 : V 4 = nI ns) (v5 : V 5 = nI n) (hw : wfC I nr n ns) (hz : ∀ r, I 28 r = 0 ∨ I 28 r = 1) (hb22 : ∀ r, I 22 r = 0 ∨ I 22 r = 1) (p0 p1 : Int32) : Ctr l yX6_ofReading cX6_ofReading 3 (some .int) { frames := 7, cells := 6, slots := 36, locals := 175 } G [.ref (G.2.1 0), .int p0, .int p1] V I J (fun r V9 I9 J9 => tcOfR n p0 p1 = 0 ∧ scr V I J V9 I9 J9 ∧ ∃ q, q < n ∧ p0 = nI q ∧ ((p1 = nI 0 ∧ r = some (.int (I 19 q))) ∨ (p1 = nI 1 ∧ r = some (.int (I 20 q))) ∨ (p1 = nI 2 ∧ r = some (.int (I 21 q))) ∨ (p1 = nI 3 ∧ r = some (.int (I 22 q))) ∨ (p1 = nI 4 ∧ r = some (.int (if I 22 q = 0 then (fj nr ns (tn (I 20 q)) I n).2.2 28 q else nI 0))) ∨ (p1 = nI 5 ∧ r = some (.int (if I 22 q = 0 then (fj nr ns (tn (I 20 q)) I n).2.2 27 q else -1))))) (xCs V I J (tcOfR n p0 p1) [xIOB, xIAE]) := by
  refine ctr_of hl hG (by decide) (Nat.le_of_ble_eq_true rfl) [(0, .ref (G.2.1 0)), (1, .int p0), (2, .int p1)] rfl ?_
  intro K hC hKl hRm hr hT
  subst hKl
  have hC : Cx K G RX6 cX6_ofReading 3 := hC
  obtain ⟨w1, w2, w3, w4, w5, w6, w7⟩ := id hw
  have w24 := w1.1
  have hsc0 := scr_rf (V := V) (J := J) hz
  refine g_aload_n hC dX6_ofReading_0 rfl 0 rfl ?_
  refine g_iload_n hC dX6_ofReading_1 rfl 1 rfl ?_
  refine g_callV hC [.int p0] 0 (m_X6_requireReading hl hG V I J n p0 v5) rfl (by decide) rfl rfl rfl tw_573 tw_575 tw_11 tw_31 tw_576 pd_X6_requireReading (by rw [hRm]; exact ⟨Nat.le_of_ble_eq_true rfl, Nat.le_of_ble_eq_true rfl⟩) (Nat.le_of_ble_eq_true rfl) (by rw [hRm]; exact ⟨Nat.le_of_ble_eq_true rfl, Nat.le_of_ble_eq_true rfl⟩) dX6_ofReading_2 (fun E9 V9 I9 J9 hx9 => ?_) (fun r9 V9 I9 J9 hp9 => ?_)
  · obtain ⟨rfl, hV9, hI9, hJ9, e_2⟩ := hx9
    have hV9 := hV9.symm
    have hI9 := hI9.symm
    have hJ9 := hJ9.symm
    subst hV9 hI9 hJ9
    exact g_out hC hT (Nat.le_of_ble_eq_true rfl) (Nat.le_of_ble_eq_true rfl) ⟨hsc0, 0, rfl, by simp [tcOfR, e_2]⟩
  · obtain ⟨⟨rfl, hV9, hI9, hJ9⟩, f_2⟩ := hp9
    have hV9 := hV9.symm
    have hI9 := hI9.symm
    have hJ9 := hJ9.symm
    subst hV9 hI9 hJ9
    refine g_cs (c2 := 1) (s2 := 6) rfl rfl ?_
    refine g_at rfl rfl (st2 := []) rfl ?_
    refine g_iload_n hC dX6_ofReading_5 rfl 2 rfl ?_
    refine g_iconst (v := nI 0) hC dX6_ofReading_6 (by decide) ?_
    refine g_iconst (v := nI 5) hC dX6_ofReading_7 (by decide) ?_
    refine g_callS hC [.int p1, .int (nI 0), .int (nI 5)] (m_X6_requireRange hl hG V I J p1 (nI 0) (nI 5)) rfl rfl tw_475 tw_476 tw_31 tw_477 pd_X6_requireRange (by rw [hRm]; exact ⟨Nat.le_of_ble_eq_true rfl, Nat.le_of_ble_eq_true rfl⟩) (Nat.le_of_ble_eq_true rfl) (by rw [hRm]; exact ⟨Nat.le_of_ble_eq_true rfl, Nat.le_of_ble_eq_true rfl⟩) dX6_ofReading_8 (fun E9 V9 I9 J9 hx9 => ?_) (fun r9 V9 I9 J9 hp9 => ?_)
    · obtain ⟨rfl, hV9, hI9, hJ9, e_8⟩ := hx9
      have hV9 := hV9.symm
      have hI9 := hI9.symm
      have hJ9 := hJ9.symm
      subst hV9 hI9 hJ9
      exact g_out hC hT (Nat.le_of_ble_eq_true rfl) (Nat.le_of_ble_eq_true rfl) ⟨hsc0, 1, rfl, by simp [tcOfR, e_8, f_2]⟩
    · obtain ⟨⟨rfl, hV9, hI9, hJ9⟩, f_8⟩ := hp9
      have hV9 := hV9.symm
      have hI9 := hI9.symm
      have hJ9 := hJ9.symm
      subst hV9 hI9 hJ9
      refine g_cs (c2 := 2) (s2 := 12) rfl rfl ?_
      refine g_at rfl rfl (st2 := []) rfl ?_
      have hzz : tcOfR n p0 p1 = 0 := by simp [tcOfR, f_2, f_8]
      obtain ⟨q, hq, eq9⟩ := inB_nI f_2 (by omega)
      obtain ⟨w, hw9, ew⟩ := rgB_nI f_8 (by omega)
      subst eq9 ew
      refine g_iload_n hC dX6_ofReading_11 rfl 2 rfl ?_
      rcases (show w = 0 ∨ w = 1 ∨ w = 2 ∨ w = 3 ∨ w = 4 ∨ w = 5 by omega) with rfl | rfl | rfl | rfl | rfl | rfl
      · refine g_tsI hC 48 dX6_ofReading_12 (by decide) (by decide) (off := 36) (by decide) (by decide) ?_
        refine g_aload_n hC dX6_ofReading_48 rfl 0 rfl ?_
        refine gf_X6_33 hC dX6_ofReading_49 ?_
        refine gf_X6_205 hC dX6_ofReading_52 ?_
        refine g_iload_n hC dX6_ofReading_55 rfl 1 rfl ?_
        refine n_iald hC 19 aa_19 q (show q < 100 by omega) dX6_ofReading_56 ?_
        exact g_iret hC hr dX6_ofReading_57 (Nat.le_of_ble_eq_true rfl) (Nat.le_of_ble_eq_true rfl) ⟨hzz, hsc0, q, hq, rfl, Or.inl ⟨rfl, rfl⟩⟩
      · refine g_tsI hC 58 dX6_ofReading_12 (by decide) (by decide) (off := 46) (by decide) (by decide) ?_
        refine g_aload_n hC dX6_ofReading_58 rfl 0 rfl ?_
        refine gf_X6_33 hC dX6_ofReading_59 ?_
        refine gf_X6_208 hC dX6_ofReading_62 ?_
        refine g_iload_n hC dX6_ofReading_65 rfl 1 rfl ?_
        refine n_iald hC 20 aa_20 q (show q < 100 by omega) dX6_ofReading_66 ?_
        exact g_iret hC hr dX6_ofReading_67 (Nat.le_of_ble_eq_true rfl) (Nat.le_of_ble_eq_true rfl) ⟨hzz, hsc0, q, hq, rfl, Or.inr (Or.inl ⟨rfl, rfl⟩)⟩
      · refine g_tsI hC 68 dX6_ofReading_12 (by decide) (by decide) (off := 56) (by decide) (by decide) ?_
        refine g_aload_n hC dX6_ofReading_68 rfl 0 rfl ?_
        refine gf_X6_33 hC dX6_ofReading_69 ?_
        refine gf_X6_211 hC dX6_ofReading_72 ?_
        refine g_iload_n hC dX6_ofReading_75 rfl 1 rfl ?_
        refine n_iald hC 21 aa_21 q (show q < 100 by omega) dX6_ofReading_76 ?_
        exact g_iret hC hr dX6_ofReading_77 (Nat.le_of_ble_eq_true rfl) (Nat.le_of_ble_eq_true rfl) ⟨hzz, hsc0, q, hq, rfl, Or.inr (Or.inr (Or.inl ⟨rfl, rfl⟩))⟩
      · refine g_tsI hC 78 dX6_ofReading_12 (by decide) (by decide) (off := 66) (by decide) (by decide) ?_
        refine g_aload_n hC dX6_ofReading_78 rfl 0 rfl ?_
        refine gf_X6_33 hC dX6_ofReading_79 ?_
        refine gf_X6_138 hC dX6_ofReading_82 ?_
        refine g_iload_n hC dX6_ofReading_85 rfl 1 rfl ?_
        refine n_zald hC 22 aa_22 q (show q < 100 by omega) dX6_ofReading_86 ?_
        refine g_if_eq hC 94 dX6_ofReading_87 (by decide) (fun c_87 => ?_) (fun c_87 => ?_)
        · refine g_iconst (v := nI 0) hC dX6_ofReading_94 (by decide) ?_
          exact g_iret hC hr dX6_ofReading_95 (Nat.le_of_ble_eq_true rfl) (Nat.le_of_ble_eq_true rfl) ⟨hzz, hsc0, q, hq, rfl, Or.inr (Or.inr (Or.inr (Or.inl ⟨rfl, by first | (rw [c_87]; rfl) | (rw [(hb22 q).resolve_left c_87]; rfl)⟩)))⟩
        · refine g_iconst (v := nI 1) hC dX6_ofReading_90 (by decide) ?_
          refine g_goto hC 95 dX6_ofReading_91 (by decide) ?_
          exact g_iret hC hr dX6_ofReading_95 (Nat.le_of_ble_eq_true rfl) (Nat.le_of_ble_eq_true rfl) ⟨hzz, hsc0, q, hq, rfl, Or.inr (Or.inr (Or.inr (Or.inl ⟨rfl, by first | (rw [c_87]; rfl) | (rw [(hb22 q).resolve_left c_87]; rfl)⟩)))⟩
      · refine g_tsI hC 96 dX6_ofReading_12 (by decide) (by decide) (off := 84) (by decide) (by decide) ?_
        refine g_aload_n hC dX6_ofReading_96 rfl 0 rfl ?_
        refine g_iload_n hC dX6_ofReading_97 rfl 1 rfl ?_
        refine g_cVr hC [.int (nI q)] 0 (m_X6_isDoubleNow hl hG V I J nr n ns v2 v4 v5 hw hz q hq) rfl (by decide) rfl rfl rfl tw_632 tw_634 tw_12 tw_31 tw_635 pd_X6_isDoubleNow ⟨rfl, rfl⟩ (by rw [hRm]; exact ⟨Nat.le_of_ble_eq_true rfl, Nat.le_of_ble_eq_true rfl, Nat.le_of_ble_eq_true rfl, Nat.le_of_ble_eq_true rfl⟩) (Nat.le_of_ble_eq_true rfl) dX6_ofReading_98 (fun r9 V9 I9 J9 hp9 => ?_)
        obtain ⟨rfl, hs9⟩ := hp9
        refine g_at rfl rfl (st2 := [.int (if I 22 q = 0 then (fj nr ns (tn (I 20 q)) I n).2.2 28 q else nI 0)]) rfl ?_
        refine g_if_eq hC 108 dX6_ofReading_101 (by decide) (fun c_101 => ?_) (fun c_101 => ?_)
        · refine g_iconst (v := nI 0) hC dX6_ofReading_108 (by decide) ?_
          exact g_iret hC hr dX6_ofReading_109 (Nat.le_of_ble_eq_true rfl) (Nat.le_of_ble_eq_true rfl) ⟨hzz, hs9, q, hq, rfl, Or.inr (Or.inr (Or.inr (Or.inr (Or.inl ⟨rfl, by have hb9 : (if I 22 q = 0 then (fj nr ns (tn (I 20 q)) I n).2.2 28 q else nI 0) = 0 ∨ (if I 22 q = 0 then (fj nr ns (tn (I 20 q)) I n).2.2 28 q else nI 0) = 1 := (by split; exact z28_fj hw hz n (Nat.le_refl _) q; exact Or.inl rfl); first | (rw [c_101]; rfl) | (rw [hb9.resolve_left c_101]; rfl)⟩))))⟩
        · refine g_iconst (v := nI 1) hC dX6_ofReading_104 (by decide) ?_
          refine g_goto hC 109 dX6_ofReading_105 (by decide) ?_
          exact g_iret hC hr dX6_ofReading_109 (Nat.le_of_ble_eq_true rfl) (Nat.le_of_ble_eq_true rfl) ⟨hzz, hs9, q, hq, rfl, Or.inr (Or.inr (Or.inr (Or.inr (Or.inl ⟨rfl, by have hb9 : (if I 22 q = 0 then (fj nr ns (tn (I 20 q)) I n).2.2 28 q else nI 0) = 0 ∨ (if I 22 q = 0 then (fj nr ns (tn (I 20 q)) I n).2.2 28 q else nI 0) = 1 := (by split; exact z28_fj hw hz n (Nat.le_refl _) q; exact Or.inl rfl); first | (rw [c_101]; rfl) | (rw [hb9.resolve_left c_101]; rfl)⟩))))⟩
      · refine g_tsO hC 110 dX6_ofReading_12 (by decide) (by decide) ?_
        refine g_aload_n hC dX6_ofReading_110 rfl 0 rfl ?_
        refine g_iload_n hC dX6_ofReading_111 rfl 1 rfl ?_
        refine g_cVr hC [.int (nI q)] 0 (m_X6_journeyNow hl hG V I J nr n ns v2 v4 v5 hw hz q hq) rfl (by decide) rfl rfl rfl tw_636 tw_638 tw_13 tw_31 tw_639 pd_X6_journeyNow ⟨rfl, rfl⟩ (by rw [hRm]; exact ⟨Nat.le_of_ble_eq_true rfl, Nat.le_of_ble_eq_true rfl, Nat.le_of_ble_eq_true rfl, Nat.le_of_ble_eq_true rfl⟩) (Nat.le_of_ble_eq_true rfl) dX6_ofReading_112 (fun r9 V9 I9 J9 hp9 => ?_)
        obtain ⟨rfl, hs9⟩ := hp9
        refine g_at rfl rfl (st2 := [.int (if I 22 q = 0 then (fj nr ns (tn (I 20 q)) I n).2.2 27 q else -1)]) rfl ?_
        exact g_iret hC hr dX6_ofReading_115 (Nat.le_of_ble_eq_true rfl) (Nat.le_of_ble_eq_true rfl) ⟨hzz, hs9, q, hq, rfl, Or.inr (Or.inr (Or.inr (Or.inr (Or.inr ⟨rfl, rfl⟩))))⟩

set_option maxRecDepth 100000 in
theorem m_X6_share {l : Launch} {G : wG} (hl : l.stackTraces = false) (hG : wD G) (V : wV) (I : wI) (J : wJ) (nr n ns : Nat) (v2 : V 2 = nI nr) (v4 : V 4 = nI ns) (v5 : V 5 = nI n) (hw : wfC I nr n ns) (hz : ∀ r, I 28 r = 0 ∨ I 28 r = 1) (p0 p1 : Int32) : Ctr l yX6_share cX6_share 3 (some .long) { frames := 7, cells := 6, slots := 36, locals := 178 } G [.ref (G.2.1 0), .int p0, .int p1] V I J (fun r V9 I9 J9 => tcIn p0 4 = 0 ∧ scr V I J V9 I9 J9 ∧ ∃ o, o < 4 ∧ p0 = nI o ∧ r = some (.long (if p1 = 0 then J 32 o else (dO nr ns n o V I 10).1))) (xCs V I J (tcIn p0 4) [xIOB]) := by
  refine ctr_of hl hG (by decide) (Nat.le_of_ble_eq_true rfl) [(0, .ref (G.2.1 0)), (1, .int p0), (2, .int p1)] rfl ?_
  intro K hC hKl hRm hr hT
  subst hKl
  have hC : Cx K G RX6 cX6_share 3 := hC
  obtain ⟨w1, w2, w3, w4, w5, w6, w7⟩ := id hw
  have w24 := w1.1
  have hsc0 := scr_rf (V := V) (J := J) hz
  refine g_iload_n hC dX6_share_0 rfl 1 rfl ?_
  refine g_if_lt hC 9 dX6_share_1 (by decide) (fun c_1 => ?_) (fun c_1 => ?_)
  · exact g_th_IOB hC hT 228 (List.mem_of_getElem? (i := 14) rfl) dX6_share_9 dX6_share_12 dX6_share_13 dX6_share_15 dX6_share_18 (by rw [hRm]; decide) (by rw [hRm]; exact Nat.le_of_ble_eq_true rfl) (by rw [hRm]; exact Nat.le_of_ble_eq_true rfl) (by rw [hRm]; exact Nat.le_of_ble_eq_true rfl) (Nat.le_of_ble_eq_true rfl) (Nat.le_of_ble_eq_true rfl) ⟨hsc0, 0, rfl, by have f9 : inB p0 4 = false := inB_f (by first | exact Or.inl c_1 | exact Or.inr c_6); simp [tcIn, f9]⟩
  · refine g_iload_n hC dX6_share_4 rfl 1 rfl ?_
    refine g_iconst (v := nI 4) hC dX6_share_5 (by decide) ?_
    refine g_icmp_lt hC 19 dX6_share_6 (by decide) (fun c_6 => ?_) (fun c_6 => ?_)
    · have f9 := inB_t c_1 c_6
      have hzz : tcIn p0 4 = 0 := by simp [tcIn, f9]
      obtain ⟨o, ho, eo⟩ := inB_nI f9 (by omega)
      subst eo
      refine g_iload_n hC dX6_share_19 rfl 2 rfl ?_
      refine g_if_eq hC 31 dX6_share_20 (by decide) (fun c_20 => ?_) (fun c_20 => ?_)
      · refine g_aload_n hC dX6_share_31 rfl 0 rfl ?_
        refine gf_X6_47 hC dX6_share_32 ?_
        refine gf_X6_160 hC dX6_share_35 ?_
        refine g_iload_n hC dX6_share_38 rfl 1 rfl ?_
        refine n_lald hC 32 aa_32 o (show o < 4 by omega) dX6_share_39 ?_
        exact g_lret hC hr dX6_share_40 (Nat.le_of_ble_eq_true rfl) (Nat.le_of_ble_eq_true rfl) ⟨hzz, hsc0, o, ho, rfl, by rw [if_pos c_20]⟩
      · refine g_aload_n hC dX6_share_23 rfl 0 rfl ?_
        refine g_iload_n hC dX6_share_24 rfl 1 rfl ?_
        refine g_cVr hC [.int (nI o)] 0 (m_X6_dueToOwner hl hG V I J nr n ns v2 v4 v5 hw hz o ho) rfl (by decide) rfl rfl rfl tw_676 tw_678 tw_14 tw_31 tw_679 pd_X6_dueToOwner ⟨rfl, rfl⟩ (by rw [hRm]; exact ⟨Nat.le_of_ble_eq_true rfl, Nat.le_of_ble_eq_true rfl, Nat.le_of_ble_eq_true rfl, Nat.le_of_ble_eq_true rfl⟩) (Nat.le_of_ble_eq_true rfl) dX6_share_25 (fun r9 V9 I9 J9 hp9 => ?_)
        obtain ⟨rfl, hs9⟩ := hp9
        refine g_at rfl rfl (st2 := [.long (dO nr ns n o V I 10).1]) rfl ?_
        refine g_goto hC 40 dX6_share_28 (by decide) ?_
        exact g_lret hC hr dX6_share_40 (Nat.le_of_ble_eq_true rfl) (Nat.le_of_ble_eq_true rfl) ⟨hzz, hs9, o, ho, rfl, by rw [if_neg c_20]⟩
    · exact g_th_IOB hC hT 228 (List.mem_of_getElem? (i := 14) rfl) dX6_share_9 dX6_share_12 dX6_share_13 dX6_share_15 dX6_share_18 (by rw [hRm]; decide) (by rw [hRm]; exact Nat.le_of_ble_eq_true rfl) (by rw [hRm]; exact Nat.le_of_ble_eq_true rfl) (by rw [hRm]; exact Nat.le_of_ble_eq_true rfl) (Nat.le_of_ble_eq_true rfl) (Nat.le_of_ble_eq_true rfl) ⟨hsc0, 0, rfl, by have f9 : inB p0 4 = false := inB_f (by first | exact Or.inl c_1 | exact Or.inr c_6); simp [tcIn, f9]⟩
