set_option maxRecDepth 100000 in
theorem m_X6_gate {l : Launch} {G : wG} (hl : l.stackTraces = false) (hG : wD G) (V : wV) (I : wI) (J : wJ) (ng : Nat) (v1 : V 1 = nI ng) (hg : ng ≤ 12) : Ctr l yX6_gate cX6_gate 1 (some .int) { frames := 7, cells := 6, slots := 36, locals := 112 } G [.ref (G.2.1 0)] V I J (fun r V9 I9 J9 => tcGate ng = 0 ∧ r = some (.int (nI ng)) ∧ V9 = upd V 1 (nI (ng + 1)) ∧ I9 = I ∧ J9 = J ∧ ng < 12) (xC V I J (tcGate ng) [xISE]) := by
  refine ctr_of hl hG (by decide) (Nat.le_of_ble_eq_true rfl) [(0, .ref (G.2.1 0))] rfl ?_
  intro K hC hKl hRm hr hT
  subst hKl
  have hC : Cx K G RX6 cX6_gate 1 := hC
  refine g_aload_n hC dX6_gate_0 rfl 0 rfl ?_
  refine gf_X6_10 hC dX6_gate_1 ?_
  refine gf_X6_55 hC dX6_gate_4 ?_
  refine g_eqI (x' := nI ng) (by rw [v1]) ?_
  refine g_bipush (v := nI 12) hC dX6_gate_7 (by decide) ?_
  refine g_icmp_lt hC 22 dX6_gate_9 (by decide) (fun c_9 => ?_) (fun c_9 => ?_)
  · have d_9 : ng < 12 := (nI_ltI (by omega) (by omega)).mp c_9
    refine g_aload_n hC dX6_gate_22 rfl 0 rfl ?_
    refine gf_X6_10 hC dX6_gate_23 ?_
    refine g_cV hC [] 1 (m_X4_addGate hl hG V I J ng v1) rfl (st2 := [.int (nI ng)]) rfl (by decide) rfl rfl rfl tw_442 tw_443 tw_444 tw_32 tw_445 pd_X4_addGate ⟨rfl, rfl⟩ (by rw [hRm]; exact ⟨Nat.le_of_ble_eq_true rfl, Nat.le_of_ble_eq_true rfl, Nat.le_of_ble_eq_true rfl, Nat.le_of_ble_eq_true rfl⟩) (Nat.le_of_ble_eq_true rfl) dX6_gate_26 ?_
    exact g_iret hC hr dX6_gate_29 (Nat.le_of_ble_eq_true rfl) (Nat.le_of_ble_eq_true rfl) ⟨by unfold tcGate; rw [if_neg (by omega)], rfl, rfl, rfl, rfl, d_9⟩
  · have d_9 : ¬ ng < 12 := fun q => c_9 ((nI_ltI (by omega) (by omega)).mpr q)
    exact g_th_ISE hC hT 60 (List.mem_of_getElem? (i := 0) rfl) dX6_gate_12 dX6_gate_15 dX6_gate_16 dX6_gate_18 dX6_gate_21 (by rw [hRm]; decide) (by rw [hRm]; exact Nat.le_of_ble_eq_true rfl) (by rw [hRm]; exact Nat.le_of_ble_eq_true rfl) (by rw [hRm]; exact Nat.le_of_ble_eq_true rfl) (Nat.le_of_ble_eq_true rfl) (Nat.le_of_ble_eq_true rfl) ⟨rfl, rfl, rfl, 0, rfl, by unfold tcGate; rw [if_pos (by omega)]⟩

set_option maxRecDepth 100000 in
theorem m_X6_road {l : Launch} {G : wG} (hl : l.stackTraces = false) (hG : wD G) (V : wV) (I : wI) (J : wJ) (ng nr : Nat) (p0 p1 p2 p3 : Int32) (v1 : V 1 = nI ng) (v2 : V 2 = nI nr) (hg : ng ≤ 12) (hr0 : nr ≤ 24) : Ctr l yX6_road cX6_road 5 (some .int) { frames := 7, cells := 6, slots := 36, locals := 112 } G [.ref (G.2.1 0), .int p0, .int p1, .int p2, .int p3] V I J (fun r V9 I9 J9 => tcRoad ng nr p0 p1 p2 p3 = 0 ∧ r = some (.int (nI nr)) ∧ V9 = upd V 2 (nI (nr + 1)) ∧ J9 = J ∧ nr < 24 ∧ ∃ a b, a < ng ∧ b < ng ∧ p0 = nI a ∧ p1 = nI b ∧ I9 = sdF (uI (uI (uI (uI I 8 (upd (I 8) nr (nI a))) 9 (upd (I 9) nr (nI b))) 10 (upd (I 10) nr p2)) 11 (upd (I 11) nr p3)) a b p2 ng ng) (xC V I J (tcRoad ng nr p0 p1 p2 p3) [xIOB, xIAE, xISE]) := by
  refine ctr_of hl hG (by decide) (Nat.le_of_ble_eq_true rfl) [(0, .ref (G.2.1 0)), (1, .int p0), (2, .int p1), (3, .int p2), (4, .int p3)] rfl ?_
  intro K hC hKl hRm hr hT
  subst hKl
  have hC : Cx K G RX6 cX6_road 5 := hC
  refine g_aload_n hC dX6_road_0 rfl 0 rfl ?_
  refine g_iload_n hC dX6_road_1 rfl 1 rfl ?_
  refine g_callV hC [.int p0] 0 (m_X6_requireGate hl hG V I J ng p0 v1) rfl (by decide) rfl rfl rfl tw_455 tw_457 tw_9 tw_31 tw_458 pd_X6_requireGate (by rw [hRm]; exact ⟨Nat.le_of_ble_eq_true rfl, Nat.le_of_ble_eq_true rfl⟩) (Nat.le_of_ble_eq_true rfl) (by rw [hRm]; exact ⟨Nat.le_of_ble_eq_true rfl, Nat.le_of_ble_eq_true rfl⟩) dX6_road_2 (fun E9 V9 I9 J9 hx9 => ?_) (fun r9 V9 I9 J9 hp9 => ?_)
  · obtain ⟨rfl, rfl, rfl, rfl, e_2⟩ := hx9
    exact g_out hC hT (Nat.le_of_ble_eq_true rfl) (Nat.le_of_ble_eq_true rfl) ⟨rfl, rfl, rfl, 0, rfl, by simp [tcRoad, e_2]⟩
  · obtain ⟨⟨rfl, hV9, hI9, hJ9⟩, f_2⟩ := hp9
    have hV9 := hV9.symm
    have hI9 := hI9.symm
    have hJ9 := hJ9.symm
    subst hV9 hI9 hJ9
    refine g_cs (c2 := 1) (s2 := 6) rfl rfl ?_
    refine g_at rfl rfl (st2 := []) rfl ?_
    refine g_aload_n hC dX6_road_5 rfl 0 rfl ?_
    refine g_iload_n hC dX6_road_6 rfl 2 rfl ?_
    refine g_callV hC [.int p1] 0 (m_X6_requireGate hl hG V I J ng p1 v1) rfl (by decide) rfl rfl rfl tw_455 tw_457 tw_9 tw_31 tw_458 pd_X6_requireGate (by rw [hRm]; exact ⟨Nat.le_of_ble_eq_true rfl, Nat.le_of_ble_eq_true rfl⟩) (Nat.le_of_ble_eq_true rfl) (by rw [hRm]; exact ⟨Nat.le_of_ble_eq_true rfl, Nat.le_of_ble_eq_true rfl⟩) dX6_road_7 (fun E9 V9 I9 J9 hx9 => ?_) (fun r9 V9 I9 J9 hp9 => ?_)
    · obtain ⟨rfl, rfl, rfl, rfl, e_7⟩ := hx9
      exact g_out hC hT (Nat.le_of_ble_eq_true rfl) (Nat.le_of_ble_eq_true rfl) ⟨rfl, rfl, rfl, 0, rfl, by simp [tcRoad, e_7]⟩
    · obtain ⟨⟨rfl, hV9, hI9, hJ9⟩, f_7⟩ := hp9
      have hV9 := hV9.symm
      have hI9 := hI9.symm
      have hJ9 := hJ9.symm
      subst hV9 hI9 hJ9
      refine g_cs (c2 := 2) (s2 := 12) rfl rfl ?_
      refine g_at rfl rfl (st2 := []) rfl ?_
      refine g_iload_n hC dX6_road_10 rfl 3 rfl ?_
      refine g_iconst (v := nI 1) hC dX6_road_11 (by decide) ?_
      refine g_bipush (v := nI 50) hC dX6_road_12 (by decide) ?_
      refine g_callS hC [.int p2, .int (nI 1), .int (nI 50)] (m_X6_requireRange hl hG V I J p2 (nI 1) (nI 50)) rfl rfl tw_475 tw_476 tw_31 tw_477 pd_X6_requireRange (by rw [hRm]; exact ⟨Nat.le_of_ble_eq_true rfl, Nat.le_of_ble_eq_true rfl⟩) (Nat.le_of_ble_eq_true rfl) (by rw [hRm]; exact ⟨Nat.le_of_ble_eq_true rfl, Nat.le_of_ble_eq_true rfl⟩) dX6_road_14 (fun E9 V9 I9 J9 hx9 => ?_) (fun r9 V9 I9 J9 hp9 => ?_)
      · obtain ⟨rfl, rfl, rfl, rfl, e_14⟩ := hx9
        exact g_out hC hT (Nat.le_of_ble_eq_true rfl) (Nat.le_of_ble_eq_true rfl) ⟨rfl, rfl, rfl, 1, rfl, by simp [tcRoad, e_14, f_2, f_7]⟩
      · obtain ⟨⟨rfl, hV9, hI9, hJ9⟩, f_14⟩ := hp9
        have hV9 := hV9.symm
        have hI9 := hI9.symm
        have hJ9 := hJ9.symm
        subst hV9 hI9 hJ9
        refine g_cs (c2 := 3) (s2 := 18) rfl rfl ?_
        refine g_at rfl rfl (st2 := []) rfl ?_
        refine g_iload hC dX6_road_17 4 rfl ?_
        refine g_iconst (v := nI 0) hC dX6_road_19 (by decide) ?_
        refine g_iconst (v := nI 3) hC dX6_road_20 (by decide) ?_
        refine g_callS hC [.int p3, .int (nI 0), .int (nI 3)] (m_X6_requireRange hl hG V I J p3 (nI 0) (nI 3)) rfl rfl tw_475 tw_476 tw_31 tw_477 pd_X6_requireRange (by rw [hRm]; exact ⟨Nat.le_of_ble_eq_true rfl, Nat.le_of_ble_eq_true rfl⟩) (Nat.le_of_ble_eq_true rfl) (by rw [hRm]; exact ⟨Nat.le_of_ble_eq_true rfl, Nat.le_of_ble_eq_true rfl⟩) dX6_road_21 (fun E9 V9 I9 J9 hx9 => ?_) (fun r9 V9 I9 J9 hp9 => ?_)
        · obtain ⟨rfl, rfl, rfl, rfl, e_21⟩ := hx9
          exact g_out hC hT (Nat.le_of_ble_eq_true rfl) (Nat.le_of_ble_eq_true rfl) ⟨rfl, rfl, rfl, 1, rfl, by simp [tcRoad, e_21, f_2, f_7, f_14]⟩
        · obtain ⟨⟨rfl, hV9, hI9, hJ9⟩, f_21⟩ := hp9
          have hV9 := hV9.symm
          have hI9 := hI9.symm
          have hJ9 := hJ9.symm
          subst hV9 hI9 hJ9
          refine g_cs (c2 := 4) (s2 := 24) rfl rfl ?_
          refine g_at rfl rfl (st2 := []) rfl ?_
          refine g_iload_n hC dX6_road_24 rfl 1 rfl ?_
          refine g_iload_n hC dX6_road_25 rfl 2 rfl ?_
          refine g_icmp_ne hC 39 dX6_road_26 (by decide) (fun c_26 => ?_) (fun c_26 => ?_)
          · refine g_aload_n hC dX6_road_39 rfl 0 rfl ?_
            refine gf_X6_10 hC dX6_road_40 ?_
            refine gf_X6_82 hC dX6_road_43 ?_
            refine g_eqI (x' := nI nr) (by rw [v2]) ?_
            refine g_bipush (v := nI 24) hC dX6_road_46 (by decide) ?_
            refine g_icmp_lt hC 61 dX6_road_48 (by decide) (fun c_48 => ?_) (fun c_48 => ?_)
            · have d_48 : nr < 24 := (nI_ltI (by omega) (by omega)).mp c_48
              obtain ⟨a, ha, ea⟩ := inB_nI f_2 (by omega)
              obtain ⟨b, hb, eb⟩ := inB_nI f_7 (by omega)
              have hz : tcRoad ng nr p0 p1 p2 p3 = 0 := by simp [tcRoad, f_2, f_7, f_14, f_21, c_26, show ¬ nr = 24 by omega]
              subst ea eb
              refine g_aload_n hC dX6_road_61 rfl 0 rfl ?_
              refine gf_X6_10 hC dX6_road_62 ?_
              refine g_iload_n hC dX6_road_65 rfl 1 rfl ?_
              refine g_iload_n hC dX6_road_66 rfl 2 rfl ?_
              refine g_iload_n hC dX6_road_67 rfl 3 rfl ?_
              refine g_iload hC dX6_road_68 4 rfl ?_
              refine g_cV hC [.int (nI a), .int (nI b), .int p2, .int p3] 1 (m_X4_addRoad hl hG V I J nr ng a b p2 p3 v2 v1 (by omega) hg (by omega) (by omega)) rfl (st2 := [.int (nI nr)]) rfl (by decide) rfl rfl rfl tw_496 tw_497 tw_498 tw_32 tw_499 pd_X4_addRoad ⟨rfl, rfl⟩ (by rw [hRm]; exact ⟨Nat.le_of_ble_eq_true rfl, Nat.le_of_ble_eq_true rfl, Nat.le_of_ble_eq_true rfl, Nat.le_of_ble_eq_true rfl⟩) (Nat.le_of_ble_eq_true rfl) dX6_road_70 ?_
              exact g_iret hC hr dX6_road_73 (Nat.le_of_ble_eq_true rfl) (Nat.le_of_ble_eq_true rfl) ⟨hz, rfl, rfl, rfl, by omega, a, b, ha, hb, rfl, rfl, rfl⟩
            · have d_48 : ¬ nr < 24 := fun q => c_48 ((nI_ltI (by omega) (by omega)).mpr q)
              exact g_th_ISE hC hT 85 (List.mem_of_getElem? (i := 4) rfl) dX6_road_51 dX6_road_54 dX6_road_55 dX6_road_57 dX6_road_60 (by rw [hRm]; decide) (by rw [hRm]; exact Nat.le_of_ble_eq_true rfl) (by rw [hRm]; exact Nat.le_of_ble_eq_true rfl) (by rw [hRm]; exact Nat.le_of_ble_eq_true rfl) (Nat.le_of_ble_eq_true rfl) (Nat.le_of_ble_eq_true rfl) ⟨rfl, rfl, rfl, 2, rfl, by simp [tcRoad, f_2, f_7, f_14, f_21, c_26, show nr = 24 by omega]⟩
          · exact g_th_IAE hC hT 79 (List.mem_of_getElem? (i := 3) rfl) dX6_road_29 dX6_road_32 dX6_road_33 dX6_road_35 dX6_road_38 (by rw [hRm]; decide) (by rw [hRm]; exact Nat.le_of_ble_eq_true rfl) (by rw [hRm]; exact Nat.le_of_ble_eq_true rfl) (by rw [hRm]; exact Nat.le_of_ble_eq_true rfl) (Nat.le_of_ble_eq_true rfl) (Nat.le_of_ble_eq_true rfl) ⟨rfl, rfl, rfl, 1, rfl, by simp [tcRoad, f_2, f_7, f_14, f_21, c_26]⟩

set_option maxRecDepth 100000 in
theorem m_X6_rate {l : Launch} {G : wG} (hl : l.stackTraces = false) (hG : wD G) (V : wV) (I : wI) (J : wJ) (p0 p1 p2 : Int32) : Ctr l yX6_rate cX6_rate 4 none { frames := 7, cells := 6, slots := 36, locals := 112 } G [.ref (G.2.1 0), .int p0, .int p1, .int p2] V I J (fun r V9 I9 J9 => tcRate p0 p1 p2 = 0 ∧ r = none ∧ V9 = V ∧ J9 = J ∧ ∃ k, k < 3 ∧ p0 = nI k ∧ I9 = sI (sI I 12 k p1) 13 k p2) (xC V I J (tcRate p0 p1 p2) [xIAE]) := by
  refine ctr_of hl hG (by decide) (Nat.le_of_ble_eq_true rfl) [(0, .ref (G.2.1 0)), (1, .int p0), (2, .int p1), (3, .int p2)] rfl ?_
  intro K hC hKl hRm hr hT
  subst hKl
  have hC : Cx K G RX6 cX6_rate 4 := hC
  refine g_iload_n hC dX6_rate_0 rfl 1 rfl ?_
  refine g_iconst (v := nI 0) hC dX6_rate_1 (by decide) ?_
  refine g_iconst (v := nI 2) hC dX6_rate_2 (by decide) ?_
  refine g_callS hC [.int p0, .int (nI 0), .int (nI 2)] (m_X6_requireRange hl hG V I J p0 (nI 0) (nI 2)) rfl rfl tw_475 tw_476 tw_31 tw_477 pd_X6_requireRange (by rw [hRm]; exact ⟨Nat.le_of_ble_eq_true rfl, Nat.le_of_ble_eq_true rfl⟩) (Nat.le_of_ble_eq_true rfl) (by rw [hRm]; exact ⟨Nat.le_of_ble_eq_true rfl, Nat.le_of_ble_eq_true rfl⟩) dX6_rate_3 (fun E9 V9 I9 J9 hx9 => ?_) (fun r9 V9 I9 J9 hp9 => ?_)
  · obtain ⟨rfl, rfl, rfl, rfl, e_3⟩ := hx9
    exact g_out hC hT (Nat.le_of_ble_eq_true rfl) (Nat.le_of_ble_eq_true rfl) ⟨rfl, rfl, rfl, 0, rfl, by simp [tcRate, e_3]⟩
  · obtain ⟨⟨rfl, hV9, hI9, hJ9⟩, f_3⟩ := hp9
    have hV9 := hV9.symm
    have hI9 := hI9.symm
    have hJ9 := hJ9.symm
    subst hV9 hI9 hJ9
    refine g_cs (c2 := 1) (s2 := 6) rfl rfl ?_
    refine g_at rfl rfl (st2 := []) rfl ?_
    refine g_iload_n hC dX6_rate_6 rfl 2 rfl ?_
    refine g_iconst (v := nI 0) hC dX6_rate_7 (by decide) ?_
    refine g_bipush (v := nI 100) hC dX6_rate_8 (by decide) ?_
    refine g_callS hC [.int p1, .int (nI 0), .int (nI 100)] (m_X6_requireRange hl hG V I J p1 (nI 0) (nI 100)) rfl rfl tw_475 tw_476 tw_31 tw_477 pd_X6_requireRange (by rw [hRm]; exact ⟨Nat.le_of_ble_eq_true rfl, Nat.le_of_ble_eq_true rfl⟩) (Nat.le_of_ble_eq_true rfl) (by rw [hRm]; exact ⟨Nat.le_of_ble_eq_true rfl, Nat.le_of_ble_eq_true rfl⟩) dX6_rate_10 (fun E9 V9 I9 J9 hx9 => ?_) (fun r9 V9 I9 J9 hp9 => ?_)
    · obtain ⟨rfl, rfl, rfl, rfl, e_10⟩ := hx9
      exact g_out hC hT (Nat.le_of_ble_eq_true rfl) (Nat.le_of_ble_eq_true rfl) ⟨rfl, rfl, rfl, 0, rfl, by simp [tcRate, e_10]⟩
    · obtain ⟨⟨rfl, hV9, hI9, hJ9⟩, f_10⟩ := hp9
      have hV9 := hV9.symm
      have hI9 := hI9.symm
      have hJ9 := hJ9.symm
      subst hV9 hI9 hJ9
      refine g_cs (c2 := 2) (s2 := 12) rfl rfl ?_
      refine g_at rfl rfl (st2 := []) rfl ?_
      refine g_iload_n hC dX6_rate_13 rfl 3 rfl ?_
      refine g_iconst (v := nI 0) hC dX6_rate_14 (by decide) ?_
      refine g_sipush (v := nI 300) hC dX6_rate_15 (by decide) ?_
      refine g_callS hC [.int p2, .int (nI 0), .int (nI 300)] (m_X6_requireRange hl hG V I J p2 (nI 0) (nI 300)) rfl rfl tw_475 tw_476 tw_31 tw_477 pd_X6_requireRange (by rw [hRm]; exact ⟨Nat.le_of_ble_eq_true rfl, Nat.le_of_ble_eq_true rfl⟩) (Nat.le_of_ble_eq_true rfl) (by rw [hRm]; exact ⟨Nat.le_of_ble_eq_true rfl, Nat.le_of_ble_eq_true rfl⟩) dX6_rate_18 (fun E9 V9 I9 J9 hx9 => ?_) (fun r9 V9 I9 J9 hp9 => ?_)
      · obtain ⟨rfl, rfl, rfl, rfl, e_18⟩ := hx9
        exact g_out hC hT (Nat.le_of_ble_eq_true rfl) (Nat.le_of_ble_eq_true rfl) ⟨rfl, rfl, rfl, 0, rfl, by simp [tcRate, e_18]⟩
      · obtain ⟨⟨rfl, hV9, hI9, hJ9⟩, f_18⟩ := hp9
        have hV9 := hV9.symm
        have hI9 := hI9.symm
        have hJ9 := hJ9.symm
        subst hV9 hI9 hJ9
        refine g_cs (c2 := 3) (s2 := 18) rfl rfl ?_
        refine g_at rfl rfl (st2 := []) rfl ?_
        have hz : tcRate p0 p1 p2 = 0 := by simp [tcRate, f_3, f_10, f_18]
        obtain ⟨k, hk, ek⟩ := rgB_nI f_3 (by omega)
        subst ek
        refine g_aload_n hC dX6_rate_21 rfl 0 rfl ?_
        refine gf_X6_19 hC dX6_rate_22 ?_
        refine gf_X6_91 hC dX6_rate_25 ?_
        refine g_iload_n hC dX6_rate_28 rfl 1 rfl ?_
        refine g_iload_n hC dX6_rate_29 rfl 2 rfl ?_
        refine n_iast hC 12 aa_12 k (show k < 3 by omega) dX6_rate_30 ?_
        refine g_aload_n hC dX6_rate_31 rfl 0 rfl ?_
        refine gf_X6_19 hC dX6_rate_32 ?_
        refine gf_X6_95 hC dX6_rate_35 ?_
        refine g_iload_n hC dX6_rate_38 rfl 1 rfl ?_
        refine g_iload_n hC dX6_rate_39 rfl 3 rfl ?_
        refine n_iast hC 13 aa_13 k (show k < 3 by omega) dX6_rate_40 ?_
        exact g_vret hC hr dX6_rate_41 (Nat.le_of_ble_eq_true rfl) (Nat.le_of_ble_eq_true rfl) ⟨hz, rfl, rfl, rfl, k, by omega, rfl, rfl⟩

set_option maxRecDepth 100000 in
theorem m_X6_most {l : Launch} {G : wG} (hl : l.stackTraces = false) (hG : wD G) (V : wV) (I : wI) (J : wJ) (p0 : Int32) : Ctr l yX6_most cX6_most 3 (some .int) { frames := 7, cells := 6, slots := 36, locals := 112 } G [.ref (G.2.1 0), .int p0] V I J (fun r V9 I9 J9 => tcMost p0 = 0 ∧ r = some (.int (V 3)) ∧ V9 = upd V 3 p0 ∧ I9 = I ∧ J9 = J) (xC V I J (tcMost p0) [xIAE]) := by
  refine ctr_of hl hG (by decide) (Nat.le_of_ble_eq_true rfl) [(0, .ref (G.2.1 0)), (1, .int p0)] rfl ?_
  intro K hC hKl hRm hr hT
  subst hKl
  have hC : Cx K G RX6 cX6_most 3 := hC
  refine g_iload_n hC dX6_most_0 rfl 1 rfl ?_
  refine g_iconst (v := nI 0) hC dX6_most_1 (by decide) ?_
  refine g_ldc (v := nI 100000) hC tw_519 dX6_most_2 ?_
  refine g_callS hC [.int p0, .int (nI 0), .int (nI 100000)] (m_X6_requireRange hl hG V I J p0 (nI 0) (nI 100000)) rfl rfl tw_475 tw_476 tw_31 tw_477 pd_X6_requireRange (by rw [hRm]; exact ⟨Nat.le_of_ble_eq_true rfl, Nat.le_of_ble_eq_true rfl⟩) (Nat.le_of_ble_eq_true rfl) (by rw [hRm]; exact ⟨Nat.le_of_ble_eq_true rfl, Nat.le_of_ble_eq_true rfl⟩) dX6_most_4 (fun E9 V9 I9 J9 hx9 => ?_) (fun r9 V9 I9 J9 hp9 => ?_)
  · obtain ⟨rfl, rfl, rfl, rfl, e_4⟩ := hx9
    exact g_out hC hT (Nat.le_of_ble_eq_true rfl) (Nat.le_of_ble_eq_true rfl) ⟨rfl, rfl, rfl, 0, rfl, by simp [tcMost, e_4]⟩
  · obtain ⟨⟨rfl, hV9, hI9, hJ9⟩, f_4⟩ := hp9
    have hV9 := hV9.symm
    have hI9 := hI9.symm
    have hJ9 := hJ9.symm
    subst hV9 hI9 hJ9
    refine g_cs (c2 := 1) (s2 := 6) rfl rfl ?_
    refine g_at rfl rfl (st2 := []) rfl ?_
    refine g_aload_n hC dX6_most_7 rfl 0 rfl ?_
    refine gf_X6_19 hC dX6_most_8 ?_
    refine gf_X6_99 hC dX6_most_11 ?_
    refine g_istore_n hC [(2, .int (V 3)), (0, .ref (G.2.1 0)), (1, .int p0)] dX6_most_14 rfl (by decide) rfl ?_
    refine g_aload_n hC dX6_most_15 rfl 1 rfl ?_
    refine gf_X6_19 hC dX6_most_16 ?_
    refine g_iload_n hC dX6_most_19 rfl 2 rfl ?_
    refine gp_X6_99 hC dX6_most_20 ?_
    refine g_iload_n hC dX6_most_23 rfl 0 rfl ?_
    exact g_iret hC hr dX6_most_24 (Nat.le_of_ble_eq_true rfl) (Nat.le_of_ble_eq_true rfl) ⟨by simp [tcMost, f_4], rfl, rfl, rfl, rfl⟩

set_option maxRecDepth 100000 in
theorem m_X6_plate {l : Launch} {G : wG} (hl : l.stackTraces = false) (hG : wD G) (V : wV) (I : wI) (J : wJ) (p0 p1 p2 : Int32) : Ctr l yX6_plate cX6_plate 4 none { frames := 7, cells := 6, slots := 36, locals := 112 } G [.ref (G.2.1 0), .int p0, .int p1, .int p2] V I J (fun r V9 I9 J9 => tcPlate p0 p1 p2 = 0 ∧ r = none ∧ V9 = V ∧ J9 = J ∧ ∃ p, p < 10 ∧ p0 = nI p ∧ I9 = sI (sI I 14 p p1) 15 p p2) (xC V I J (tcPlate p0 p1 p2) [xIOB, xIAE]) := by
  refine ctr_of hl hG (by decide) (Nat.le_of_ble_eq_true rfl) [(0, .ref (G.2.1 0)), (1, .int p0), (2, .int p1), (3, .int p2)] rfl ?_
  intro K hC hKl hRm hr hT
  subst hKl
  have hC : Cx K G RX6 cX6_plate 4 := hC
  refine g_iload_n hC dX6_plate_0 rfl 1 rfl ?_
  refine g_callS hC [.int p0] (m_X6_requirePlate hl hG V I J p0) rfl rfl tw_527 tw_528 tw_31 tw_529 pd_X6_requirePlate (by rw [hRm]; exact ⟨Nat.le_of_ble_eq_true rfl, Nat.le_of_ble_eq_true rfl⟩) (Nat.le_of_ble_eq_true rfl) (by rw [hRm]; exact ⟨Nat.le_of_ble_eq_true rfl, Nat.le_of_ble_eq_true rfl⟩) dX6_plate_1 (fun E9 V9 I9 J9 hx9 => ?_) (fun r9 V9 I9 J9 hp9 => ?_)
  · obtain ⟨rfl, rfl, rfl, rfl, e_1⟩ := hx9
    exact g_out hC hT (Nat.le_of_ble_eq_true rfl) (Nat.le_of_ble_eq_true rfl) ⟨rfl, rfl, rfl, 0, rfl, by simp [tcPlate, e_1]⟩
  · obtain ⟨⟨rfl, hV9, hI9, hJ9⟩, f_1⟩ := hp9
    have hV9 := hV9.symm
    have hI9 := hI9.symm
    have hJ9 := hJ9.symm
    subst hV9 hI9 hJ9
    refine g_cs (c2 := 1) (s2 := 6) rfl rfl ?_
    refine g_at rfl rfl (st2 := []) rfl ?_
    refine g_iload_n hC dX6_plate_4 rfl 2 rfl ?_
    refine g_iconst (v := nI 0) hC dX6_plate_5 (by decide) ?_
    refine g_iconst (v := nI 2) hC dX6_plate_6 (by decide) ?_
    refine g_callS hC [.int p1, .int (nI 0), .int (nI 2)] (m_X6_requireRange hl hG V I J p1 (nI 0) (nI 2)) rfl rfl tw_475 tw_476 tw_31 tw_477 pd_X6_requireRange (by rw [hRm]; exact ⟨Nat.le_of_ble_eq_true rfl, Nat.le_of_ble_eq_true rfl⟩) (Nat.le_of_ble_eq_true rfl) (by rw [hRm]; exact ⟨Nat.le_of_ble_eq_true rfl, Nat.le_of_ble_eq_true rfl⟩) dX6_plate_7 (fun E9 V9 I9 J9 hx9 => ?_) (fun r9 V9 I9 J9 hp9 => ?_)
    · obtain ⟨rfl, rfl, rfl, rfl, e_7⟩ := hx9
      exact g_out hC hT (Nat.le_of_ble_eq_true rfl) (Nat.le_of_ble_eq_true rfl) ⟨rfl, rfl, rfl, 1, rfl, by simp [tcPlate, e_7, f_1]⟩
    · obtain ⟨⟨rfl, hV9, hI9, hJ9⟩, f_7⟩ := hp9
      have hV9 := hV9.symm
      have hI9 := hI9.symm
      have hJ9 := hJ9.symm
      subst hV9 hI9 hJ9
      refine g_cs (c2 := 2) (s2 := 12) rfl rfl ?_
      refine g_at rfl rfl (st2 := []) rfl ?_
      refine g_iload_n hC dX6_plate_10 rfl 3 rfl ?_
      refine g_iconst (v := (-1)) hC dX6_plate_11 (by decide) ?_
      refine g_icmp_eq hC 21 dX6_plate_12 (by decide) (fun c_12 => ?_) (fun c_12 => ?_)
      · have hz : tcPlate p0 p1 p2 = 0 := by first | simp [tcPlate, f_1, f_7, f_18] | simp [tcPlate, f_1, f_7, c_12]
        obtain ⟨p, hp, ep⟩ := inB_nI f_1 (by omega)
        subst ep
        refine g_aload_n hC dX6_plate_21 rfl 0 rfl ?_
        refine gf_X6_26 hC dX6_plate_22 ?_
        refine gf_X6_105 hC dX6_plate_25 ?_
        refine g_iload_n hC dX6_plate_28 rfl 1 rfl ?_
        refine g_iload_n hC dX6_plate_29 rfl 2 rfl ?_
        refine n_iast hC 14 aa_14 p (show p < 10 by omega) dX6_plate_30 ?_
        refine g_aload_n hC dX6_plate_31 rfl 0 rfl ?_
        refine gf_X6_26 hC dX6_plate_32 ?_
        refine gf_X6_108 hC dX6_plate_35 ?_
        refine g_iload_n hC dX6_plate_38 rfl 1 rfl ?_
        refine g_iload_n hC dX6_plate_39 rfl 3 rfl ?_
        refine n_iast hC 15 aa_15 p (show p < 10 by omega) dX6_plate_40 ?_
        exact g_vret hC hr dX6_plate_41 (Nat.le_of_ble_eq_true rfl) (Nat.le_of_ble_eq_true rfl) ⟨hz, rfl, rfl, rfl, p, by omega, rfl, rfl⟩
      · refine g_iload_n hC dX6_plate_15 rfl 3 rfl ?_
        refine g_iconst (v := nI 0) hC dX6_plate_16 (by decide) ?_
        refine g_iconst (v := nI 5) hC dX6_plate_17 (by decide) ?_
        refine g_callS hC [.int p2, .int (nI 0), .int (nI 5)] (m_X6_requireRange hl hG V I J p2 (nI 0) (nI 5)) rfl rfl tw_475 tw_476 tw_31 tw_477 pd_X6_requireRange (by rw [hRm]; exact ⟨Nat.le_of_ble_eq_true rfl, Nat.le_of_ble_eq_true rfl⟩) (Nat.le_of_ble_eq_true rfl) (by rw [hRm]; exact ⟨Nat.le_of_ble_eq_true rfl, Nat.le_of_ble_eq_true rfl⟩) dX6_plate_18 (fun E9 V9 I9 J9 hx9 => ?_) (fun r9 V9 I9 J9 hp9 => ?_)
        · obtain ⟨rfl, rfl, rfl, rfl, e_18⟩ := hx9
          exact g_out hC hT (Nat.le_of_ble_eq_true rfl) (Nat.le_of_ble_eq_true rfl) ⟨rfl, rfl, rfl, 1, rfl, by simp [tcPlate, e_18, f_1, f_7, c_12]⟩
        · obtain ⟨⟨rfl, hV9, hI9, hJ9⟩, f_18⟩ := hp9
          have hV9 := hV9.symm
          have hI9 := hI9.symm
          have hJ9 := hJ9.symm
          subst hV9 hI9 hJ9
          refine g_cs (c2 := 3) (s2 := 18) rfl rfl ?_
          refine g_at rfl rfl (st2 := []) rfl ?_
          have hz : tcPlate p0 p1 p2 = 0 := by first | simp [tcPlate, f_1, f_7, f_18] | simp [tcPlate, f_1, f_7, c_12]
          obtain ⟨p, hp, ep⟩ := inB_nI f_1 (by omega)
          subst ep
          refine g_aload_n hC dX6_plate_21 rfl 0 rfl ?_
          refine gf_X6_26 hC dX6_plate_22 ?_
          refine gf_X6_105 hC dX6_plate_25 ?_
          refine g_iload_n hC dX6_plate_28 rfl 1 rfl ?_
          refine g_iload_n hC dX6_plate_29 rfl 2 rfl ?_
          refine n_iast hC 14 aa_14 p (show p < 10 by omega) dX6_plate_30 ?_
          refine g_aload_n hC dX6_plate_31 rfl 0 rfl ?_
          refine gf_X6_26 hC dX6_plate_32 ?_
          refine gf_X6_108 hC dX6_plate_35 ?_
          refine g_iload_n hC dX6_plate_38 rfl 1 rfl ?_
          refine g_iload_n hC dX6_plate_39 rfl 3 rfl ?_
          refine n_iast hC 15 aa_15 p (show p < 10 by omega) dX6_plate_40 ?_
          exact g_vret hC hr dX6_plate_41 (Nat.le_of_ble_eq_true rfl) (Nat.le_of_ble_eq_true rfl) ⟨hz, rfl, rfl, rfl, p, by omega, rfl, rfl⟩

set_option maxRecDepth 100000 in
theorem m_X6_top {l : Launch} {G : wG} (hl : l.stackTraces = false) (hG : wD G) (V : wV) (I : wI) (J : wJ) (p0 p1 : Int32) : Ctr l yX6_top cX6_top 3 (some .long) { frames := 7, cells := 6, slots := 36, locals := 112 } G [.ref (G.2.1 0), .int p0, .int p1] V I J (fun r V9 I9 J9 => tcTop p0 p1 = 0 ∧ V9 = V ∧ I9 = I ∧ ∃ h, h < 6 ∧ p0 = nI h ∧ r = some (.long (J 29 h + p1.toInt64)) ∧ J9 = sJ J 29 h (J 29 h + p1.toInt64)) (xC V I J (tcTop p0 p1) [xIOB, xIAE]) := by
  refine ctr_of hl hG (by decide) (Nat.le_of_ble_eq_true rfl) [(0, .ref (G.2.1 0)), (1, .int p0), (2, .int p1)] rfl ?_
  intro K hC hKl hRm hr hT
  subst hKl
  have hC : Cx K G RX6 cX6_top 3 := hC
  refine g_iload_n hC dX6_top_0 rfl 1 rfl ?_
  refine g_callS hC [.int p0] (m_X6_requireHolder hl hG V I J p0) rfl rfl tw_538 tw_539 tw_31 tw_540 pd_X6_requireHolder (by rw [hRm]; exact ⟨Nat.le_of_ble_eq_true rfl, Nat.le_of_ble_eq_true rfl⟩) (Nat.le_of_ble_eq_true rfl) (by rw [hRm]; exact ⟨Nat.le_of_ble_eq_true rfl, Nat.le_of_ble_eq_true rfl⟩) dX6_top_1 (fun E9 V9 I9 J9 hx9 => ?_) (fun r9 V9 I9 J9 hp9 => ?_)
  · obtain ⟨rfl, rfl, rfl, rfl, e_1⟩ := hx9
    exact g_out hC hT (Nat.le_of_ble_eq_true rfl) (Nat.le_of_ble_eq_true rfl) ⟨rfl, rfl, rfl, 0, rfl, by simp [tcTop, e_1]⟩
  · obtain ⟨⟨rfl, hV9, hI9, hJ9⟩, f_1⟩ := hp9
    have hV9 := hV9.symm
    have hI9 := hI9.symm
    have hJ9 := hJ9.symm
    subst hV9 hI9 hJ9
    refine g_cs (c2 := 1) (s2 := 6) rfl rfl ?_
    refine g_at rfl rfl (st2 := []) rfl ?_
    refine g_iload_n hC dX6_top_4 rfl 2 rfl ?_
    refine g_iconst (v := nI 1) hC dX6_top_5 (by decide) ?_
    refine g_ldc (v := nI 100000) hC tw_519 dX6_top_6 ?_
    refine g_callS hC [.int p1, .int (nI 1), .int (nI 100000)] (m_X6_requireRange hl hG V I J p1 (nI 1) (nI 100000)) rfl rfl tw_475 tw_476 tw_31 tw_477 pd_X6_requireRange (by rw [hRm]; exact ⟨Nat.le_of_ble_eq_true rfl, Nat.le_of_ble_eq_true rfl⟩) (Nat.le_of_ble_eq_true rfl) (by rw [hRm]; exact ⟨Nat.le_of_ble_eq_true rfl, Nat.le_of_ble_eq_true rfl⟩) dX6_top_8 (fun E9 V9 I9 J9 hx9 => ?_) (fun r9 V9 I9 J9 hp9 => ?_)
    · obtain ⟨rfl, rfl, rfl, rfl, e_8⟩ := hx9
      exact g_out hC hT (Nat.le_of_ble_eq_true rfl) (Nat.le_of_ble_eq_true rfl) ⟨rfl, rfl, rfl, 1, rfl, by simp [tcTop, e_8, f_1]⟩
    · obtain ⟨⟨rfl, hV9, hI9, hJ9⟩, f_8⟩ := hp9
      have hV9 := hV9.symm
      have hI9 := hI9.symm
      have hJ9 := hJ9.symm
      subst hV9 hI9 hJ9
      refine g_cs (c2 := 2) (s2 := 12) rfl rfl ?_
      refine g_at rfl rfl (st2 := []) rfl ?_
      have hz : tcTop p0 p1 = 0 := by simp [tcTop, f_1, f_8]
      obtain ⟨h, hh, eh⟩ := inB_nI f_1 (by omega)
      subst eh
      refine g_aload_n hC dX6_top_11 rfl 0 rfl ?_
      refine gf_X6_47 hC dX6_top_12 ?_
      refine gf_X6_114 hC dX6_top_15 ?_
      refine g_iload_n hC dX6_top_18 rfl 1 rfl ?_
      refine g_dup2 hC dX6_top_19 rfl rfl ?_
      refine n_lald hC 29 aa_29 h (show h < 6 by omega) dX6_top_20 ?_
      refine g_iload_n hC dX6_top_21 rfl 2 rfl ?_
      refine g_i2l hC dX6_top_22 ?_
      refine g_ladd hC dX6_top_23 ?_
      refine n_last hC 29 aa_29 h (show h < 6 by omega) dX6_top_24 ?_
      refine g_aload_n hC dX6_top_25 rfl 0 rfl ?_
      refine gf_X6_47 hC dX6_top_26 ?_
      refine gf_X6_114 hC dX6_top_29 ?_
      refine g_iload_n hC dX6_top_32 rfl 1 rfl ?_
      refine n_lald hC 29 aa_29 h (show h < 6 by omega) dX6_top_33 ?_
      refine g_eqL (x' := J 29 h + p1.toInt64) (by rw [uJ_s, pk_uLs]) ?_
      exact g_lret hC hr dX6_top_34 (Nat.le_of_ble_eq_true rfl) (Nat.le_of_ble_eq_true rfl) ⟨hz, rfl, rfl, h, hh, rfl, rfl, rfl⟩

set_option maxRecDepth 100000 in
theorem m_X6_exempt {l : Launch} {G : wG} (hl : l.stackTraces = false) (hG : wD G) (V : wV) (I : wI) (J : wJ) (ns : Nat) (p0 p1 p2 : Int32) (v4 : V 4 = nI ns) (hs : ns ≤ 20) : Ctr l yX6_exempt cX6_exempt 4 (some .int) { frames := 7, cells := 6, slots := 36, locals := 112 } G [.ref (G.2.1 0), .int p0, .int p1, .int p2] V I J (fun r V9 I9 J9 => tcExempt ns p0 p1 p2 = 0 ∧ r = some (.int (nI (ns + 1))) ∧ V9 = upd V 4 (nI (ns + 1)) ∧ ns < 20 ∧ I9 = uI (uI (uI I 16 (upd (I 16) ns p0)) 17 (upd (I 17) ns p1)) 18 (upd (I 18) ns p2) ∧ J9 = J) (xC V I J (tcExempt ns p0 p1 p2) [xIOB, xIAE, xISE]) := by
  refine ctr_of hl hG (by decide) (Nat.le_of_ble_eq_true rfl) [(0, .ref (G.2.1 0)), (1, .int p0), (2, .int p1), (3, .int p2)] rfl ?_
  intro K hC hKl hRm hr hT
  subst hKl
  have hC : Cx K G RX6 cX6_exempt 4 := hC
  refine g_iload_n hC dX6_exempt_0 rfl 1 rfl ?_
  refine g_callS hC [.int p0] (m_X6_requirePlate hl hG V I J p0) rfl rfl tw_527 tw_528 tw_31 tw_529 pd_X6_requirePlate (by rw [hRm]; exact ⟨Nat.le_of_ble_eq_true rfl, Nat.le_of_ble_eq_true rfl⟩) (Nat.le_of_ble_eq_true rfl) (by rw [hRm]; exact ⟨Nat.le_of_ble_eq_true rfl, Nat.le_of_ble_eq_true rfl⟩) dX6_exempt_1 (fun E9 V9 I9 J9 hx9 => ?_) (fun r9 V9 I9 J9 hp9 => ?_)
  · obtain ⟨rfl, rfl, rfl, rfl, e_1⟩ := hx9
    exact g_out hC hT (Nat.le_of_ble_eq_true rfl) (Nat.le_of_ble_eq_true rfl) ⟨rfl, rfl, rfl, 0, rfl, by simp [tcExempt, e_1]⟩
  · obtain ⟨⟨rfl, hV9, hI9, hJ9⟩, f_1⟩ := hp9
    have hV9 := hV9.symm
    have hI9 := hI9.symm
    have hJ9 := hJ9.symm
    subst hV9 hI9 hJ9
    refine g_cs (c2 := 1) (s2 := 6) rfl rfl ?_
    refine g_at rfl rfl (st2 := []) rfl ?_
    refine g_iload_n hC dX6_exempt_4 rfl 2 rfl ?_
    refine g_iconst (v := nI 0) hC dX6_exempt_5 (by decide) ?_
    refine g_ldc (v := nI 100000) hC tw_519 dX6_exempt_6 ?_
    refine g_callS hC [.int p1, .int (nI 0), .int (nI 100000)] (m_X6_requireRange hl hG V I J p1 (nI 0) (nI 100000)) rfl rfl tw_475 tw_476 tw_31 tw_477 pd_X6_requireRange (by rw [hRm]; exact ⟨Nat.le_of_ble_eq_true rfl, Nat.le_of_ble_eq_true rfl⟩) (Nat.le_of_ble_eq_true rfl) (by rw [hRm]; exact ⟨Nat.le_of_ble_eq_true rfl, Nat.le_of_ble_eq_true rfl⟩) dX6_exempt_8 (fun E9 V9 I9 J9 hx9 => ?_) (fun r9 V9 I9 J9 hp9 => ?_)
    · obtain ⟨rfl, rfl, rfl, rfl, e_8⟩ := hx9
      exact g_out hC hT (Nat.le_of_ble_eq_true rfl) (Nat.le_of_ble_eq_true rfl) ⟨rfl, rfl, rfl, 1, rfl, by simp [tcExempt, e_8, f_1]⟩
    · obtain ⟨⟨rfl, hV9, hI9, hJ9⟩, f_8⟩ := hp9
      have hV9 := hV9.symm
      have hI9 := hI9.symm
      have hJ9 := hJ9.symm
      subst hV9 hI9 hJ9
      refine g_cs (c2 := 2) (s2 := 12) rfl rfl ?_
      refine g_at rfl rfl (st2 := []) rfl ?_
      refine g_iload_n hC dX6_exempt_11 rfl 3 rfl ?_
      refine g_iload_n hC dX6_exempt_12 rfl 2 rfl ?_
      refine g_ldc (v := nI 100000) hC tw_519 dX6_exempt_13 ?_
      refine g_callS hC [.int p2, .int p1, .int (nI 100000)] (m_X6_requireRange hl hG V I J p2 p1 (nI 100000)) rfl rfl tw_475 tw_476 tw_31 tw_477 pd_X6_requireRange (by rw [hRm]; exact ⟨Nat.le_of_ble_eq_true rfl, Nat.le_of_ble_eq_true rfl⟩) (Nat.le_of_ble_eq_true rfl) (by rw [hRm]; exact ⟨Nat.le_of_ble_eq_true rfl, Nat.le_of_ble_eq_true rfl⟩) dX6_exempt_15 (fun E9 V9 I9 J9 hx9 => ?_) (fun r9 V9 I9 J9 hp9 => ?_)
      · obtain ⟨rfl, rfl, rfl, rfl, e_15⟩ := hx9
        exact g_out hC hT (Nat.le_of_ble_eq_true rfl) (Nat.le_of_ble_eq_true rfl) ⟨rfl, rfl, rfl, 1, rfl, by simp [tcExempt, e_15, f_1, f_8]⟩
      · obtain ⟨⟨rfl, hV9, hI9, hJ9⟩, f_15⟩ := hp9
        have hV9 := hV9.symm
        have hI9 := hI9.symm
        have hJ9 := hJ9.symm
        subst hV9 hI9 hJ9
        refine g_cs (c2 := 3) (s2 := 18) rfl rfl ?_
        refine g_at rfl rfl (st2 := []) rfl ?_
        refine g_aload_n hC dX6_exempt_18 rfl 0 rfl ?_
        refine gf_X6_26 hC dX6_exempt_19 ?_
        refine gf_X6_118 hC dX6_exempt_22 ?_
        refine g_eqI (x' := nI ns) (by rw [v4]) ?_
        refine g_bipush (v := nI 20) hC dX6_exempt_25 (by decide) ?_
        refine g_icmp_lt hC 40 dX6_exempt_27 (by decide) (fun c_27 => ?_) (fun c_27 => ?_)
        · have d_27 : ns < 20 := (nI_ltI (by omega) (by omega)).mp c_27
          refine g_aload_n hC dX6_exempt_40 rfl 0 rfl ?_
          refine gf_X6_26 hC dX6_exempt_41 ?_
          refine g_iload_n hC dX6_exempt_44 rfl 1 rfl ?_
          refine g_iload_n hC dX6_exempt_45 rfl 2 rfl ?_
          refine g_iload_n hC dX6_exempt_46 rfl 3 rfl ?_
          refine g_cV hC [.int p0, .int p1, .int p2] 3 (m_X2_addSpan hl hG V I J ns p0 p1 p2 v4 (by omega)) rfl (st2 := [.int (nI (ns + 1))]) rfl (by decide) rfl rfl rfl tw_550 tw_551 tw_552 tw_34 tw_553 pd_X2_addSpan ⟨rfl, rfl⟩ (by rw [hRm]; exact ⟨Nat.le_of_ble_eq_true rfl, Nat.le_of_ble_eq_true rfl, Nat.le_of_ble_eq_true rfl, Nat.le_of_ble_eq_true rfl⟩) (Nat.le_of_ble_eq_true rfl) dX6_exempt_47 ?_
          exact g_iret hC hr dX6_exempt_50 (Nat.le_of_ble_eq_true rfl) (Nat.le_of_ble_eq_true rfl) ⟨by simp [tcExempt, f_1, f_8, f_15, show ¬ ns = 20 by omega], rfl, rfl, by omega, rfl, rfl⟩
        · have d_27 : ¬ ns < 20 := fun q => c_27 ((nI_ltI (by omega) (by omega)).mpr q)
          exact g_th_ISE hC hT 121 (List.mem_of_getElem? (i := 7) rfl) dX6_exempt_30 dX6_exempt_33 dX6_exempt_34 dX6_exempt_36 dX6_exempt_39 (by rw [hRm]; decide) (by rw [hRm]; exact Nat.le_of_ble_eq_true rfl) (by rw [hRm]; exact Nat.le_of_ble_eq_true rfl) (by rw [hRm]; exact Nat.le_of_ble_eq_true rfl) (Nat.le_of_ble_eq_true rfl) (Nat.le_of_ble_eq_true rfl) ⟨rfl, rfl, rfl, 2, rfl, by simp [tcExempt, f_1, f_8, f_15, show ns = 20 by omega]⟩

set_option maxRecDepth 100000 in
theorem m_X6_read {l : Launch} {G : wG} (hl : l.stackTraces = false) (hG : wD G) (V : wV) (I : wI) (J : wJ) (ng n : Nat) (p0 p1 p2 : Int32) (v1 : V 1 = nI ng) (v5 : V 5 = nI n) (hg : ng ≤ 12) (hn : n ≤ 100) (ho : wfO I n) : Ctr l yX6_read cX6_read 4 (some .int) { frames := 7, cells := 6, slots := 36, locals := 112 } G [.ref (G.2.1 0), .int p0, .int p1, .int p2] V I J (fun r V9 I9 J9 => tcRead ng n (V 0) p0 p1 p2 = 0 ∧ r = some (.int (nI n)) ∧ V9 = upd V 5 (nI (n + 1)) ∧ n < 100 ∧ J9 = J ∧ ∃ q, q ≤ n ∧ I9 = uI (rdI I n p0 p1 p2) 23 (upd (shf (I 23) n q) q (nI n)) ∧ (q = 0 ∨ I 21 (I 23 (q - 1)).toNatClampNeg ≤ p2) ∧ ∀ z, q ≤ z → z < n → p2 < I 21 (I 23 z).toNatClampNeg) (xC V I J (tcRead ng n (V 0) p0 p1 p2) [xIOB, xIAE, xISE]) := by
  refine ctr_of hl hG (by decide) (Nat.le_of_ble_eq_true rfl) [(0, .ref (G.2.1 0)), (1, .int p0), (2, .int p1), (3, .int p2)] rfl ?_
  intro K hC hKl hRm hr hT
  subst hKl
  have hC : Cx K G RX6 cX6_read 4 := hC
  refine g_aload_n hC dX6_read_0 rfl 0 rfl ?_
  refine g_iload_n hC dX6_read_1 rfl 1 rfl ?_
  refine g_callV hC [.int p0] 0 (m_X6_requireGate hl hG V I J ng p0 v1) rfl (by decide) rfl rfl rfl tw_455 tw_457 tw_9 tw_31 tw_458 pd_X6_requireGate (by rw [hRm]; exact ⟨Nat.le_of_ble_eq_true rfl, Nat.le_of_ble_eq_true rfl⟩) (Nat.le_of_ble_eq_true rfl) (by rw [hRm]; exact ⟨Nat.le_of_ble_eq_true rfl, Nat.le_of_ble_eq_true rfl⟩) dX6_read_2 (fun E9 V9 I9 J9 hx9 => ?_) (fun r9 V9 I9 J9 hp9 => ?_)
  · obtain ⟨rfl, rfl, rfl, rfl, e_2⟩ := hx9
    exact g_out hC hT (Nat.le_of_ble_eq_true rfl) (Nat.le_of_ble_eq_true rfl) ⟨rfl, rfl, rfl, 0, rfl, by simp [tcRead, e_2]⟩
  · obtain ⟨⟨rfl, hV9, hI9, hJ9⟩, f_2⟩ := hp9
    have hV9 := hV9.symm
    have hI9 := hI9.symm
    have hJ9 := hJ9.symm
    subst hV9 hI9 hJ9
    refine g_cs (c2 := 1) (s2 := 6) rfl rfl ?_
    refine g_at rfl rfl (st2 := []) rfl ?_
    refine g_iload_n hC dX6_read_5 rfl 2 rfl ?_
    refine g_callS hC [.int p1] (m_X6_requirePlate hl hG V I J p1) rfl rfl tw_527 tw_528 tw_31 tw_529 pd_X6_requirePlate (by rw [hRm]; exact ⟨Nat.le_of_ble_eq_true rfl, Nat.le_of_ble_eq_true rfl⟩) (Nat.le_of_ble_eq_true rfl) (by rw [hRm]; exact ⟨Nat.le_of_ble_eq_true rfl, Nat.le_of_ble_eq_true rfl⟩) dX6_read_6 (fun E9 V9 I9 J9 hx9 => ?_) (fun r9 V9 I9 J9 hp9 => ?_)
    · obtain ⟨rfl, rfl, rfl, rfl, e_6⟩ := hx9
      exact g_out hC hT (Nat.le_of_ble_eq_true rfl) (Nat.le_of_ble_eq_true rfl) ⟨rfl, rfl, rfl, 0, rfl, by simp [tcRead, e_6]⟩
    · obtain ⟨⟨rfl, hV9, hI9, hJ9⟩, f_6⟩ := hp9
      have hV9 := hV9.symm
      have hI9 := hI9.symm
      have hJ9 := hJ9.symm
      subst hV9 hI9 hJ9
      refine g_cs (c2 := 2) (s2 := 12) rfl rfl ?_
      refine g_at rfl rfl (st2 := []) rfl ?_
      refine g_iload_n hC dX6_read_9 rfl 3 rfl ?_
      refine g_iconst (v := nI 0) hC dX6_read_10 (by decide) ?_
      refine g_aload_n hC dX6_read_11 rfl 0 rfl ?_
      refine gf_X6_51 hC dX6_read_12 ?_
      refine g_callS hC [.int p2, .int (nI 0), .int (V 0)] (m_X6_requireRange hl hG V I J p2 (nI 0) (V 0)) rfl rfl tw_475 tw_476 tw_31 tw_477 pd_X6_requireRange (by rw [hRm]; exact ⟨Nat.le_of_ble_eq_true rfl, Nat.le_of_ble_eq_true rfl⟩) (Nat.le_of_ble_eq_true rfl) (by rw [hRm]; exact ⟨Nat.le_of_ble_eq_true rfl, Nat.le_of_ble_eq_true rfl⟩) dX6_read_15 (fun E9 V9 I9 J9 hx9 => ?_) (fun r9 V9 I9 J9 hp9 => ?_)
      · obtain ⟨rfl, rfl, rfl, rfl, e_15⟩ := hx9
        exact g_out hC hT (Nat.le_of_ble_eq_true rfl) (Nat.le_of_ble_eq_true rfl) ⟨rfl, rfl, rfl, 1, rfl, by simp [tcRead, e_15, f_2, f_6]⟩
      · obtain ⟨⟨rfl, hV9, hI9, hJ9⟩, f_15⟩ := hp9
        have hV9 := hV9.symm
        have hI9 := hI9.symm
        have hJ9 := hJ9.symm
        subst hV9 hI9 hJ9
        refine g_cs (c2 := 3) (s2 := 18) rfl rfl ?_
        refine g_at rfl rfl (st2 := []) rfl ?_
        refine g_aload_n hC dX6_read_18 rfl 0 rfl ?_
        refine gf_X6_33 hC dX6_read_19 ?_
        refine gf_X6_127 hC dX6_read_22 ?_
        refine g_eqI (x' := nI n) (by rw [v5]) ?_
        refine g_bipush (v := nI 100) hC dX6_read_25 (by decide) ?_
        refine g_icmp_lt hC 40 dX6_read_27 (by decide) (fun c_27 => ?_) (fun c_27 => ?_)
        · have d_27 : n < 100 := (nI_ltI (by omega) (by omega)).mp c_27
          refine g_aload_n hC dX6_read_40 rfl 0 rfl ?_
          refine gf_X6_33 hC dX6_read_41 ?_
          refine g_iload_n hC dX6_read_44 rfl 1 rfl ?_
          refine g_iload_n hC dX6_read_45 rfl 2 rfl ?_
          refine g_iload_n hC dX6_read_46 rfl 3 rfl ?_
          refine g_cVr hC [.int p0, .int p1, .int p2] 4 (m_X3_add hl hG V I J n p0 p1 p2 v5 (by omega) ho) rfl (by decide) rfl rfl rfl tw_562 tw_563 tw_564 tw_35 tw_565 pd_X3_add ⟨rfl, rfl⟩ (by rw [hRm]; exact ⟨Nat.le_of_ble_eq_true rfl, Nat.le_of_ble_eq_true rfl, Nat.le_of_ble_eq_true rfl, Nat.le_of_ble_eq_true rfl⟩) (Nat.le_of_ble_eq_true rfl) dX6_read_47 (fun r9 V9 I9 J9 hp9 => ?_)
          obtain ⟨rfl, rfl, hJ9, q, hq, rfl, hq1, hq2⟩ := hp9
          have hJ9 := hJ9.symm
          subst hJ9
          refine g_at rfl rfl (st2 := [.int (nI n)]) rfl ?_
          exact g_iret hC hr dX6_read_50 (Nat.le_of_ble_eq_true rfl) (Nat.le_of_ble_eq_true rfl) ⟨by simp [tcRead, f_2, f_6, f_15, show ¬ n = 100 by omega], rfl, rfl, by omega, rfl, q, hq, rfl, hq1, hq2⟩
        · have d_27 : ¬ n < 100 := fun q => c_27 ((nI_ltI (by omega) (by omega)).mpr q)
          exact g_th_ISE hC hT 130 (List.mem_of_getElem? (i := 8) rfl) dX6_read_30 dX6_read_33 dX6_read_34 dX6_read_36 dX6_read_39 (by rw [hRm]; decide) (by rw [hRm]; exact Nat.le_of_ble_eq_true rfl) (by rw [hRm]; exact Nat.le_of_ble_eq_true rfl) (by rw [hRm]; exact Nat.le_of_ble_eq_true rfl) (Nat.le_of_ble_eq_true rfl) (Nat.le_of_ble_eq_true rfl) ⟨rfl, rfl, rfl, 2, rfl, by simp [tcRead, f_2, f_6, f_15, show n = 100 by omega]⟩

set_option maxRecDepth 100000 in
theorem m_X6_strike {l : Launch} {G : wG} (hl : l.stackTraces = false) (hG : wD G) (V : wV) (I : wI) (J : wJ) (n : Nat) (p0 : Int32) (v5 : V 5 = nI n) (hn : n ≤ 100) : Ctr l yX6_strike cX6_strike 2 none { frames := 7, cells := 6, slots := 36, locals := 112 } G [.ref (G.2.1 0), .int p0] V I J (fun r V9 I9 J9 => tcStrike I n p0 = 0 ∧ r = none ∧ V9 = V ∧ J9 = J ∧ ∃ q, q < n ∧ p0 = nI q ∧ I9 = sI I 22 q (nI 1)) (xC V I J (tcStrike I n p0) [xIOB, xISE]) := by
  refine ctr_of hl hG (by decide) (Nat.le_of_ble_eq_true rfl) [(0, .ref (G.2.1 0)), (1, .int p0)] rfl ?_
  intro K hC hKl hRm hr hT
  subst hKl
  have hC : Cx K G RX6 cX6_strike 2 := hC
  refine g_aload_n hC dX6_strike_0 rfl 0 rfl ?_
  refine g_iload_n hC dX6_strike_1 rfl 1 rfl ?_
  refine g_callV hC [.int p0] 0 (m_X6_requireReading hl hG V I J n p0 v5) rfl (by decide) rfl rfl rfl tw_573 tw_575 tw_11 tw_31 tw_576 pd_X6_requireReading (by rw [hRm]; exact ⟨Nat.le_of_ble_eq_true rfl, Nat.le_of_ble_eq_true rfl⟩) (Nat.le_of_ble_eq_true rfl) (by rw [hRm]; exact ⟨Nat.le_of_ble_eq_true rfl, Nat.le_of_ble_eq_true rfl⟩) dX6_strike_2 (fun E9 V9 I9 J9 hx9 => ?_) (fun r9 V9 I9 J9 hp9 => ?_)
  · obtain ⟨rfl, rfl, rfl, rfl, e_2⟩ := hx9
    exact g_out hC hT (Nat.le_of_ble_eq_true rfl) (Nat.le_of_ble_eq_true rfl) ⟨rfl, rfl, rfl, 0, rfl, by simp [tcStrike, e_2]⟩
  · obtain ⟨⟨rfl, hV9, hI9, hJ9⟩, f_2⟩ := hp9
    have hV9 := hV9.symm
    have hI9 := hI9.symm
    have hJ9 := hJ9.symm
    subst hV9 hI9 hJ9
    refine g_cs (c2 := 1) (s2 := 6) rfl rfl ?_
    refine g_at rfl rfl (st2 := []) rfl ?_
    obtain ⟨q, hq, eq9⟩ := inB_nI f_2 (by omega)
    have hcl : tn p0 = q := by rw [eq9]; exact nI_clamp (by omega)
    subst eq9
    refine g_aload_n hC dX6_strike_5 rfl 0 rfl ?_
    refine gf_X6_33 hC dX6_strike_6 ?_
    refine gf_X6_138 hC dX6_strike_9 ?_
    refine g_iload_n hC dX6_strike_12 rfl 1 rfl ?_
    refine n_zald hC 22 aa_22 q (show q < 100 by omega) dX6_strike_13 ?_
    refine g_if_eq hC 27 dX6_strike_14 (by decide) (fun c_14 => ?_) (fun c_14 => ?_)
    · refine g_aload_n hC dX6_strike_27 rfl 0 rfl ?_
      refine gf_X6_33 hC dX6_strike_28 ?_
      refine gf_X6_138 hC dX6_strike_31 ?_
      refine g_iload_n hC dX6_strike_34 rfl 1 rfl ?_
      refine g_iconst (v := nI 1) hC dX6_strike_35 (by decide) ?_
      refine n_zast hC 22 aa_22 q (show q < 100 by omega) rfl dX6_strike_36 ?_
      exact g_vret hC hr dX6_strike_37 (Nat.le_of_ble_eq_true rfl) (Nat.le_of_ble_eq_true rfl) ⟨by unfold tcStrike; rw [if_pos f_2, hcl, if_pos c_14], rfl, rfl, rfl, q, hq, rfl, rfl⟩
    · exact g_th_ISE hC hT 142 (List.mem_of_getElem? (i := 10) rfl) dX6_strike_17 dX6_strike_20 dX6_strike_21 dX6_strike_23 dX6_strike_26 (by rw [hRm]; decide) (by rw [hRm]; exact Nat.le_of_ble_eq_true rfl) (by rw [hRm]; exact Nat.le_of_ble_eq_true rfl) (by rw [hRm]; exact Nat.le_of_ble_eq_true rfl) (Nat.le_of_ble_eq_true rfl) (Nat.le_of_ble_eq_true rfl) ⟨rfl, rfl, rfl, 1, rfl, by unfold tcStrike; rw [if_pos f_2, hcl, if_neg c_14]⟩

set_option maxRecDepth 100000 in
theorem m_X6_pass {l : Launch} {G : wG} (hl : l.stackTraces = false) (hG : wD G) (V : wV) (I : wI) (J : wJ) (p0 : Int32) : Ctr l yX6_pass cX6_pass 2 (some .int) { frames := 7, cells := 6, slots := 36, locals := 112 } G [.ref (G.2.1 0), .int p0] V I J (fun r V9 I9 J9 => tcPass (V 0) p0 = 0 ∧ r = some (.int (V 0 + p0)) ∧ V9 = upd V 0 (V 0 + p0) ∧ I9 = I ∧ J9 = J) (xC V I J (tcPass (V 0) p0) [xIAE, xISE]) := by
  refine ctr_of hl hG (by decide) (Nat.le_of_ble_eq_true rfl) [(0, .ref (G.2.1 0)), (1, .int p0)] rfl ?_
  intro K hC hKl hRm hr hT
  subst hKl
  have hC : Cx K G RX6 cX6_pass 2 := hC
  refine g_iload_n hC dX6_pass_0 rfl 1 rfl ?_
  refine g_iconst (v := nI 1) hC dX6_pass_1 (by decide) ?_
  refine g_sipush (v := nI 1440) hC dX6_pass_2 (by decide) ?_
  refine g_callS hC [.int p0, .int (nI 1), .int (nI 1440)] (m_X6_requireRange hl hG V I J p0 (nI 1) (nI 1440)) rfl rfl tw_475 tw_476 tw_31 tw_477 pd_X6_requireRange (by rw [hRm]; exact ⟨Nat.le_of_ble_eq_true rfl, Nat.le_of_ble_eq_true rfl⟩) (Nat.le_of_ble_eq_true rfl) (by rw [hRm]; exact ⟨Nat.le_of_ble_eq_true rfl, Nat.le_of_ble_eq_true rfl⟩) dX6_pass_5 (fun E9 V9 I9 J9 hx9 => ?_) (fun r9 V9 I9 J9 hp9 => ?_)
  · obtain ⟨rfl, rfl, rfl, rfl, e_5⟩ := hx9
    exact g_out hC hT (Nat.le_of_ble_eq_true rfl) (Nat.le_of_ble_eq_true rfl) ⟨rfl, rfl, rfl, 0, rfl, by simp [tcPass, e_5]⟩
  · obtain ⟨⟨rfl, hV9, hI9, hJ9⟩, f_5⟩ := hp9
    have hV9 := hV9.symm
    have hI9 := hI9.symm
    have hJ9 := hJ9.symm
    subst hV9 hI9 hJ9
    refine g_cs (c2 := 1) (s2 := 6) rfl rfl ?_
    refine g_at rfl rfl (st2 := []) rfl ?_
    refine g_aload_n hC dX6_pass_8 rfl 0 rfl ?_
    refine gf_X6_51 hC dX6_pass_9 ?_
    refine g_iload_n hC dX6_pass_12 rfl 1 rfl ?_
    refine g_iadd hC dX6_pass_13 ?_
    refine g_ldc (v := nI 100000) hC tw_519 dX6_pass_14 ?_
    refine g_icmp_le hC 29 dX6_pass_16 (by decide) (fun c_16 => ?_) (fun c_16 => ?_)
    · refine g_aload_n hC dX6_pass_29 rfl 0 rfl ?_
      refine g_dup hC dX6_pass_30 rfl ?_
      refine gf_X6_51 hC dX6_pass_31 ?_
      refine g_iload_n hC dX6_pass_34 rfl 1 rfl ?_
      refine g_iadd hC dX6_pass_35 ?_
      refine gp_X6_51 hC dX6_pass_36 ?_
      refine g_aload_n hC dX6_pass_39 rfl 0 rfl ?_
      refine gf_X6_51 hC dX6_pass_40 ?_
      refine g_eqI (x' := (V 0) + (p0)) (by rw [pk_us]) ?_
      exact g_iret hC hr dX6_pass_43 (Nat.le_of_ble_eq_true rfl) (Nat.le_of_ble_eq_true rfl) ⟨by unfold tcPass; rw [if_pos f_5, if_pos c_16], rfl, rfl, rfl, rfl⟩
    · exact g_th_ISE hC hT 144 (List.mem_of_getElem? (i := 11) rfl) dX6_pass_19 dX6_pass_22 dX6_pass_23 dX6_pass_25 dX6_pass_28 (by rw [hRm]; decide) (by rw [hRm]; exact Nat.le_of_ble_eq_true rfl) (by rw [hRm]; exact Nat.le_of_ble_eq_true rfl) (by rw [hRm]; exact Nat.le_of_ble_eq_true rfl) (Nat.le_of_ble_eq_true rfl) (Nat.le_of_ble_eq_true rfl) ⟨rfl, rfl, rfl, 1, rfl, by unfold tcPass; rw [if_pos f_5, if_neg c_16]⟩

set_option maxRecDepth 100000 in
theorem m_X6_distance {l : Launch} {G : wG} (hl : l.stackTraces = false) (hG : wD G) (V : wV) (I : wI) (J : wJ) (ng : Nat) (p0 p1 : Int32) (v1 : V 1 = nI ng) (hg : ng ≤ 12) : Ctr l yX6_distance cX6_distance 3 (some .int) { frames := 7, cells := 6, slots := 36, locals := 112 } G [.ref (G.2.1 0), .int p0, .int p1] V I J (fun r V9 I9 J9 => tcDist ng p0 p1 = 0 ∧ V9 = V ∧ I9 = I ∧ J9 = J ∧ ∃ a b, a < ng ∧ b < ng ∧ p0 = nI a ∧ p1 = nI b ∧ r = some (.int (if I (35 + a) b < nI 1000000 then I (35 + a) b else -1))) (xC V I J (tcDist ng p0 p1) [xIOB]) := by
  refine ctr_of hl hG (by decide) (Nat.le_of_ble_eq_true rfl) [(0, .ref (G.2.1 0)), (1, .int p0), (2, .int p1)] rfl ?_
  intro K hC hKl hRm hr hT
  subst hKl
  have hC : Cx K G RX6 cX6_distance 3 := hC
  refine g_aload_n hC dX6_distance_0 rfl 0 rfl ?_
  refine g_iload_n hC dX6_distance_1 rfl 1 rfl ?_
  refine g_callV hC [.int p0] 0 (m_X6_requireGate hl hG V I J ng p0 v1) rfl (by decide) rfl rfl rfl tw_455 tw_457 tw_9 tw_31 tw_458 pd_X6_requireGate (by rw [hRm]; exact ⟨Nat.le_of_ble_eq_true rfl, Nat.le_of_ble_eq_true rfl⟩) (Nat.le_of_ble_eq_true rfl) (by rw [hRm]; exact ⟨Nat.le_of_ble_eq_true rfl, Nat.le_of_ble_eq_true rfl⟩) dX6_distance_2 (fun E9 V9 I9 J9 hx9 => ?_) (fun r9 V9 I9 J9 hp9 => ?_)
  · obtain ⟨rfl, rfl, rfl, rfl, e_2⟩ := hx9
    exact g_out hC hT (Nat.le_of_ble_eq_true rfl) (Nat.le_of_ble_eq_true rfl) ⟨rfl, rfl, rfl, 0, rfl, by simp [tcDist, e_2]⟩
  · obtain ⟨⟨rfl, hV9, hI9, hJ9⟩, f_2⟩ := hp9
    have hV9 := hV9.symm
    have hI9 := hI9.symm
    have hJ9 := hJ9.symm
    subst hV9 hI9 hJ9
    refine g_cs (c2 := 1) (s2 := 6) rfl rfl ?_
    refine g_at rfl rfl (st2 := []) rfl ?_
    refine g_aload_n hC dX6_distance_5 rfl 0 rfl ?_
    refine g_iload_n hC dX6_distance_6 rfl 2 rfl ?_
    refine g_callV hC [.int p1] 0 (m_X6_requireGate hl hG V I J ng p1 v1) rfl (by decide) rfl rfl rfl tw_455 tw_457 tw_9 tw_31 tw_458 pd_X6_requireGate (by rw [hRm]; exact ⟨Nat.le_of_ble_eq_true rfl, Nat.le_of_ble_eq_true rfl⟩) (Nat.le_of_ble_eq_true rfl) (by rw [hRm]; exact ⟨Nat.le_of_ble_eq_true rfl, Nat.le_of_ble_eq_true rfl⟩) dX6_distance_7 (fun E9 V9 I9 J9 hx9 => ?_) (fun r9 V9 I9 J9 hp9 => ?_)
    · obtain ⟨rfl, rfl, rfl, rfl, e_7⟩ := hx9
      exact g_out hC hT (Nat.le_of_ble_eq_true rfl) (Nat.le_of_ble_eq_true rfl) ⟨rfl, rfl, rfl, 0, rfl, by simp [tcDist, e_7]⟩
    · obtain ⟨⟨rfl, hV9, hI9, hJ9⟩, f_7⟩ := hp9
      have hV9 := hV9.symm
      have hI9 := hI9.symm
      have hJ9 := hJ9.symm
      subst hV9 hI9 hJ9
      refine g_cs (c2 := 2) (s2 := 12) rfl rfl ?_
      refine g_at rfl rfl (st2 := []) rfl ?_
      have hz : tcDist ng p0 p1 = 0 := by simp [tcDist, f_2, f_7]
      obtain ⟨a, ha, ea⟩ := inB_nI f_2 (by omega)
      obtain ⟨b, hb, eb⟩ := inB_nI f_7 (by omega)
      subst ea eb
      refine g_aload_n hC dX6_distance_10 rfl 0 rfl ?_
      refine gf_X6_10 hC dX6_distance_11 ?_
      refine g_iload_n hC dX6_distance_14 rfl 1 rfl ?_
      refine g_iload_n hC dX6_distance_15 rfl 2 rfl ?_
      refine g_cV hC [.int (nI a), .int (nI b)] 1 (m_X4_hasWay hl hG V I J a b (by omega) (by omega)) rfl (st2 := [.int ((if I (35 + a) b < nI 1000000 then nI 1 else nI 0))]) rfl (by decide) rfl rfl rfl tw_291 tw_292 tw_293 tw_32 tw_294 pd_X4_hasWay ⟨rfl, rfl⟩ (by rw [hRm]; exact ⟨Nat.le_of_ble_eq_true rfl, Nat.le_of_ble_eq_true rfl, Nat.le_of_ble_eq_true rfl, Nat.le_of_ble_eq_true rfl⟩) (Nat.le_of_ble_eq_true rfl) dX6_distance_16 ?_
      refine g_if_eq hC 36 dX6_distance_19 (by decide) (fun c_19 => ?_) (fun c_19 => ?_)
      · have hq := ite10_f c_19
        refine g_iconst (v := (-1)) hC dX6_distance_36 (by decide) ?_
        exact g_iret hC hr dX6_distance_37 (Nat.le_of_ble_eq_true rfl) (Nat.le_of_ble_eq_true rfl) ⟨hz, rfl, rfl, rfl, a, b, ha, hb, rfl, rfl, by first | rw [if_pos hq] | rw [if_neg hq]⟩
      · have hq := ite10_t c_19
        refine g_aload_n hC dX6_distance_22 rfl 0 rfl ?_
        refine gf_X6_10 hC dX6_distance_23 ?_
        refine gf_X6_171 hC dX6_distance_26 ?_
        refine g_iload_n hC dX6_distance_29 rfl 1 rfl ?_
        refine n_aald33 hC a (show a < 12 by omega) dX6_distance_30 ?_
        refine g_iload_n hC dX6_distance_31 rfl 2 rfl ?_
        refine n_iald hC (35 + a) (ar_33 (show a < 12 by omega)) b (by rw [al_33 (show a < 12 by omega)]; omega) dX6_distance_32 ?_
        refine g_goto hC 37 dX6_distance_33 (by decide) ?_
        exact g_iret hC hr dX6_distance_37 (Nat.le_of_ble_eq_true rfl) (Nat.le_of_ble_eq_true rfl) ⟨hz, rfl, rfl, rfl, a, b, ha, hb, rfl, rfl, by first | rw [if_pos hq] | rw [if_neg hq]⟩

set_option maxRecDepth 100000 in
theorem m_X6_way {l : Launch} {G : wG} (hl : l.stackTraces = false) (hG : wD G) (V : wV) (I : wI) (J : wJ) (ng nr : Nat) (p0 p1 p2 : Int32) (v1 : V 1 = nI ng) (v2 : V 2 = nI nr) (hg : ng ≤ 12) (hw : wfR I nr) : Ctr l yX6_way cX6_way 4 (some .int) { frames := 7, cells := 6, slots := 36, locals := 112 } G [.ref (G.2.1 0), .int p0, .int p1, .int p2] V I J (fun r V9 I9 J9 => tcWay ng p0 p1 p2 = 0 ∧ V9 = V ∧ I9 = I ∧ J9 = J ∧ ∃ a b, a < ng ∧ b < ng ∧ p0 = nI a ∧ p1 = nI b ∧ 0 ≤ p2 ∧ r = some (.int (rW I nr b p2 12 0 (nI a)))) (xC V I J (tcWay ng p0 p1 p2) [xIOB]) := by
  refine ctr_of hl hG (by decide) (Nat.le_of_ble_eq_true rfl) [(0, .ref (G.2.1 0)), (1, .int p0), (2, .int p1), (3, .int p2)] rfl ?_
  intro K hC hKl hRm hr hT
  subst hKl
  have hC : Cx K G RX6 cX6_way 4 := hC
  refine g_aload_n hC dX6_way_0 rfl 0 rfl ?_
  refine g_iload_n hC dX6_way_1 rfl 1 rfl ?_
  refine g_callV hC [.int p0] 0 (m_X6_requireGate hl hG V I J ng p0 v1) rfl (by decide) rfl rfl rfl tw_455 tw_457 tw_9 tw_31 tw_458 pd_X6_requireGate (by rw [hRm]; exact ⟨Nat.le_of_ble_eq_true rfl, Nat.le_of_ble_eq_true rfl⟩) (Nat.le_of_ble_eq_true rfl) (by rw [hRm]; exact ⟨Nat.le_of_ble_eq_true rfl, Nat.le_of_ble_eq_true rfl⟩) dX6_way_2 (fun E9 V9 I9 J9 hx9 => ?_) (fun r9 V9 I9 J9 hp9 => ?_)
  · obtain ⟨rfl, rfl, rfl, rfl, e_2⟩ := hx9
    exact g_out hC hT (Nat.le_of_ble_eq_true rfl) (Nat.le_of_ble_eq_true rfl) ⟨rfl, rfl, rfl, 0, rfl, by simp [tcWay, e_2]⟩
  · obtain ⟨⟨rfl, hV9, hI9, hJ9⟩, f_2⟩ := hp9
    have hV9 := hV9.symm
    have hI9 := hI9.symm
    have hJ9 := hJ9.symm
    subst hV9 hI9 hJ9
    refine g_cs (c2 := 1) (s2 := 6) rfl rfl ?_
    refine g_at rfl rfl (st2 := []) rfl ?_
    refine g_aload_n hC dX6_way_5 rfl 0 rfl ?_
    refine g_iload_n hC dX6_way_6 rfl 2 rfl ?_
    refine g_callV hC [.int p1] 0 (m_X6_requireGate hl hG V I J ng p1 v1) rfl (by decide) rfl rfl rfl tw_455 tw_457 tw_9 tw_31 tw_458 pd_X6_requireGate (by rw [hRm]; exact ⟨Nat.le_of_ble_eq_true rfl, Nat.le_of_ble_eq_true rfl⟩) (Nat.le_of_ble_eq_true rfl) (by rw [hRm]; exact ⟨Nat.le_of_ble_eq_true rfl, Nat.le_of_ble_eq_true rfl⟩) dX6_way_7 (fun E9 V9 I9 J9 hx9 => ?_) (fun r9 V9 I9 J9 hp9 => ?_)
    · obtain ⟨rfl, rfl, rfl, rfl, e_7⟩ := hx9
      exact g_out hC hT (Nat.le_of_ble_eq_true rfl) (Nat.le_of_ble_eq_true rfl) ⟨rfl, rfl, rfl, 0, rfl, by simp [tcWay, e_7]⟩
    · obtain ⟨⟨rfl, hV9, hI9, hJ9⟩, f_7⟩ := hp9
      have hV9 := hV9.symm
      have hI9 := hI9.symm
      have hJ9 := hJ9.symm
      subst hV9 hI9 hJ9
      refine g_cs (c2 := 2) (s2 := 12) rfl rfl ?_
      refine g_at rfl rfl (st2 := []) rfl ?_
      refine g_iload_n hC dX6_way_10 rfl 3 rfl ?_
      refine g_if_ge hC 24 dX6_way_11 (by decide) (fun c_11 => ?_) (fun c_11 => ?_)
      · have hz : tcWay ng p0 p1 p2 = 0 := by simp [tcWay, f_2, f_7, c_11]
        obtain ⟨a, ha, ea⟩ := inB_nI f_2 (by omega)
        obtain ⟨b, hb, eb⟩ := inB_nI f_7 (by omega)
        subst ea eb
        refine g_aload_n hC dX6_way_24 rfl 0 rfl ?_
        refine gf_X6_10 hC dX6_way_25 ?_
        refine g_iload_n hC dX6_way_28 rfl 1 rfl ?_
        refine g_iload_n hC dX6_way_29 rfl 2 rfl ?_
        refine g_iload_n hC dX6_way_30 rfl 3 rfl ?_
        refine g_cV hC [.int (nI a), .int (nI b), .int p2] 1 (m_X4_roadOfWay hl hG V I J nr a b p2 v2 hw (by omega) (by omega)) rfl (st2 := [.int (rW I nr b p2 12 0 (nI a))]) rfl (by decide) rfl rfl rfl tw_602 tw_603 tw_604 tw_32 tw_605 pd_X4_roadOfWay ⟨rfl, rfl⟩ (by rw [hRm]; exact ⟨Nat.le_of_ble_eq_true rfl, Nat.le_of_ble_eq_true rfl, Nat.le_of_ble_eq_true rfl, Nat.le_of_ble_eq_true rfl⟩) (Nat.le_of_ble_eq_true rfl) dX6_way_31 ?_
        exact g_iret hC hr dX6_way_34 (Nat.le_of_ble_eq_true rfl) (Nat.le_of_ble_eq_true rfl) ⟨hz, rfl, rfl, rfl, a, b, ha, hb, rfl, rfl, c_11, rfl⟩
      · exact g_th_IOB hC hT 177 (List.mem_of_getElem? (i := 12) rfl) dX6_way_14 dX6_way_17 dX6_way_18 dX6_way_20 dX6_way_23 (by rw [hRm]; decide) (by rw [hRm]; exact Nat.le_of_ble_eq_true rfl) (by rw [hRm]; exact Nat.le_of_ble_eq_true rfl) (by rw [hRm]; exact Nat.le_of_ble_eq_true rfl) (Nat.le_of_ble_eq_true rfl) (Nat.le_of_ble_eq_true rfl) ⟨rfl, rfl, rfl, 0, rfl, by simp [tcWay, f_2, f_7, c_11]⟩

set_option maxRecDepth 100000 in
theorem m_X6_billed {l : Launch} {G : wG} (hl : l.stackTraces = false) (hG : wD G) (V : wV) (I : wI) (J : wJ) (p0 : Int32) : Ctr l yX6_billed cX6_billed 2 (some .long) { frames := 7, cells := 6, slots := 36, locals := 112 } G [.ref (G.2.1 0), .int p0] V I J (fun r V9 I9 J9 => tcIn p0 10 = 0 ∧ V9 = V ∧ I9 = I ∧ J9 = J ∧ ∃ p, p < 10 ∧ p0 = nI p ∧ r = some (.long (J 31 p))) (xC V I J (tcIn p0 10) [xIOB]) := by
  refine ctr_of hl hG (by decide) (Nat.le_of_ble_eq_true rfl) [(0, .ref (G.2.1 0)), (1, .int p0)] rfl ?_
  intro K hC hKl hRm hr hT
  subst hKl
  have hC : Cx K G RX6 cX6_billed 2 := hC
  refine g_iload_n hC dX6_billed_0 rfl 1 rfl ?_
  refine g_callS hC [.int p0] (m_X6_requirePlate hl hG V I J p0) rfl rfl tw_527 tw_528 tw_31 tw_529 pd_X6_requirePlate (by rw [hRm]; exact ⟨Nat.le_of_ble_eq_true rfl, Nat.le_of_ble_eq_true rfl⟩) (Nat.le_of_ble_eq_true rfl) (by rw [hRm]; exact ⟨Nat.le_of_ble_eq_true rfl, Nat.le_of_ble_eq_true rfl⟩) dX6_billed_1 (fun E9 V9 I9 J9 hx9 => ?_) (fun r9 V9 I9 J9 hp9 => ?_)
  · obtain ⟨rfl, rfl, rfl, rfl, e_1⟩ := hx9
    exact g_out hC hT (Nat.le_of_ble_eq_true rfl) (Nat.le_of_ble_eq_true rfl) ⟨rfl, rfl, rfl, 0, rfl, by simp [tcIn, e_1]⟩
  · obtain ⟨⟨rfl, hV9, hI9, hJ9⟩, f_1⟩ := hp9
    have hV9 := hV9.symm
    have hI9 := hI9.symm
    have hJ9 := hJ9.symm
    subst hV9 hI9 hJ9
    refine g_cs (c2 := 1) (s2 := 6) rfl rfl ?_
    refine g_at rfl rfl (st2 := []) rfl ?_
    have hz : tcIn p0 10 = 0 := by simp [tcIn, f_1]
    obtain ⟨p, hp, ep⟩ := inB_nI f_1 (by omega)
    subst ep
    refine g_aload_n hC dX6_billed_4 rfl 0 rfl ?_
    refine gf_X6_47 hC dX6_billed_5 ?_
    refine gf_X6_222 hC dX6_billed_8 ?_
    refine g_iload_n hC dX6_billed_11 rfl 1 rfl ?_
    refine n_lald hC 31 aa_31 p (show p < 10 by omega) dX6_billed_12 ?_
    exact g_lret hC hr dX6_billed_13 (Nat.le_of_ble_eq_true rfl) (Nat.le_of_ble_eq_true rfl) ⟨hz, rfl, rfl, rfl, p, hp, rfl, rfl⟩

set_option maxRecDepth 100000 in
theorem m_X6_own {l : Launch} {G : wG} (hl : l.stackTraces = false) (hG : wD G) (V : wV) (I : wI) (J : wJ) (p0 : Int32) : Ctr l yX6_own cX6_own 2 (some .long) { frames := 7, cells := 6, slots := 36, locals := 112 } G [.ref (G.2.1 0), .int p0] V I J (fun r V9 I9 J9 => tcIn p0 10 = 0 ∧ V9 = V ∧ I9 = I ∧ J9 = J ∧ ∃ p, p < 10 ∧ p0 = nI p ∧ r = some (.long (J 30 p))) (xC V I J (tcIn p0 10) [xIOB]) := by
  refine ctr_of hl hG (by decide) (Nat.le_of_ble_eq_true rfl) [(0, .ref (G.2.1 0)), (1, .int p0)] rfl ?_
  intro K hC hKl hRm hr hT
  subst hKl
  have hC : Cx K G RX6 cX6_own 2 := hC
  refine g_iload_n hC dX6_own_0 rfl 1 rfl ?_
  refine g_callS hC [.int p0] (m_X6_requirePlate hl hG V I J p0) rfl rfl tw_527 tw_528 tw_31 tw_529 pd_X6_requirePlate (by rw [hRm]; exact ⟨Nat.le_of_ble_eq_true rfl, Nat.le_of_ble_eq_true rfl⟩) (Nat.le_of_ble_eq_true rfl) (by rw [hRm]; exact ⟨Nat.le_of_ble_eq_true rfl, Nat.le_of_ble_eq_true rfl⟩) dX6_own_1 (fun E9 V9 I9 J9 hx9 => ?_) (fun r9 V9 I9 J9 hp9 => ?_)
  · obtain ⟨rfl, rfl, rfl, rfl, e_1⟩ := hx9
    exact g_out hC hT (Nat.le_of_ble_eq_true rfl) (Nat.le_of_ble_eq_true rfl) ⟨rfl, rfl, rfl, 0, rfl, by simp [tcIn, e_1]⟩
  · obtain ⟨⟨rfl, hV9, hI9, hJ9⟩, f_1⟩ := hp9
    have hV9 := hV9.symm
    have hI9 := hI9.symm
    have hJ9 := hJ9.symm
    subst hV9 hI9 hJ9
    refine g_cs (c2 := 1) (s2 := 6) rfl rfl ?_
    refine g_at rfl rfl (st2 := []) rfl ?_
    have hz : tcIn p0 10 = 0 := by simp [tcIn, f_1]
    obtain ⟨p, hp, ep⟩ := inB_nI f_1 (by omega)
    subst ep
    refine g_aload_n hC dX6_own_4 rfl 0 rfl ?_
    refine gf_X6_47 hC dX6_own_5 ?_
    refine gf_X6_225 hC dX6_own_8 ?_
    refine g_iload_n hC dX6_own_11 rfl 1 rfl ?_
    refine n_lald hC 30 aa_30 p (show p < 10 by omega) dX6_own_12 ?_
    exact g_lret hC hr dX6_own_13 (Nat.le_of_ble_eq_true rfl) (Nat.le_of_ble_eq_true rfl) ⟨hz, rfl, rfl, rfl, p, hp, rfl, rfl⟩

set_option maxRecDepth 100000 in
theorem m_X6_wallet {l : Launch} {G : wG} (hl : l.stackTraces = false) (hG : wD G) (V : wV) (I : wI) (J : wJ) (p0 : Int32) : Ctr l yX6_wallet cX6_wallet 2 (some .long) { frames := 7, cells := 6, slots := 36, locals := 112 } G [.ref (G.2.1 0), .int p0] V I J (fun r V9 I9 J9 => tcIn p0 6 = 0 ∧ V9 = V ∧ I9 = I ∧ J9 = J ∧ ∃ p, p < 6 ∧ p0 = nI p ∧ r = some (.long (J 29 p))) (xC V I J (tcIn p0 6) [xIOB]) := by
  refine ctr_of hl hG (by decide) (Nat.le_of_ble_eq_true rfl) [(0, .ref (G.2.1 0)), (1, .int p0)] rfl ?_
  intro K hC hKl hRm hr hT
  subst hKl
  have hC : Cx K G RX6 cX6_wallet 2 := hC
  refine g_iload_n hC dX6_wallet_0 rfl 1 rfl ?_
  refine g_callS hC [.int p0] (m_X6_requireHolder hl hG V I J p0) rfl rfl tw_538 tw_539 tw_31 tw_540 pd_X6_requireHolder (by rw [hRm]; exact ⟨Nat.le_of_ble_eq_true rfl, Nat.le_of_ble_eq_true rfl⟩) (Nat.le_of_ble_eq_true rfl) (by rw [hRm]; exact ⟨Nat.le_of_ble_eq_true rfl, Nat.le_of_ble_eq_true rfl⟩) dX6_wallet_1 (fun E9 V9 I9 J9 hx9 => ?_) (fun r9 V9 I9 J9 hp9 => ?_)
  · obtain ⟨rfl, rfl, rfl, rfl, e_1⟩ := hx9
    exact g_out hC hT (Nat.le_of_ble_eq_true rfl) (Nat.le_of_ble_eq_true rfl) ⟨rfl, rfl, rfl, 0, rfl, by simp [tcIn, e_1]⟩
  · obtain ⟨⟨rfl, hV9, hI9, hJ9⟩, f_1⟩ := hp9
    have hV9 := hV9.symm
    have hI9 := hI9.symm
    have hJ9 := hJ9.symm
    subst hV9 hI9 hJ9
    refine g_cs (c2 := 1) (s2 := 6) rfl rfl ?_
    refine g_at rfl rfl (st2 := []) rfl ?_
    have hz : tcIn p0 6 = 0 := by simp [tcIn, f_1]
    obtain ⟨p, hp, ep⟩ := inB_nI f_1 (by omega)
    subst ep
    refine g_aload_n hC dX6_wallet_4 rfl 0 rfl ?_
    refine gf_X6_47 hC dX6_wallet_5 ?_
    refine gf_X6_114 hC dX6_wallet_8 ?_
    refine g_iload_n hC dX6_wallet_11 rfl 1 rfl ?_
    refine n_lald hC 29 aa_29 p (show p < 6 by omega) dX6_wallet_12 ?_
    exact g_lret hC hr dX6_wallet_13 (Nat.le_of_ble_eq_true rfl) (Nat.le_of_ble_eq_true rfl) ⟨hz, rfl, rfl, rfl, p, hp, rfl, rfl⟩
