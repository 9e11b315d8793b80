set_option maxRecDepth 100000 in
theorem m_X7_gate {l : Launch} {G : wG} (hl : l.stackTraces = false) (hG : wD G) (V : wV) (I : wI) (J : wJ) (ng n : Nat) (v9 : V 9 = nI ng) (v10 : V 10 = nI n) (hg : ng ≤ 12) (e51 : I 51 = I 8) (e52 : I 52 = I 9) (e53 : I 53 = I 10) (hK : dK I n) : Ctr l yX7_gate cX7_gate 1 (some .int) { frames := 1, cells := 0, slots := 0, locals := 25 } G [.ref (G.2.1 7)] V I J (mQ (tcGate ng) (some (.int (nI 0))) V I J (fun r V9 I9 J9 => r = some (.int (nI ng)) ∧ V9 = (upd (upd V 7 (nI 0)) 9 (nI (ng + 1))) ∧ J9 = J ∧ ng < 12 ∧ ∃ f, I9 = uI I 55 f ∧ mF (uI I 55 f))) (noX) := by
  refine ctr_of hl hG (by decide) (Nat.le_of_ble_eq_true rfl) [(0, .ref (G.2.1 7))] rfl ?_
  intro K hC hKl hRm hr hT
  subst hKl
  have hC : Cx K G RX7 cX7_gate 1 := hC
  refine g_aload_n hC dX7_gate_0 rfl 0 rfl ?_
  refine g_aload_n hC dX7_gate_1 rfl 0 rfl ?_
  refine gf_X7_106 hC dX7_gate_2 ?_
  refine g_eqI (x' := nI ng) (by rw [v9]) ?_
  refine g_bipush (v := nI 12) hC dX7_gate_5 (by decide) ?_
  refine g_icmp_ne hC 14 dX7_gate_7 (by decide) (fun c_7 => ?_) (fun c_7 => ?_)
  · have d_7 : ¬ ng = 12 := fun q => c_7 ((nI_eq (by omega) (by omega)).mpr q)
    refine g_iconst (v := nI 0) hC dX7_gate_14 (by decide) ?_
    refine gp_X7_103 hC dX7_gate_15 ?_
    refine g_aload_n hC dX7_gate_18 rfl 0 rfl ?_
    refine gf_X7_103 hC dX7_gate_19 ?_
    refine g_eqI (x' := nI 0) (by rw [pk_us]) ?_
    refine g_if_le hC 27 dX7_gate_22 (by decide) (fun c_22 => ?_) (fun c_22 => ?_)
    · have hz : tcGate ng = 0 := by simp [tcGate, d_7]
      refine g_aload_n hC dX7_gate_27 rfl 0 rfl ?_
      refine g_dup hC dX7_gate_28 rfl ?_
      refine gf_X7_106 hC dX7_gate_29 ?_
      refine g_eqI (x' := nI ng) (by rw [pk_un (by decide), v9]) ?_
      refine g_iconst (v := nI 1) hC dX7_gate_32 (by decide) ?_
      refine g_iadd hC dX7_gate_33 ?_
      refine g_eqI (x' := nI (ng + 1)) (nI_add _ _) ?_
      refine gp_X7_106 hC dX7_gate_34 ?_
      refine g_aload_n hC dX7_gate_37 rfl 0 rfl ?_
      refine g_cVr hC [] 7 (m_X7_measures hl hG (upd (upd V 7 (nI 0)) 9 (nI (ng + 1))) I J n ((pk_un (by decide)).trans ((pk_un (by decide)).trans v10)) e51 e52 e53 hK) rfl (by decide) rfl rfl rfl tw_806 tw_808 tw_15 tw_38 tw_809 pd_X7_measures ⟨rfl, rfl⟩ (by rw [hRm]; exact ⟨Nat.le_of_ble_eq_true rfl, Nat.le_of_ble_eq_true rfl, Nat.le_of_ble_eq_true rfl, Nat.le_of_ble_eq_true rfl⟩) (Nat.le_of_ble_eq_true rfl) dX7_gate_38 (fun r9 V9 I9 J9 hp9 => ?_)
      obtain ⟨rfl, hV9, hJ9, f, rfl, hF⟩ := hp9
      have hV9 := hV9.symm
      have hJ9 := hJ9.symm
      subst hV9 hJ9
      refine g_at rfl rfl (st2 := []) rfl ?_
      refine g_aload_n hC dX7_gate_41 rfl 0 rfl ?_
      refine gf_X7_106 hC dX7_gate_42 ?_
      refine g_eqI (x' := nI (ng + 1)) (by rw [pk_us]) ?_
      refine g_iconst (v := nI 1) hC dX7_gate_45 (by decide) ?_
      refine g_isub hC dX7_gate_46 ?_
      refine g_eqI (x' := nI ng) (nI_s1 rfl) ?_
      exact g_iret hC hr dX7_gate_47 (Nat.le_of_ble_eq_true rfl) (Nat.le_of_ble_eq_true rfl) (Or.inl ⟨hz, rfl, rfl, rfl, by omega, f, rfl, hF⟩)
    · exact absurd c_22 (by decide)
  · have d_7 : ng = 12 := (nI_eq (by omega) (by omega)).mp c_7
    refine g_iconst (v := nI 1) hC dX7_gate_10 (by decide) ?_
    refine g_goto hC 15 dX7_gate_11 (by decide) ?_
    refine gp_X7_103 hC dX7_gate_15 ?_
    refine g_aload_n hC dX7_gate_18 rfl 0 rfl ?_
    refine gf_X7_103 hC dX7_gate_19 ?_
    refine g_eqI (x' := nI 1) (by rw [pk_us]) ?_
    refine g_if_le hC 27 dX7_gate_22 (by decide) (fun c_22 => ?_) (fun c_22 => ?_)
    · exact absurd c_22 (by decide)
    · refine g_iconst (v := nI 0) hC dX7_gate_25 (by decide) ?_
      exact g_iret hC hr dX7_gate_26 (Nat.le_of_ble_eq_true rfl) (Nat.le_of_ble_eq_true rfl) (mQ_x (by have hz : tcGate ng = 1 := (by simp [tcGate, d_7]); exact hz) (by decide))

set_option maxRecDepth 100000 in
theorem m_X7_road {l : Launch} {G : wG} (hl : l.stackTraces = false) (hG : wD G) (V : wV) (I : wI) (J : wJ) (ng nr : Nat) (p0 p1 p2 p3 : Int32) (v9 : V 9 = nI ng) (v10 : V 10 = nI nr) (hg : ng ≤ 12) (hr0 : nr ≤ 24) (hS : tcRoad ng nr p0 p1 p2 p3 = 0 → I 8 = upd (I 51) nr p0 ∧ I 9 = upd (I 52) nr p1 ∧ I 10 = upd (I 53) nr p2 ∧ dK I (nr + 1)) : Ctr l yX7_road cX7_road 5 (some .int) { frames := 2, cells := 0, slots := 0, locals := 43 } G [.ref (G.2.1 7), .int p0, .int p1, .int p2, .int p3] V I J (mQ (tcRoad ng nr p0 p1 p2 p3) (some (.int (nI 0))) V I J (fun r V9 I9 J9 => r = some (.int (nI nr)) ∧ V9 = upd (upd V 7 (nI 0)) 10 (nI (nr + 1)) ∧ J9 = J ∧ nr < 24 ∧ ∃ f, I9 = uI (sI (sI (sI (sI I 51 nr p0) 52 nr p1) 53 nr p2) 54 nr p3) 55 f ∧ mF (uI (sI (sI (sI (sI I 51 nr p0) 52 nr p1) 53 nr p2) 54 nr p3) 55 f))) (noX) := by
  refine ctr_of hl hG (by decide) (Nat.le_of_ble_eq_true rfl) [(0, .ref (G.2.1 7)), (1, .int p0), (2, .int p1), (3, .int p2), (4, .int p3)] rfl ?_
  intro K hC hKl hRm hr hT
  subst hKl
  have hC : Cx K G RX7 cX7_road 5 := hC
  refine g_aload_n hC dX7_road_0 rfl 0 rfl ?_
  refine g_aload_n hC dX7_road_1 rfl 0 rfl ?_
  refine g_iload_n hC dX7_road_2 rfl 1 rfl ?_
  refine g_cV hC [.int p0] 7 (m_X7_isGate hl hG V I J ng p0 v9 (by omega)) rfl (st2 := [.int ((if inB p0 ng = true then nI 1 else nI 0)), .ref (G.2.1 7)]) rfl (by decide) rfl rfl rfl tw_815 tw_817 tw_16 tw_38 tw_818 pd_X7_isGate ⟨rfl, rfl⟩ (by rw [hRm]; exact ⟨Nat.le_of_ble_eq_true rfl, Nat.le_of_ble_eq_true rfl, Nat.le_of_ble_eq_true rfl, Nat.le_of_ble_eq_true rfl⟩) (Nat.le_of_ble_eq_true rfl) dX7_road_3 ?_
  refine g_if_eq hC 17 dX7_road_6 (by decide) (fun c_6 => ?_) (fun c_6 => ?_)
  · have e_6 := b10_f c_6
    refine g_iconst (v := nI 1) hC dX7_road_17 (by decide) ?_
    refine g_goto hC 64 dX7_road_18 (by decide) ?_
    refine gp_X7_103 hC dX7_road_64 ?_
    refine g_aload_n hC dX7_road_67 rfl 0 rfl ?_
    refine gf_X7_103 hC dX7_road_68 ?_
    refine g_eqI (x' := nI 1) (by rw [pk_us]) ?_
    refine g_if_le hC 76 dX7_road_71 (by decide) (fun c_71 => ?_) (fun c_71 => ?_)
    · exact absurd c_71 (by decide)
    · refine g_iconst (v := nI 0) hC dX7_road_74 (by decide) ?_
      exact g_iret hC hr dX7_road_75 (Nat.le_of_ble_eq_true rfl) (Nat.le_of_ble_eq_true rfl) (mQ_x (by have hz : tcRoad ng nr p0 p1 p2 p3 = 1 := (by simp [tcRoad, e_6]); exact hz) (by decide))
  · have e_6 := b10_t c_6
    refine g_aload_n hC dX7_road_9 rfl 0 rfl ?_
    refine g_iload_n hC dX7_road_10 rfl 2 rfl ?_
    refine g_cV hC [.int p1] 7 (m_X7_isGate hl hG V I J ng p1 v9 (by omega)) rfl (st2 := [.int ((if inB p1 ng = true then nI 1 else nI 0)), .ref (G.2.1 7)]) rfl (by decide) rfl rfl rfl tw_815 tw_817 tw_16 tw_38 tw_818 pd_X7_isGate ⟨rfl, rfl⟩ (by rw [hRm]; exact ⟨Nat.le_of_ble_eq_true rfl, Nat.le_of_ble_eq_true rfl, Nat.le_of_ble_eq_true rfl, Nat.le_of_ble_eq_true rfl⟩) (Nat.le_of_ble_eq_true rfl) dX7_road_11 ?_
    refine g_if_ne hC 21 dX7_road_14 (by decide) (fun c_14 => ?_) (fun c_14 => ?_)
    · have e_14 := b10_t c_14
      refine g_iload_n hC dX7_road_21 rfl 3 rfl ?_
      refine g_iconst (v := nI 1) hC dX7_road_22 (by decide) ?_
      refine g_bipush (v := nI 50) hC dX7_road_23 (by decide) ?_
      refine g_cS hC [.int p2, .int (nI 1), .int (nI 50)] (m_X7_in hl hG V I J p2 (nI 1) (nI 50)) rfl (st2 := [.int ((if rgB p2 (nI 1) (nI 50) = true then nI 1 else nI 0)), .ref (G.2.1 7)]) rfl rfl tw_819 tw_820 tw_38 tw_821 pd_X7_in ⟨rfl, rfl⟩ (by rw [hRm]; exact ⟨Nat.le_of_ble_eq_true rfl, Nat.le_of_ble_eq_true rfl, Nat.le_of_ble_eq_true rfl, Nat.le_of_ble_eq_true rfl⟩) (Nat.le_of_ble_eq_true rfl) dX7_road_25 ?_
      refine g_if_eq hC 46 dX7_road_28 (by decide) (fun c_28 => ?_) (fun c_28 => ?_)
      · have e_28 := b10_f c_28
        refine g_iconst (v := nI 2) hC dX7_road_46 (by decide) ?_
        refine g_goto hC 64 dX7_road_47 (by decide) ?_
        refine gp_X7_103 hC dX7_road_64 ?_
        refine g_aload_n hC dX7_road_67 rfl 0 rfl ?_
        refine gf_X7_103 hC dX7_road_68 ?_
        refine g_eqI (x' := nI 2) (by rw [pk_us]) ?_
        refine g_if_le hC 76 dX7_road_71 (by decide) (fun c_71 => ?_) (fun c_71 => ?_)
        · exact absurd c_71 (by decide)
        · refine g_iconst (v := nI 0) hC dX7_road_74 (by decide) ?_
          exact g_iret hC hr dX7_road_75 (Nat.le_of_ble_eq_true rfl) (Nat.le_of_ble_eq_true rfl) (mQ_x (by have hz : tcRoad ng nr p0 p1 p2 p3 = 2 := (by simp [tcRoad, e_6, e_14, e_28]); exact hz) (by decide))
      · have e_28 := b10_t c_28
        refine g_iload hC dX7_road_31 4 rfl ?_
        refine g_iconst (v := nI 0) hC dX7_road_33 (by decide) ?_
        refine g_iconst (v := nI 3) hC dX7_road_34 (by decide) ?_
        refine g_cS hC [.int p3, .int (nI 0), .int (nI 3)] (m_X7_in hl hG V I J p3 (nI 0) (nI 3)) rfl (st2 := [.int ((if rgB p3 (nI 0) (nI 3) = true then nI 1 else nI 0)), .ref (G.2.1 7)]) rfl rfl tw_819 tw_820 tw_38 tw_821 pd_X7_in ⟨rfl, rfl⟩ (by rw [hRm]; exact ⟨Nat.le_of_ble_eq_true rfl, Nat.le_of_ble_eq_true rfl, Nat.le_of_ble_eq_true rfl, Nat.le_of_ble_eq_true rfl⟩) (Nat.le_of_ble_eq_true rfl) dX7_road_35 ?_
        refine g_if_eq hC 46 dX7_road_38 (by decide) (fun c_38 => ?_) (fun c_38 => ?_)
        · have e_38 := b10_f c_38
          refine g_iconst (v := nI 2) hC dX7_road_46 (by decide) ?_
          refine g_goto hC 64 dX7_road_47 (by decide) ?_
          refine gp_X7_103 hC dX7_road_64 ?_
          refine g_aload_n hC dX7_road_67 rfl 0 rfl ?_
          refine gf_X7_103 hC dX7_road_68 ?_
          refine g_eqI (x' := nI 2) (by rw [pk_us]) ?_
          refine g_if_le hC 76 dX7_road_71 (by decide) (fun c_71 => ?_) (fun c_71 => ?_)
          · exact absurd c_71 (by decide)
          · refine g_iconst (v := nI 0) hC dX7_road_74 (by decide) ?_
            exact g_iret hC hr dX7_road_75 (Nat.le_of_ble_eq_true rfl) (Nat.le_of_ble_eq_true rfl) (mQ_x (by have hz : tcRoad ng nr p0 p1 p2 p3 = 2 := (by simp [tcRoad, e_6, e_14, e_28, e_38]); exact hz) (by decide))
        · have e_38 := b10_t c_38
          refine g_iload_n hC dX7_road_41 rfl 1 rfl ?_
          refine g_iload_n hC dX7_road_42 rfl 2 rfl ?_
          refine g_icmp_ne hC 50 dX7_road_43 (by decide) (fun c_43 => ?_) (fun c_43 => ?_)
          · refine g_aload_n hC dX7_road_50 rfl 0 rfl ?_
            refine gf_X7_117 hC dX7_road_51 ?_
            refine g_eqI (x' := nI nr) (by rw [v10]) ?_
            refine g_bipush (v := nI 24) hC dX7_road_54 (by decide) ?_
            refine g_icmp_ne hC 63 dX7_road_56 (by decide) (fun c_56 => ?_) (fun c_56 => ?_)
            · have d_56 : ¬ nr = 24 := fun q => c_56 ((nI_eq (by omega) (by omega)).mpr q)
              refine g_iconst (v := nI 0) hC dX7_road_63 (by decide) ?_
              refine gp_X7_103 hC dX7_road_64 ?_
              refine g_aload_n hC dX7_road_67 rfl 0 rfl ?_
              refine gf_X7_103 hC dX7_road_68 ?_
              refine g_eqI (x' := nI 0) (by rw [pk_us]) ?_
              refine g_if_le hC 76 dX7_road_71 (by decide) (fun c_71 => ?_) (fun c_71 => ?_)
              · have hz : tcRoad ng nr p0 p1 p2 p3 = 0 := by simp [tcRoad, e_6, e_14, e_28, e_38, c_43, d_56]
                refine g_aload_n hC dX7_road_76 rfl 0 rfl ?_
                refine gf_X7_7 hC dX7_road_77 ?_
                refine g_aload_n hC dX7_road_80 rfl 0 rfl ?_
                refine gf_X7_117 hC dX7_road_81 ?_
                refine g_eqI (x' := nI nr) (by rw [pk_un (by decide), v10]) ?_
                refine g_iload_n hC dX7_road_84 rfl 1 rfl ?_
                refine n_iast hC 51 aa_51 nr (show nr < 24 by omega) dX7_road_85 ?_
                refine g_aload_n hC dX7_road_86 rfl 0 rfl ?_
                refine gf_X7_13 hC dX7_road_87 ?_
                refine g_aload_n hC dX7_road_90 rfl 0 rfl ?_
                refine gf_X7_117 hC dX7_road_91 ?_
                refine g_eqI (x' := nI nr) (by rw [pk_un (by decide), v10]) ?_
                refine g_iload_n hC dX7_road_94 rfl 2 rfl ?_
                refine n_iast hC 52 aa_52 nr (show nr < 24 by omega) dX7_road_95 ?_
                refine g_aload_n hC dX7_road_96 rfl 0 rfl ?_
                refine gf_X7_16 hC dX7_road_97 ?_
                refine g_aload_n hC dX7_road_100 rfl 0 rfl ?_
                refine gf_X7_117 hC dX7_road_101 ?_
                refine g_eqI (x' := nI nr) (by rw [pk_un (by decide), v10]) ?_
                refine g_iload_n hC dX7_road_104 rfl 3 rfl ?_
                refine n_iast hC 53 aa_53 nr (show nr < 24 by omega) dX7_road_105 ?_
                refine g_aload_n hC dX7_road_106 rfl 0 rfl ?_
                refine gf_X7_19 hC dX7_road_107 ?_
                refine g_aload_n hC dX7_road_110 rfl 0 rfl ?_
                refine gf_X7_117 hC dX7_road_111 ?_
                refine g_eqI (x' := nI nr) (by rw [pk_un (by decide), v10]) ?_
                refine g_iload hC dX7_road_114 4 rfl ?_
                refine n_iast hC 54 aa_54 nr (show nr < 24 by omega) dX7_road_116 ?_
                refine g_aload_n hC dX7_road_117 rfl 0 rfl ?_
                refine g_dup hC dX7_road_118 rfl ?_
                refine gf_X7_117 hC dX7_road_119 ?_
                refine g_eqI (x' := nI nr) (by rw [pk_un (by decide), v10]) ?_
                refine g_iconst (v := nI 1) hC dX7_road_122 (by decide) ?_
                refine g_iadd hC dX7_road_123 ?_
                refine g_eqI (x' := nI (nr + 1)) (nI_add _ _) ?_
                refine gp_X7_117 hC dX7_road_124 ?_
                refine g_aload_n hC dX7_road_127 rfl 0 rfl ?_
                obtain ⟨s8, s9, s10, sK⟩ := hS hz
                have sK2 : dK (sI (sI (sI (sI I 51 nr p0) 52 nr p1) 53 nr p2) 54 nr p3) (nr + 1) := dK_x sK (fun a ha => by show uI (uI (uI (uI I 51 _) 52 _) 53 _) 54 _ a = I a; rw [uI_n (by omega), uI_n (by omega), uI_n (by omega), uI_n (by omega)])
                refine g_cVr hC [] 7 (m_X7_measures hl hG (upd (upd V 7 (nI 0)) 10 (nI (nr + 1))) (sI (sI (sI (sI I 51 nr p0) 52 nr p1) 53 nr p2) 54 nr p3) J (nr + 1) pk_us s8.symm s9.symm s10.symm sK2) rfl (by decide) rfl rfl rfl tw_806 tw_808 tw_15 tw_38 tw_809 pd_X7_measures ⟨rfl, rfl⟩ (by rw [hRm]; exact ⟨Nat.le_of_ble_eq_true rfl, Nat.le_of_ble_eq_true rfl, Nat.le_of_ble_eq_true rfl, Nat.le_of_ble_eq_true rfl⟩) (Nat.le_of_ble_eq_true rfl) dX7_road_128 (fun r9 V9 I9 J9 hp9 => ?_)
                obtain ⟨rfl, hV9, hJ9, f, rfl, hF⟩ := hp9
                have hV9 := hV9.symm
                have hJ9 := hJ9.symm
                subst hV9 hJ9
                refine g_at rfl rfl (st2 := []) rfl ?_
                refine g_aload_n hC dX7_road_131 rfl 0 rfl ?_
                refine gf_X7_117 hC dX7_road_132 ?_
                refine g_eqI (x' := nI (nr + 1)) (by rw [pk_us]) ?_
                refine g_iconst (v := nI 1) hC dX7_road_135 (by decide) ?_
                refine g_isub hC dX7_road_136 ?_
                refine g_eqI (x' := nI nr) (nI_s1 rfl) ?_
                exact g_iret hC hr dX7_road_137 (Nat.le_of_ble_eq_true rfl) (Nat.le_of_ble_eq_true rfl) (Or.inl ⟨hz, rfl, rfl, rfl, by omega, f, rfl, hF⟩)
              · exact absurd c_71 (by decide)
            · have d_56 : nr = 24 := (nI_eq (by omega) (by omega)).mp c_56
              refine g_iconst (v := nI 3) hC dX7_road_59 (by decide) ?_
              refine g_goto hC 64 dX7_road_60 (by decide) ?_
              refine gp_X7_103 hC dX7_road_64 ?_
              refine g_aload_n hC dX7_road_67 rfl 0 rfl ?_
              refine gf_X7_103 hC dX7_road_68 ?_
              refine g_eqI (x' := nI 3) (by rw [pk_us]) ?_
              refine g_if_le hC 76 dX7_road_71 (by decide) (fun c_71 => ?_) (fun c_71 => ?_)
              · exact absurd c_71 (by decide)
              · refine g_iconst (v := nI 0) hC dX7_road_74 (by decide) ?_
                exact g_iret hC hr dX7_road_75 (Nat.le_of_ble_eq_true rfl) (Nat.le_of_ble_eq_true rfl) (mQ_x (by have hz : tcRoad ng nr p0 p1 p2 p3 = 3 := (by simp [tcRoad, e_6, e_14, e_28, e_38, c_43, d_56]); exact hz) (by decide))
          · refine g_iconst (v := nI 2) hC dX7_road_46 (by decide) ?_
            refine g_goto hC 64 dX7_road_47 (by decide) ?_
            refine gp_X7_103 hC dX7_road_64 ?_
            refine g_aload_n hC dX7_road_67 rfl 0 rfl ?_
            refine gf_X7_103 hC dX7_road_68 ?_
            refine g_eqI (x' := nI 2) (by rw [pk_us]) ?_
            refine g_if_le hC 76 dX7_road_71 (by decide) (fun c_71 => ?_) (fun c_71 => ?_)
            · exact absurd c_71 (by decide)
            · refine g_iconst (v := nI 0) hC dX7_road_74 (by decide) ?_
              exact g_iret hC hr dX7_road_75 (Nat.le_of_ble_eq_true rfl) (Nat.le_of_ble_eq_true rfl) (mQ_x (by have hz : tcRoad ng nr p0 p1 p2 p3 = 2 := (by simp [tcRoad, e_6, e_14, e_28, e_38, c_43]); exact hz) (by decide))
    · have e_14 := b10_f c_14
      refine g_iconst (v := nI 1) hC dX7_road_17 (by decide) ?_
      refine g_goto hC 64 dX7_road_18 (by decide) ?_
      refine gp_X7_103 hC dX7_road_64 ?_
      refine g_aload_n hC dX7_road_67 rfl 0 rfl ?_
      refine gf_X7_103 hC dX7_road_68 ?_
      refine g_eqI (x' := nI 1) (by rw [pk_us]) ?_
      refine g_if_le hC 76 dX7_road_71 (by decide) (fun c_71 => ?_) (fun c_71 => ?_)
      · exact absurd c_71 (by decide)
      · refine g_iconst (v := nI 0) hC dX7_road_74 (by decide) ?_
        exact g_iret hC hr dX7_road_75 (Nat.le_of_ble_eq_true rfl) (Nat.le_of_ble_eq_true rfl) (mQ_x (by have hz : tcRoad ng nr p0 p1 p2 p3 = 1 := (by simp [tcRoad, e_6, e_14]); exact hz) (by decide))
