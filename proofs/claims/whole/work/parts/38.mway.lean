set_option maxRecDepth 100000 in
theorem m_X7_way {l : Launch} {G : wG} (hl : l.stackTraces = false) (hG : wD G) (V : wV) (I : wI) (J : wJ) (ng nr : Nat) (p0 p1 p2 : Int32) (v9 : V 9 = nI ng) (v10 : V 10 = nI nr) (hg : ng ≤ 12) (hmI : mI I) (hmF : 0 < ng → mF I) (hK : dK I nr) : Ctr l yX7_way cX7_way 7 (some .int) { frames := 2, cells := 0, slots := 0, locals := 48 } G [.ref (G.2.1 7), .int p0, .int p1, .int p2] V I J (mQ (tcWay ng p0 p1 p2) (some (.int (nI 0))) V I J (fun r V9 I9 J9 => V9 = upd V 7 (nI 0) ∧ I9 = I ∧ J9 = J ∧ ∃ a b, a < ng ∧ b < ng ∧ p0 = nI a ∧ p1 = nI b ∧ r = some (.int (rW I nr b p2 12 0 (nI a))))) (noX) := by
  refine ctr_of hl hG (by decide) (Nat.le_of_ble_eq_true rfl) [(0, .ref (G.2.1 7)), (1, .int p0), (2, .int p1), (3, .int p2)] rfl ?_
  intro K hC hKl hRm hr hT
  subst hKl
  have hC : Cx K G RX7 cX7_way 7 := hC
  have lp_68 : ∀ (k9 : Nat) (a b q i at9 lf : Nat) (ha : a < ng) (hb : b < ng) (e0 : p0 = nI a) (e1 : p1 = nI b) (e2 : p2 = nI q) (hz : tcWay ng p0 p1 p2 = 0) (hq0 : q < 2 ^ 31) (hi : i + lf = q) (ha9 : at9 < 12) (hc : cA (fD I) b at9 + i ≤ 11) (hf : rW I nr b (nI q) 12 0 (nI a) = rW I nr b (nI q) (12 - i) i (nI at9)) (hk : lf < k9), WW K G 0 0 (QM K G { frames := 2, cells := 0, slots := 0, locals := 48 } (mQ (tcWay ng p0 p1 p2) (some (.int (nI 0))) V I J (fun r V9 I9 J9 => V9 = upd V 7 (nI 0) ∧ I9 = I ∧ J9 = J ∧ ∃ a b, a < ng ∧ b < ng ∧ p0 = nI a ∧ p1 = nI b ∧ r = some (.int (rW I nr b p2 12 0 (nI a))))) (noX)) (upd V 7 (nI 0)) I J 68 [(6, .int (rT I nr at9 b)), (5, .int (nI lf)), (4, .int (nI at9)), (0, .ref (G.2.1 7)), (1, .int (nI a)), (2, .int (nI b)), (3, .int (nI q))] [] := by
    intro k9
    induction k9 with
    | zero =>
      intro a b q i at9 lf ha hb e0 e1 e2 hz hq0 hi ha9 hc hf hk
      omega
    | succ k9 ih =>
      intro a b q i at9 lf ha hb e0 e1 e2 hz hq0 hi ha9 hc hf hk
      have hcl : (nI at9).toNatClampNeg = at9 := nI_clamp (by omega)
      refine g_iload hC dX7_way_68 0 rfl ?_
      refine g_iconst (v := (-1)) hC dX7_way_70 (by decide) ?_
      refine g_icmp_eq hC 104 dX7_way_71 (by decide) (fun c_71 => ?_) (fun c_71 => ?_)
      · have hz2 : rW I nr b (nI q) 12 0 (nI a) = rT I nr at9 b := by rw [hf, show 12 - i = (12 - (i + 1)) + 1 by omega]; show (if _ then _ else _) = _; rw [hcl, if_pos (Or.inl c_71)]
        refine g_iload hC dX7_way_104 0 rfl ?_
        exact g_iret hC hr dX7_way_106 (Nat.le_of_ble_eq_true rfl) (Nat.le_of_ble_eq_true rfl) (Or.inl ⟨hz, rfl, rfl, rfl, a, b, ha, hb, e0, e1, by rw [e2, hz2]⟩)
      · obtain ⟨s1, s2, s3, s4, s5, s6⟩ := rT_s hK ha9 (show b < 12 by omega) c_71
        have hq := rT_nI hK.2.2 c_71
        have hqo := rT_oE hK.2.2 c_71
        refine g_iload hC dX7_way_74 1 rfl ?_
        refine g_if_le hC 104 dX7_way_76 (by decide) (fun c_76 => ?_) (fun c_76 => ?_)
        · rw [← nI_0] at c_76
          have d_76 : lf ≤ 0 := (nI_leI (by omega) (by omega)).mp c_76
          have hz2 : rW I nr b (nI q) 12 0 (nI a) = rT I nr at9 b := by rw [hf, show 12 - i = (12 - (i + 1)) + 1 by omega]; show (if _ then _ else _) = _; rw [hcl, if_pos (Or.inr (by rw [show i = q by omega]))]
          refine g_iload hC dX7_way_104 0 rfl ?_
          exact g_iret hC hr dX7_way_106 (Nat.le_of_ble_eq_true rfl) (Nat.le_of_ble_eq_true rfl) (Or.inl ⟨hz, rfl, rfl, rfl, a, b, ha, hb, e0, e1, by rw [e2, hz2]⟩)
        · rw [← nI_0] at c_76
          have d_76 : ¬ lf ≤ 0 := fun q => c_76 ((nI_leI (by omega) (by omega)).mpr q)
          refine g_aload_n hC dX7_way_79 rfl 3 rfl ?_
          refine g_iload hC dX7_way_80 0 rfl ?_
          refine g_eqI (x' := nI (tn (rT I nr at9 b))) hq.2.1 ?_
          refine g_iload hC dX7_way_82 2 rfl ?_
          refine g_cV hC [.int (nI (tn (rT I nr at9 b))), .int (nI at9)] 7 (m_X7_otherEnd hl hG (upd V 7 (nI 0)) I J hmI nr (tn (rT I nr at9 b)) (nI at9) hq.1 hK.2.2 hqo) rfl (st2 := [.int (oE I (tn (rT I nr at9 b)) (nI at9))]) rfl (by decide) rfl rfl rfl tw_898 tw_900 tw_25 tw_38 tw_901 pd_X7_otherEnd ⟨rfl, rfl⟩ (by rw [hRm]; exact ⟨Nat.le_of_ble_eq_true rfl, Nat.le_of_ble_eq_true rfl, Nat.le_of_ble_eq_true rfl, Nat.le_of_ble_eq_true rfl⟩) (Nat.le_of_ble_eq_true rfl) dX7_way_84 ?_
          refine g_eqI (x' := nI (tn (oE I (tn (rT I nr at9 b)) (nI at9)))) s2 ?_
          refine g_istore hC [(4, .int (nI (tn (oE I (tn (rT I nr at9 b)) (nI at9))))), (6, .int (rT I nr at9 b)), (5, .int (nI lf)), (0, .ref (G.2.1 7)), (1, .int (nI a)), (2, .int (nI b)), (3, .int (nI q))] dX7_way_87 (by decide) rfl ?_
          refine g_aload_n hC dX7_way_89 rfl 3 rfl ?_
          refine g_iload hC dX7_way_90 0 rfl ?_
          refine g_iload_n hC dX7_way_92 rfl 5 rfl ?_
          refine g_cV hC [.int (nI (tn (oE I (tn (rT I nr at9 b)) (nI at9)))), .int (nI b)] 7 (m_X7_next hl hG (upd V 7 (nI 0)) I J nr (tn (oE I (tn (rT I nr at9 b)) (nI at9))) b ((pk_un (by decide)).trans v10) hmI (hmF (by omega)) hK.2.2 s1 (by omega) (fun r hr => rc_self hK (by omega) hr)) rfl (st2 := [.int (rT I nr (tn (oE I (tn (rT I nr at9 b)) (nI at9))) b)]) rfl (by decide) rfl rfl rfl tw_893 tw_895 tw_24 tw_38 tw_896 pd_X7_next ⟨rfl, rfl⟩ (by rw [hRm]; exact ⟨Nat.le_of_ble_eq_true rfl, Nat.le_of_ble_eq_true rfl, Nat.le_of_ble_eq_true rfl, Nat.le_of_ble_eq_true rfl⟩) (Nat.le_of_ble_eq_true rfl) dX7_way_93 ?_
          refine g_istore hC [(6, .int (rT I nr (tn (oE I (tn (rT I nr at9 b)) (nI at9))) b)), (4, .int (nI (tn (oE I (tn (rT I nr at9 b)) (nI at9))))), (5, .int (nI lf)), (0, .ref (G.2.1 7)), (1, .int (nI a)), (2, .int (nI b)), (3, .int (nI q))] dX7_way_96 (by decide) rfl ?_
          refine g_iinc (v := nI (lf - 1)) hC [(5, .int (nI (lf - 1))), (6, .int (rT I nr (tn (oE I (tn (rT I nr at9 b)) (nI at9))) b)), (4, .int (nI (tn (oE I (tn (rT I nr at9 b)) (nI at9))))), (0, .ref (G.2.1 7)), (1, .int (nI a)), (2, .int (nI b)), (3, .int (nI q))] dX7_way_98 2 rfl (nI_im (by omega)) (by decide) rfl ?_
          refine g_goto hC 68 dX7_way_101 (by decide) ?_
          refine g_lv [1, 0, 2, 3, 4, 5, 6] (lv2 := [(6, .int (rT I nr (tn (oE I (tn (rT I nr at9 b)) (nI at9))) b)), (5, .int (nI (lf - 1))), (4, .int (nI (tn (oE I (tn (rT I nr at9 b)) (nI at9))))), (0, .ref (G.2.1 7)), (1, .int (nI a)), (2, .int (nI b)), (3, .int (nI q))]) rfl ?_
          exact ih a b q (i + 1) (tn (oE I (tn (rT I nr at9 b)) (nI at9))) (lf - 1) ha hb e0 e1 e2 hz hq0 (by omega) s1 (by omega) (by rw [hf, show 12 - i = (12 - (i + 1)) + 1 by omega]; show (if _ then _ else _) = _; rw [hcl, if_neg (fun z => z.elim c_71 (fun z => by have := (nI_eq (by omega) (by omega)).mp z; omega)), ← s2]) (by omega)
  refine g_aload_n hC dX7_way_0 rfl 0 rfl ?_
  refine g_aload_n hC dX7_way_1 rfl 0 rfl ?_
  refine g_iload_n hC dX7_way_2 rfl 1 rfl ?_
  refine g_cV hC [.int p0] 7 (m_X7_isGate hl hG V I J ng p0 v9 (by omega)) rfl (st2 := [.int ((if inB p0 ng = true then nI 1 else nI 0)), .ref (G.2.1 7)]) rfl (by decide) rfl rfl rfl tw_815 tw_817 tw_16 tw_38 tw_818 pd_X7_isGate ⟨rfl, rfl⟩ (by rw [hRm]; exact ⟨Nat.le_of_ble_eq_true rfl, Nat.le_of_ble_eq_true rfl, Nat.le_of_ble_eq_true rfl, Nat.le_of_ble_eq_true rfl⟩) (Nat.le_of_ble_eq_true rfl) dX7_way_3 ?_
  refine g_if_eq hC 25 dX7_way_6 (by decide) (fun c_6 => ?_) (fun c_6 => ?_)
  · have e_6 := b10_f c_6
    refine g_iconst (v := nI 1) hC dX7_way_25 (by decide) ?_
    refine gp_X7_103 hC dX7_way_26 ?_
    refine g_aload_n hC dX7_way_29 rfl 0 rfl ?_
    refine gf_X7_103 hC dX7_way_30 ?_
    refine g_eqI (x' := nI 1) (by rw [pk_us]) ?_
    refine g_if_le hC 38 dX7_way_33 (by decide) (fun c_33 => ?_) (fun c_33 => ?_)
    · exact absurd c_33 (by decide)
    · refine g_iconst (v := nI 0) hC dX7_way_36 (by decide) ?_
      exact g_iret hC hr dX7_way_37 (Nat.le_of_ble_eq_true rfl) (Nat.le_of_ble_eq_true rfl) (mQ_x (by have hz : tcWay ng p0 p1 p2 = 1 := (by simp [tcWay, ← Int32.not_lt, e_6]); exact hz) (by decide))
  · have e_6 := b10_t c_6
    refine g_aload_n hC dX7_way_9 rfl 0 rfl ?_
    refine g_iload_n hC dX7_way_10 rfl 2 rfl ?_
    refine g_cV hC [.int p1] 7 (m_X7_isGate hl hG V I J ng p1 v9 (by omega)) rfl (st2 := [.int ((if inB p1 ng = true then nI 1 else nI 0)), .ref (G.2.1 7)]) rfl (by decide) rfl rfl rfl tw_815 tw_817 tw_16 tw_38 tw_818 pd_X7_isGate ⟨rfl, rfl⟩ (by rw [hRm]; exact ⟨Nat.le_of_ble_eq_true rfl, Nat.le_of_ble_eq_true rfl, Nat.le_of_ble_eq_true rfl, Nat.le_of_ble_eq_true rfl⟩) (Nat.le_of_ble_eq_true rfl) dX7_way_11 ?_
    refine g_if_eq hC 25 dX7_way_14 (by decide) (fun c_14 => ?_) (fun c_14 => ?_)
    · have e_14 := b10_f c_14
      refine g_iconst (v := nI 1) hC dX7_way_25 (by decide) ?_
      refine gp_X7_103 hC dX7_way_26 ?_
      refine g_aload_n hC dX7_way_29 rfl 0 rfl ?_
      refine gf_X7_103 hC dX7_way_30 ?_
      refine g_eqI (x' := nI 1) (by rw [pk_us]) ?_
      refine g_if_le hC 38 dX7_way_33 (by decide) (fun c_33 => ?_) (fun c_33 => ?_)
      · exact absurd c_33 (by decide)
      · refine g_iconst (v := nI 0) hC dX7_way_36 (by decide) ?_
        exact g_iret hC hr dX7_way_37 (Nat.le_of_ble_eq_true rfl) (Nat.le_of_ble_eq_true rfl) (mQ_x (by have hz : tcWay ng p0 p1 p2 = 1 := (by simp [tcWay, ← Int32.not_lt, e_6, e_14]); exact hz) (by decide))
    · have e_14 := b10_t c_14
      refine g_iload_n hC dX7_way_17 rfl 3 rfl ?_
      refine g_if_lt hC 25 dX7_way_18 (by decide) (fun c_18 => ?_) (fun c_18 => ?_)
      · refine g_iconst (v := nI 1) hC dX7_way_25 (by decide) ?_
        refine gp_X7_103 hC dX7_way_26 ?_
        refine g_aload_n hC dX7_way_29 rfl 0 rfl ?_
        refine gf_X7_103 hC dX7_way_30 ?_
        refine g_eqI (x' := nI 1) (by rw [pk_us]) ?_
        refine g_if_le hC 38 dX7_way_33 (by decide) (fun c_33 => ?_) (fun c_33 => ?_)
        · exact absurd c_33 (by decide)
        · refine g_iconst (v := nI 0) hC dX7_way_36 (by decide) ?_
          exact g_iret hC hr dX7_way_37 (Nat.le_of_ble_eq_true rfl) (Nat.le_of_ble_eq_true rfl) (mQ_x (by have hz : tcWay ng p0 p1 p2 = 1 := (by simp [tcWay, ← Int32.not_lt, e_6, e_14, c_18]); exact hz) (by decide))
      · refine g_iconst (v := nI 0) hC dX7_way_21 (by decide) ?_
        refine g_goto hC 26 dX7_way_22 (by decide) ?_
        refine gp_X7_103 hC dX7_way_26 ?_
        refine g_aload_n hC dX7_way_29 rfl 0 rfl ?_
        refine gf_X7_103 hC dX7_way_30 ?_
        refine g_eqI (x' := nI 0) (by rw [pk_us]) ?_
        refine g_if_le hC 38 dX7_way_33 (by decide) (fun c_33 => ?_) (fun c_33 => ?_)
        · have hz : tcWay ng p0 p1 p2 = 0 := by simp [tcWay, ← Int32.not_lt, e_6, e_14, c_18]
          obtain ⟨a, ha, ea⟩ := inB_nI e_6 (by omega)
          obtain ⟨b, hb, eb⟩ := inB_nI e_14 (by omega)
          obtain ⟨q, hq0, eq2⟩ := nI_of c_18
          subst ea eb eq2
          refine g_iload_n hC dX7_way_38 rfl 1 rfl ?_
          refine g_istore hC [(4, .int (nI a)), (0, .ref (G.2.1 7)), (1, .int (nI a)), (2, .int (nI b)), (3, .int (nI q))] dX7_way_39 (by decide) rfl ?_
          refine g_iload_n hC dX7_way_41 rfl 4 rfl ?_
          refine g_istore hC [(5, .int (nI q)), (4, .int (nI a)), (0, .ref (G.2.1 7)), (1, .int (nI a)), (2, .int (nI b)), (3, .int (nI q))] dX7_way_42 (by decide) rfl ?_
          refine g_aload_n hC dX7_way_44 rfl 2 rfl ?_
          refine g_iload_n hC dX7_way_45 rfl 3 rfl ?_
          refine g_iload_n hC dX7_way_46 rfl 4 rfl ?_
          refine g_cV hC [.int (nI a), .int (nI b)] 7 (m_X7_away hl hG (upd V 7 (nI 0)) I J a b (by omega) (by omega)) rfl (st2 := [.int (I 55 (12 * a + b))]) rfl (by decide) rfl rfl rfl tw_881 tw_883 tw_21 tw_38 tw_884 pd_X7_away ⟨rfl, rfl⟩ (by rw [hRm]; exact ⟨Nat.le_of_ble_eq_true rfl, Nat.le_of_ble_eq_true rfl, Nat.le_of_ble_eq_true rfl, Nat.le_of_ble_eq_true rfl⟩) (Nat.le_of_ble_eq_true rfl) dX7_way_47 ?_
          refine g_eqI (x' := I (35 + a) b) (hmF (by omega) _ _ (by omega) (by omega)) ?_
          refine g_ldc (v := nI 1000000) hC tw_810 dX7_way_50 ?_
          refine g_icmp_ge hC 65 dX7_way_52 (by decide) (fun c_52 => ?_) (fun c_52 => ?_)
          · refine g_iconst (v := (-1)) hC dX7_way_65 (by decide) ?_
            refine g_eqI (x' := rT I nr a b) (rT_n hK (by omega) (by omega) (Or.inr (by have h1 := Int32.le_iff_toInt_le.mp c_52; have h2 := dG_m hK.1 (show a < 12 by omega) (show b < 12 by omega); have h3 : (nI 1000000).toInt = 1000000 := (by decide); have h4 : fD I a b = (I (35 + a) b).toInt := rfl; omega))).symm ?_
            refine g_istore hC [(6, .int (rT I nr a b)), (5, .int (nI q)), (4, .int (nI a)), (0, .ref (G.2.1 7)), (1, .int (nI a)), (2, .int (nI b)), (3, .int (nI q))] dX7_way_66 (by decide) rfl ?_
            exact lp_68 (q + 1) a b q 0 a q ha hb rfl rfl rfl hz hq0 (by omega) (by omega) (by have := cA_le (D := fD I) (g := b) (show a < 12 by omega); omega) rfl (by omega)
          · refine g_aload_n hC dX7_way_55 rfl 2 rfl ?_
            refine g_iload hC dX7_way_56 1 rfl ?_
            refine g_iload_n hC dX7_way_58 rfl 4 rfl ?_
            refine g_cV hC [.int (nI a), .int (nI b)] 7 (m_X7_next hl hG (upd V 7 (nI 0)) I J nr a b ((pk_un (by decide)).trans v10) hmI (hmF (by omega)) hK.2.2 (by omega) (by omega) (fun r hr => rc_self hK (by omega) hr)) rfl (st2 := [.int (rT I nr a b)]) rfl (by decide) rfl rfl rfl tw_893 tw_895 tw_24 tw_38 tw_896 pd_X7_next ⟨rfl, rfl⟩ (by rw [hRm]; exact ⟨Nat.le_of_ble_eq_true rfl, Nat.le_of_ble_eq_true rfl, Nat.le_of_ble_eq_true rfl, Nat.le_of_ble_eq_true rfl⟩) (Nat.le_of_ble_eq_true rfl) dX7_way_59 ?_
            refine g_goto hC 66 dX7_way_62 (by decide) ?_
            refine g_istore hC [(6, .int (rT I nr a b)), (5, .int (nI q)), (4, .int (nI a)), (0, .ref (G.2.1 7)), (1, .int (nI a)), (2, .int (nI b)), (3, .int (nI q))] dX7_way_66 (by decide) rfl ?_
            exact lp_68 (q + 1) a b q 0 a q ha hb rfl rfl rfl hz hq0 (by omega) (by omega) (by have := cA_le (D := fD I) (g := b) (show a < 12 by omega); omega) rfl (by omega)
        · exact absurd c_33 (by decide)

set_option maxRecDepth 100000 in
theorem m_X7_begins {l : Launch} {G : wG} (hl : l.stackTraces = false) (hG : wD G) (V : wV) (I : wI) (J : wJ) (c r : Nat) (v14 : V 14 = nI c) (h1 : c < 100) (h2 : r < 100) : Ctr l yX7_begins cX7_begins 4 none { frames := 0, cells := 0, slots := 0, locals := 0 } G [.ref (G.2.1 7), .int (nI r)] V I J (pU none (upd V 14 (nI (c + 1))) (sI (sI I 74 c (I 69 r)) 76 c (nI 0)) (sJ (sJ (sJ (sJ J 77 (4 * c + 0) 0) 77 (4 * c + 1) 0) 77 (4 * c + 2) 0) 77 (4 * c + 3) 0)) (noX) := by
  refine ctr_of hl hG (by decide) (Nat.le_of_ble_eq_true rfl) [(0, .ref (G.2.1 7)), (1, .int (nI r))] rfl ?_
  intro K hC hKl hRm hr hT
  subst hKl
  have hC : Cx K G RX7 cX7_begins 4 := hC
  refine g_aload_n hC dX7_begins_0 rfl 0 rfl ?_
  refine gf_X7_159 hC dX7_begins_1 ?_
  refine g_eqI (x' := nI c) (by rw [v14]) ?_
  refine g_istore_n hC [(2, .int (nI c)), (0, .ref (G.2.1 7)), (1, .int (nI r))] dX7_begins_4 rfl (by decide) rfl ?_
  refine g_aload_n hC dX7_begins_5 rfl 1 rfl ?_
  refine gf_X7_85 hC dX7_begins_6 ?_
  refine g_iload_n hC dX7_begins_9 rfl 0 rfl ?_
  refine g_aload_n hC dX7_begins_10 rfl 1 rfl ?_
  refine gf_X7_69 hC dX7_begins_11 ?_
  refine g_iload_n hC dX7_begins_14 rfl 2 rfl ?_
  refine n_iald hC 69 aa_69 r (show r < 100 by omega) dX7_begins_15 ?_
  refine n_iast hC 74 aa_74 c (show c < 100 by omega) dX7_begins_16 ?_
  refine g_aload_n hC dX7_begins_17 rfl 1 rfl ?_
  refine gf_X7_91 hC dX7_begins_18 ?_
  refine g_iload_n hC dX7_begins_21 rfl 0 rfl ?_
  refine g_iconst (v := nI 0) hC dX7_begins_22 (by decide) ?_
  refine n_iast hC 76 aa_76 c (show c < 100 by omega) dX7_begins_23 ?_
  refine g_iconst (v := nI 0) hC dX7_begins_24 (by decide) ?_
  refine g_istore_n hC [(3, .int (nI 0)), (2, .int (nI c)), (0, .ref (G.2.1 7)), (1, .int (nI r))] dX7_begins_25 rfl (by decide) rfl ?_
  refine g_iload_n hC dX7_begins_26 rfl 0 rfl ?_
  refine g_iconst (v := nI 4) hC dX7_begins_27 (by decide) ?_
  refine g_icmp_ge hC 48 dX7_begins_28 (by decide) (fun c_28 => ?_) (fun c_28 => ?_)
  · exact absurd c_28 (by decide)
  · refine g_aload_n hC dX7_begins_31 rfl 2 rfl ?_
    refine gf_X7_94 hC dX7_begins_32 ?_
    refine g_iconst (v := nI 4) hC dX7_begins_35 (by decide) ?_
    refine g_iload_n hC dX7_begins_36 rfl 1 rfl ?_
    refine g_imul hC dX7_begins_37 ?_
    refine g_eqI (x' := nI (4 * c)) (pk_mul _ _) ?_
    refine g_iload_n hC dX7_begins_38 rfl 0 rfl ?_
    refine g_iadd hC dX7_begins_39 ?_
    refine g_eqI (x' := nI ((4 * c) + 0)) (nI_add _ _) ?_
    refine g_lconst (v := 0) hC dX7_begins_40 (by decide) ?_
    refine n_last hC 77 aa_77 ((4 * c) + 0) (show (4 * c) + 0 < 400 by omega) dX7_begins_41 ?_
    refine g_iinc (v := nI 1) hC [(3, .int (nI 1)), (2, .int (nI c)), (0, .ref (G.2.1 7)), (1, .int (nI r))] dX7_begins_42 0 rfl (nI_i1 _) (by decide) rfl ?_
    refine g_goto hC 26 dX7_begins_45 (by decide) ?_
    refine g_iload_n hC dX7_begins_26 rfl 0 rfl ?_
    refine g_iconst (v := nI 4) hC dX7_begins_27 (by decide) ?_
    refine g_icmp_ge hC 48 dX7_begins_28 (by decide) (fun c_28 => ?_) (fun c_28 => ?_)
    · exact absurd c_28 (by decide)
    · refine g_aload_n hC dX7_begins_31 rfl 2 rfl ?_
      refine gf_X7_94 hC dX7_begins_32 ?_
      refine g_iconst (v := nI 4) hC dX7_begins_35 (by decide) ?_
      refine g_iload_n hC dX7_begins_36 rfl 1 rfl ?_
      refine g_imul hC dX7_begins_37 ?_
      refine g_eqI (x' := nI (4 * c)) (pk_mul _ _) ?_
      refine g_iload_n hC dX7_begins_38 rfl 0 rfl ?_
      refine g_iadd hC dX7_begins_39 ?_
      refine g_eqI (x' := nI ((4 * c) + 1)) (nI_add _ _) ?_
      refine g_lconst (v := 0) hC dX7_begins_40 (by decide) ?_
      refine n_last hC 77 aa_77 ((4 * c) + 1) (show (4 * c) + 1 < 400 by omega) dX7_begins_41 ?_
      refine g_iinc (v := nI 2) hC [(3, .int (nI 2)), (2, .int (nI c)), (0, .ref (G.2.1 7)), (1, .int (nI r))] dX7_begins_42 0 rfl (nI_i1 _) (by decide) rfl ?_
      refine g_goto hC 26 dX7_begins_45 (by decide) ?_
      refine g_iload_n hC dX7_begins_26 rfl 0 rfl ?_
      refine g_iconst (v := nI 4) hC dX7_begins_27 (by decide) ?_
      refine g_icmp_ge hC 48 dX7_begins_28 (by decide) (fun c_28 => ?_) (fun c_28 => ?_)
      · exact absurd c_28 (by decide)
      · refine g_aload_n hC dX7_begins_31 rfl 2 rfl ?_
        refine gf_X7_94 hC dX7_begins_32 ?_
        refine g_iconst (v := nI 4) hC dX7_begins_35 (by decide) ?_
        refine g_iload_n hC dX7_begins_36 rfl 1 rfl ?_
        refine g_imul hC dX7_begins_37 ?_
        refine g_eqI (x' := nI (4 * c)) (pk_mul _ _) ?_
        refine g_iload_n hC dX7_begins_38 rfl 0 rfl ?_
        refine g_iadd hC dX7_begins_39 ?_
        refine g_eqI (x' := nI ((4 * c) + 2)) (nI_add _ _) ?_
        refine g_lconst (v := 0) hC dX7_begins_40 (by decide) ?_
        refine n_last hC 77 aa_77 ((4 * c) + 2) (show (4 * c) + 2 < 400 by omega) dX7_begins_41 ?_
        refine g_iinc (v := nI 3) hC [(3, .int (nI 3)), (2, .int (nI c)), (0, .ref (G.2.1 7)), (1, .int (nI r))] dX7_begins_42 0 rfl (nI_i1 _) (by decide) rfl ?_
        refine g_goto hC 26 dX7_begins_45 (by decide) ?_
        refine g_iload_n hC dX7_begins_26 rfl 0 rfl ?_
        refine g_iconst (v := nI 4) hC dX7_begins_27 (by decide) ?_
        refine g_icmp_ge hC 48 dX7_begins_28 (by decide) (fun c_28 => ?_) (fun c_28 => ?_)
        · exact absurd c_28 (by decide)
        · refine g_aload_n hC dX7_begins_31 rfl 2 rfl ?_
          refine gf_X7_94 hC dX7_begins_32 ?_
          refine g_iconst (v := nI 4) hC dX7_begins_35 (by decide) ?_
          refine g_iload_n hC dX7_begins_36 rfl 1 rfl ?_
          refine g_imul hC dX7_begins_37 ?_
          refine g_eqI (x' := nI (4 * c)) (pk_mul _ _) ?_
          refine g_iload_n hC dX7_begins_38 rfl 0 rfl ?_
          refine g_iadd hC dX7_begins_39 ?_
          refine g_eqI (x' := nI ((4 * c) + 3)) (nI_add _ _) ?_
          refine g_lconst (v := 0) hC dX7_begins_40 (by decide) ?_
          refine n_last hC 77 aa_77 ((4 * c) + 3) (show (4 * c) + 3 < 400 by omega) dX7_begins_41 ?_
          refine g_iinc (v := nI 4) hC [(3, .int (nI 4)), (2, .int (nI c)), (0, .ref (G.2.1 7)), (1, .int (nI r))] dX7_begins_42 0 rfl (nI_i1 _) (by decide) rfl ?_
          refine g_goto hC 26 dX7_begins_45 (by decide) ?_
          refine g_iload_n hC dX7_begins_26 rfl 0 rfl ?_
          refine g_iconst (v := nI 4) hC dX7_begins_27 (by decide) ?_
          refine g_icmp_ge hC 48 dX7_begins_28 (by decide) (fun c_28 => ?_) (fun c_28 => ?_)
          · refine g_aload_n hC dX7_begins_48 rfl 2 rfl ?_
            refine g_dup hC dX7_begins_49 rfl ?_
            refine gf_X7_159 hC dX7_begins_50 ?_
            refine g_eqI (x' := nI c) (by rw [v14]) ?_
            refine g_iconst (v := nI 1) hC dX7_begins_53 (by decide) ?_
            refine g_iadd hC dX7_begins_54 ?_
            refine g_eqI (x' := nI (c + 1)) (nI_add _ _) ?_
            refine gp_X7_159 hC dX7_begins_55 ?_
            exact g_vret hC hr dX7_begins_58 (Nat.le_of_ble_eq_true rfl) (Nat.le_of_ble_eq_true rfl) ⟨rfl, rfl, rfl, rfl⟩
          · exact absurd c_28 (by decide)

set_option maxRecDepth 100000 in
theorem m_X7_nextReading {l : Launch} {G : wG} (hl : l.stackTraces = false) (hG : wD G) (V : wV) (I : wI) (J : wJ) (n p : Nat) (v13 : V 13 = nI n) (hn : n ≤ 100) (hmI : mI I) : Ctr l yX7_nextReading cX7_nextReading 5 (some .int) { frames := 0, cells := 0, slots := 0, locals := 0 } G [.ref (G.2.1 7), .int (nI p)] V I J (fun r V9 I9 J9 => V9 = V ∧ I9 = I ∧ J9 = J ∧ ∃ x, r = some (.int x) ∧ nxR I n p 0 x) (noX) := by
  refine ctr_of hl hG (by decide) (Nat.le_of_ble_eq_true rfl) [(0, .ref (G.2.1 7)), (1, .int (nI p))] rfl ?_
  intro K hC hKl hRm hr hT
  subst hKl
  have hC : Cx K G RX7 cX7_nextReading 5 := hC
  obtain ⟨m51, m52, m53, m54, m56, m57, m58, m59, m64, m65, m66, m67, m68, m69, m70⟩ := id hmI
  have lp_9 : ∀ (k9 : Nat) (k : Nat) (x L : Int32) (hx : L = nI k - nI 1) (hk : k ≤ n) (hN : nxR I n p k x) (hk9 : k < k9), WW K G 0 0 (QM K G { frames := 0, cells := 0, slots := 0, locals := 0 } (fun r V9 I9 J9 => V9 = V ∧ I9 = I ∧ J9 = J ∧ ∃ x, r = some (.int x) ∧ nxR I n p 0 x) (noX)) V I J 9 [(3, .int L), (2, .int x), (0, .ref (G.2.1 7)), (1, .int (nI p))] [] := by
    intro k9
    induction k9 with
    | zero =>
      intro k x L hx hk hN hk9
      omega
    | succ k9 ih =>
      intro k x L hx hk hN hk9
      refine g_iload_n hC dX7_nextReading_9 rfl 0 rfl ?_
      refine g_if_lt hC 85 dX7_nextReading_10 (by decide) (fun c_10 => ?_) (fun c_10 => ?_)
      · refine g_iload_n hC dX7_nextReading_85 rfl 1 rfl ?_
        exact g_iret hC hr dX7_nextReading_86 (Nat.le_of_ble_eq_true rfl) (Nat.le_of_ble_eq_true rfl) ⟨rfl, rfl, rfl, x, rfl, by rw [show k = 0 from dn_z hx c_10 (by omega)] at hN; exact hN⟩
      · obtain ⟨j, ek, ex⟩ := dn_x hx c_10 (by omega)
        subst ek
        subst ex
        clear hx
        refine g_aload_n hC dX7_nextReading_13 rfl 2 rfl ?_
        refine gf_X7_66 hC dX7_nextReading_14 ?_
        refine g_iload_n hC dX7_nextReading_17 rfl 0 rfl ?_
        refine n_iald hC 68 aa_68 j (show j < 100 by omega) dX7_nextReading_18 ?_
        refine g_eqI (x' := I 20 j) (by rw [m68]) ?_
        refine g_iload_n hC dX7_nextReading_19 rfl 3 rfl ?_
        refine g_icmp_ne hC 45 dX7_nextReading_20 (by decide) (fun c_20 => ?_) (fun c_20 => ?_)
        · have hN2 := nxR_n (fun z => c_20 z.1) hN
          refine g_iconst (v := nI 0) hC dX7_nextReading_45 (by decide) ?_
          refine g_istore hC [(4, .int (nI 0)), (3, .int (nI j)), (2, .int x), (0, .ref (G.2.1 7)), (1, .int (nI p))] dX7_nextReading_46 (by decide) rfl ?_
          refine g_iload hC dX7_nextReading_48 0 rfl ?_
          refine g_if_eq hC 77 dX7_nextReading_50 (by decide) (fun c_50 => ?_) (fun c_50 => ?_)
          · refine g_iload_n hC dX7_nextReading_77 rfl 2 rfl ?_
            refine g_istore_n hC [(2, .int x), (4, .int (nI 0)), (3, .int (nI j)), (0, .ref (G.2.1 7)), (1, .int (nI p))] dX7_nextReading_78 rfl (by decide) rfl ?_
            refine g_iinc (v := nI j - nI 1) hC [(3, .int (nI j - nI 1)), (2, .int x), (4, .int (nI 0)), (0, .ref (G.2.1 7)), (1, .int (nI p))] dX7_nextReading_79 2 rfl (dn_i _) (by decide) rfl ?_
            refine g_goto hC 9 dX7_nextReading_82 (by decide) ?_
            refine g_lv [0, 1, 3, 4] (lv2 := [(3, .int (nI j - nI 1)), (2, .int x), (0, .ref (G.2.1 7)), (1, .int (nI p))]) rfl ?_
            exact ih j x _ rfl (by omega) hN2 (by omega)
          · exact absurd c_50 (by decide)
        · refine g_aload_n hC dX7_nextReading_23 rfl 2 rfl ?_
          refine gf_X7_72 hC dX7_nextReading_24 ?_
          refine g_iload_n hC dX7_nextReading_27 rfl 0 rfl ?_
          refine n_zald hC 70 aa_70 j (show j < 100 by omega) dX7_nextReading_28 ?_
          refine g_eqI (x' := I 22 j) (by rw [m70]) ?_
          refine g_if_ne hC 45 dX7_nextReading_29 (by decide) (fun c_29 => ?_) (fun c_29 => ?_)
          · have hN2 := nxR_n (fun z => c_29 z.2.1) hN
            refine g_iconst (v := nI 0) hC dX7_nextReading_45 (by decide) ?_
            refine g_istore hC [(4, .int (nI 0)), (3, .int (nI j)), (2, .int x), (0, .ref (G.2.1 7)), (1, .int (nI p))] dX7_nextReading_46 (by decide) rfl ?_
            refine g_iload hC dX7_nextReading_48 0 rfl ?_
            refine g_if_eq hC 77 dX7_nextReading_50 (by decide) (fun c_50 => ?_) (fun c_50 => ?_)
            · refine g_iload_n hC dX7_nextReading_77 rfl 2 rfl ?_
              refine g_istore_n hC [(2, .int x), (4, .int (nI 0)), (3, .int (nI j)), (0, .ref (G.2.1 7)), (1, .int (nI p))] dX7_nextReading_78 rfl (by decide) rfl ?_
              refine g_iinc (v := nI j - nI 1) hC [(3, .int (nI j - nI 1)), (2, .int x), (4, .int (nI 0)), (0, .ref (G.2.1 7)), (1, .int (nI p))] dX7_nextReading_79 2 rfl (dn_i _) (by decide) rfl ?_
              refine g_goto hC 9 dX7_nextReading_82 (by decide) ?_
              refine g_lv [0, 1, 3, 4] (lv2 := [(3, .int (nI j - nI 1)), (2, .int x), (0, .ref (G.2.1 7)), (1, .int (nI p))]) rfl ?_
              exact ih j x _ rfl (by omega) hN2 (by omega)
            · exact absurd c_50 (by decide)
          · refine g_aload_n hC dX7_nextReading_32 rfl 2 rfl ?_
            refine gf_X7_82 hC dX7_nextReading_33 ?_
            refine g_iload_n hC dX7_nextReading_36 rfl 0 rfl ?_
            refine n_zald hC 73 aa_73 j (show j < 100 by omega) dX7_nextReading_37 ?_
            refine g_if_ne hC 45 dX7_nextReading_38 (by decide) (fun c_38 => ?_) (fun c_38 => ?_)
            · have hN2 := nxR_n (fun z => c_38 z.2.2) hN
              refine g_iconst (v := nI 0) hC dX7_nextReading_45 (by decide) ?_
              refine g_istore hC [(4, .int (nI 0)), (3, .int (nI j)), (2, .int x), (0, .ref (G.2.1 7)), (1, .int (nI p))] dX7_nextReading_46 (by decide) rfl ?_
              refine g_iload hC dX7_nextReading_48 0 rfl ?_
              refine g_if_eq hC 77 dX7_nextReading_50 (by decide) (fun c_50 => ?_) (fun c_50 => ?_)
              · refine g_iload_n hC dX7_nextReading_77 rfl 2 rfl ?_
                refine g_istore_n hC [(2, .int x), (4, .int (nI 0)), (3, .int (nI j)), (0, .ref (G.2.1 7)), (1, .int (nI p))] dX7_nextReading_78 rfl (by decide) rfl ?_
                refine g_iinc (v := nI j - nI 1) hC [(3, .int (nI j - nI 1)), (2, .int x), (4, .int (nI 0)), (0, .ref (G.2.1 7)), (1, .int (nI p))] dX7_nextReading_79 2 rfl (dn_i _) (by decide) rfl ?_
                refine g_goto hC 9 dX7_nextReading_82 (by decide) ?_
                refine g_lv [0, 1, 3, 4] (lv2 := [(3, .int (nI j - nI 1)), (2, .int x), (0, .ref (G.2.1 7)), (1, .int (nI p))]) rfl ?_
                exact ih j x _ rfl (by omega) hN2 (by omega)
              · exact absurd c_50 (by decide)
            · have hc : canR I p j := ⟨c_20, c_29, c_38⟩
              refine g_iconst (v := nI 1) hC dX7_nextReading_41 (by decide) ?_
              refine g_goto hC 46 dX7_nextReading_42 (by decide) ?_
              refine g_istore hC [(4, .int (nI 1)), (3, .int (nI j)), (2, .int x), (0, .ref (G.2.1 7)), (1, .int (nI p))] dX7_nextReading_46 (by decide) rfl ?_
              refine g_iload hC dX7_nextReading_48 0 rfl ?_
              refine g_if_eq hC 77 dX7_nextReading_50 (by decide) (fun c_50 => ?_) (fun c_50 => ?_)
              · exact absurd c_50 (by decide)
              · refine g_iload_n hC dX7_nextReading_53 rfl 2 rfl ?_
                refine g_iconst (v := (-1)) hC dX7_nextReading_54 (by decide) ?_
                refine g_icmp_eq hC 73 dX7_nextReading_55 (by decide) (fun c_55 => ?_) (fun c_55 => ?_)
                · have hN2 := nxR_0 (by omega) hn hc hN c_55
                  refine g_iload_n hC dX7_nextReading_73 rfl 1 rfl ?_
                  refine g_goto hC 78 dX7_nextReading_74 (by decide) ?_
                  refine g_istore_n hC [(2, .int (nI j)), (4, .int (nI 1)), (3, .int (nI j)), (0, .ref (G.2.1 7)), (1, .int (nI p))] dX7_nextReading_78 rfl (by decide) rfl ?_
                  refine g_iinc (v := nI j - nI 1) hC [(3, .int (nI j - nI 1)), (2, .int (nI j)), (4, .int (nI 1)), (0, .ref (G.2.1 7)), (1, .int (nI p))] dX7_nextReading_79 2 rfl (dn_i _) (by decide) rfl ?_
                  refine g_goto hC 9 dX7_nextReading_82 (by decide) ?_
                  refine g_lv [0, 1, 3, 4] (lv2 := [(3, .int (nI j - nI 1)), (2, .int (nI j)), (0, .ref (G.2.1 7)), (1, .int (nI p))]) rfl ?_
                  exact ih j (nI j) _ rfl (by omega) hN2 (by omega)
                · obtain ⟨f, ef, hf1, hf2, hf3, hf4⟩ := hN.resolve_left (fun z => c_55 z.1)
                  refine g_aload_n hC dX7_nextReading_58 rfl 3 rfl ?_
                  refine gf_X7_69 hC dX7_nextReading_59 ?_
                  refine g_iload_n hC dX7_nextReading_62 rfl 1 rfl ?_
                  refine n_iald hC 69 aa_69 j (show j < 100 by omega) dX7_nextReading_63 ?_
                  refine g_eqI (x' := I 21 j) (by rw [m69]) ?_
                  refine g_aload_n hC dX7_nextReading_64 rfl 3 rfl ?_
                  refine gf_X7_69 hC dX7_nextReading_65 ?_
                  refine g_iload_n hC dX7_nextReading_68 rfl 2 rfl ?_
                  refine g_eqI (x' := nI f) ef ?_
                  refine n_iald hC 69 aa_69 f (show f < 100 by omega) dX7_nextReading_69 ?_
                  refine g_eqI (x' := I 21 f) (by rw [m69]) ?_
                  refine g_icmp_gt hC 77 dX7_nextReading_70 (by decide) (fun c_70 => ?_) (fun c_70 => ?_)
                  · have hN2 := nxR_k hn hN ef hf2 c_70
                    refine g_iload_n hC dX7_nextReading_77 rfl 2 rfl ?_
                    refine g_istore_n hC [(2, .int x), (4, .int (nI 1)), (3, .int (nI j)), (0, .ref (G.2.1 7)), (1, .int (nI p))] dX7_nextReading_78 rfl (by decide) rfl ?_
                    refine g_iinc (v := nI j - nI 1) hC [(3, .int (nI j - nI 1)), (2, .int x), (4, .int (nI 1)), (0, .ref (G.2.1 7)), (1, .int (nI p))] dX7_nextReading_79 2 rfl (dn_i _) (by decide) rfl ?_
                    refine g_goto hC 9 dX7_nextReading_82 (by decide) ?_
                    refine g_lv [0, 1, 3, 4] (lv2 := [(3, .int (nI j - nI 1)), (2, .int x), (0, .ref (G.2.1 7)), (1, .int (nI p))]) rfl ?_
                    exact ih j x _ rfl (by omega) hN2 (by omega)
                  · have hN2 := nxR_y (by omega) hn hc hN ef hf2 c_70
                    refine g_iload_n hC dX7_nextReading_73 rfl 1 rfl ?_
                    refine g_goto hC 78 dX7_nextReading_74 (by decide) ?_
                    refine g_istore_n hC [(2, .int (nI j)), (4, .int (nI 1)), (3, .int (nI j)), (0, .ref (G.2.1 7)), (1, .int (nI p))] dX7_nextReading_78 rfl (by decide) rfl ?_
                    refine g_iinc (v := nI j - nI 1) hC [(3, .int (nI j - nI 1)), (2, .int (nI j)), (4, .int (nI 1)), (0, .ref (G.2.1 7)), (1, .int (nI p))] dX7_nextReading_79 2 rfl (dn_i _) (by decide) rfl ?_
                    refine g_goto hC 9 dX7_nextReading_82 (by decide) ?_
                    refine g_lv [0, 1, 3, 4] (lv2 := [(3, .int (nI j - nI 1)), (2, .int (nI j)), (0, .ref (G.2.1 7)), (1, .int (nI p))]) rfl ?_
                    exact ih j (nI j) _ rfl (by omega) hN2 (by omega)
  refine g_iconst (v := (-1)) hC dX7_nextReading_0 (by decide) ?_
  refine g_istore_n hC [(2, .int ((-1))), (0, .ref (G.2.1 7)), (1, .int (nI p))] dX7_nextReading_1 rfl (by decide) rfl ?_
  refine g_aload_n hC dX7_nextReading_2 rfl 1 rfl ?_
  refine gf_X7_113 hC dX7_nextReading_3 ?_
  refine g_eqI (x' := nI n) (by rw [v13]) ?_
  refine g_iconst (v := nI 1) hC dX7_nextReading_6 (by decide) ?_
  refine g_isub hC dX7_nextReading_7 ?_
  refine g_istore_n hC [(3, .int ((nI n) - (nI 1))), (2, .int ((-1))), (0, .ref (G.2.1 7)), (1, .int (nI p))] dX7_nextReading_8 rfl (by decide) rfl ?_
  exact lp_9 (n + 1) n (-1) _ rfl (Nat.le_refl _) (nxR_z I n p) (by omega)
