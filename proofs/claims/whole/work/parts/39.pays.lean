set_option maxRecDepth 100000 in
theorem m_X7_pays {l : Launch} {G : wG} (hl : l.stackTraces = false) (hG : wD G) (V : wV) (I : wI) (J : wJ) (nr n ns j p a r B : Nat) (G0 : wI) (v10 : V 10 = nI nr) (v12 : V 12 = nI ns) (hx : eqy I G0) (hmI : mI I) (hmF : mF I) (hK : dK I nr) (hw : wfC I nr n ns) (hW : wT I nr) (h1 : a < n) (h2 : r < n) (h3 : j < 100) (hp : I 20 a = nI p) (hp10 : p < 10) (hB : B ≤ 20000000) (hP : pR G0 j (J 77) B) (hfar : fD I (tn (I 19 a)) (tn (I 19 r)) < 1000000) : Ctr l yX7_pays cX7_pays 11 none { frames := 2, cells := 0, slots := 0, locals := 48 } G [.ref (G.2.1 7), .int (nI j), .int (nI p), .int (nI a), .int (nI r)] V I J (fun r9 V9 I9 J9 => r9 = none ∧ V9 = V ∧ I9 = I ∧ ∃ f, J9 = uJ J 77 f ∧ pR (pw nr ns G0 a r j) j f (B + 180000) ∧ ∀ k, (k < 4 * j ∨ 4 * j + 4 ≤ k) → f k = J 77 k) (noX) := by
  refine ctr_of hl hG (by decide) (Nat.le_of_ble_eq_true rfl) [(0, .ref (G.2.1 7)), (1, .int (nI j)), (2, .int (nI p)), (3, .int (nI a)), (4, .int (nI r))] rfl ?_
  intro K hC hKl hRm hr hT
  subst hKl
  have hC : Cx K G RX7 cX7_pays 11 := hC
  obtain ⟨m51, m52, m53, m54, m56, m57, m58, m59, m64, m65, m66, m67, m68, m69, m70⟩ := id hmI
  obtain ⟨w1, w2, w3, w4, w5, w6, w7⟩ := id hw
  have w24 := w1.1
  obtain ⟨ga1, ga2⟩ := vin_tn (w6 a h1).1 (by decide)
  obtain ⟨gr1, gr2⟩ := vin_tn (w6 r h2).1 (by decide)
  obtain ⟨ka1, ka2⟩ := vin_tn (w7 p hp10) (by decide)
  have hcp : tn (I 20 a) = p := by rw [hp]; exact nI_clamp (by omega)
  have hpw : pw nr ns G0 a r j = if an (ec I (nI p) (I 21 a)) ns = true then G0 else pwL nr (tn (I 14 p)) (I 21 a) (tn (I 19 r)) j 12 (I 19 a) G0 := by unfold pw; rw [ec_x hx, hx 20 (by omega), hx 21 (by omega), hx 14 (by omega), hx 19 (by omega), hcp, hp]
  have lp_89 : ∀ (k9 : Nat) (i at9 : Nat) (f : Nat → Int64) (G1 : wI) (hi : i ≤ 12) (hG9 : eqy I G1) (hP9 : pR G1 j f (B + 15000 * i)) (ho : ∀ k, (k < 4 * j ∨ 4 * j + 4 ≤ k) → f k = J 77 k) (ha9 : at9 < 12) (hc : cA (fD I) (tn (I 19 r)) at9 + i ≤ 11) (hf9 : fD I at9 (tn (I 19 r)) < 1000000) (hE : an (ec I (nI p) (I 21 a)) ns = true → pw nr ns G0 a r j = G1) (hf : ¬ an (ec I (nI p) (I 21 a)) ns = true → pw nr ns G0 a r j = pwL nr (tn (I 14 p)) (I 21 a) (tn (I 19 r)) j (12 - i) (nI at9) G1) (hk : 12 < i + k9), WW K G 0 0 (QM K G { frames := 2, cells := 0, slots := 0, locals := 48 } (fun r9 V9 I9 J9 => r9 = none ∧ V9 = V ∧ I9 = I ∧ ∃ f, J9 = uJ J 77 f ∧ pR (pw nr ns G0 a r j) j f (B + 180000) ∧ ∀ k, (k < 4 * j ∨ 4 * j + 4 ≤ k) → f k = J 77 k) (noX)) V I (uJ J 77 f) 89 [(9, .int (nI (tn (I 19 r)))), (8, .int (nI at9)), (7, .int ((if bz (I 21 a) = true then I 13 (tn (I 14 p)) else nI 100))), (0, .ref (G.2.1 7)), (1, .int (nI j)), (2, .int (nI p)), (3, .int (nI a)), (4, .int (nI r))] [] := by
    intro k9
    induction k9 with
    | zero =>
      intro i at9 f G1 hi hG9 hP9 ho ha9 hc hf9 hE hf hk
      omega
    | succ k9 ih =>
      intro i at9 f G1 hi hG9 hP9 ho ha9 hc hf9 hE hf hk
      refine g_iload hC dX7_pays_89 1 rfl ?_
      refine g_iload hC dX7_pays_91 0 rfl ?_
      refine g_icmp_eq hC 181 dX7_pays_93 (by decide) (fun c_93 => ?_) (fun c_93 => ?_)
      · have d_93 : at9 = (tn (I 19 r)) := (nI_eq (by omega) (by omega)).mp c_93
        have hpG : pw nr ns G0 a r j = G1 := by by_cases z : an (ec I (nI p) (I 21 a)) ns = true; exact hE z; exact (hf z).trans (pwL_e hG9 w1 ha9 (rT_n hK ha9 gr1 (Or.inl d_93)) _)
        exact g_vret hC hr dX7_pays_181 (Nat.le_of_ble_eq_true rfl) (Nat.le_of_ble_eq_true rfl) ⟨rfl, rfl, rfl, f, rfl, by rw [hpG]; exact pR_le hP9 (by omega), ho⟩
      · have d_93 : ¬ at9 = (tn (I 19 r)) := fun q => c_93 ((nI_eq (by omega) (by omega)).mpr q)
        refine g_aload_n hC dX7_pays_96 rfl 3 rfl ?_
        refine g_iload_n hC dX7_pays_97 rfl 5 rfl ?_
        refine g_aload_n hC dX7_pays_98 rfl 3 rfl ?_
        refine gf_X7_69 hC dX7_pays_99 ?_
        refine g_iload_n hC dX7_pays_102 rfl 6 rfl ?_
        refine n_iald hC 69 aa_69 a (show a < 100 by omega) dX7_pays_103 ?_
        refine g_eqI (x' := I 21 a) (by rw [m69]) ?_
        refine g_cV hC [.int (nI p), .int (I 21 a)] 7 (m_X7_isExempt hl hG V I (uJ J 77 f) ns (nI p) (I 21 a) v12 w3 hmI) rfl (st2 := [.int ((if an (ec I (nI p) (I 21 a)) ns = true then nI 1 else nI 0))]) rfl (by decide) rfl rfl rfl tw_889 tw_891 tw_23 tw_38 tw_892 pd_X7_isExempt ⟨rfl, rfl⟩ (by rw [hRm]; exact ⟨Nat.le_of_ble_eq_true rfl, Nat.le_of_ble_eq_true rfl, Nat.le_of_ble_eq_true rfl, Nat.le_of_ble_eq_true rfl⟩) (Nat.le_of_ble_eq_true rfl) dX7_pays_104 ?_
        refine g_if_ne hC 181 dX7_pays_107 (by decide) (fun c_107 => ?_) (fun c_107 => ?_)
        · have e_107 := b10_t c_107
          have hpG : pw nr ns G0 a r j = G1 := hE e_107
          exact g_vret hC hr dX7_pays_181 (Nat.le_of_ble_eq_true rfl) (Nat.le_of_ble_eq_true rfl) ⟨rfl, rfl, rfl, f, rfl, by rw [hpG]; exact pR_le hP9 (by omega), ho⟩
        · have e_107 := b10_f c_107
          have hrt : ¬ rT I nr at9 (tn (I 19 r)) = -1 := rT_y hK ha9 gr1 d_93 hf9
          obtain ⟨s1, s2, s3, s4, s5, s6⟩ := rT_s hK ha9 gr1 hrt
          have hq := rT_nI w1 hrt
          have hq1 : (tn (rT I nr at9 (tn (I 19 r)))) < nr := hq.1
          have hown := own_lt hw hq1
          have hown1 := hown.1
          have hqo := rT_oE w1 hrt
          obtain ⟨cc, hc1, hc2, hc3⟩ := cf_n (m := I 21 a) hW hq1 ka1
          obtain ⟨x1, x2, x3⟩ := hP9 _ hown1
          refine g_aload_n hC dX7_pays_110 rfl 3 rfl ?_
          refine g_iload hC dX7_pays_111 1 rfl ?_
          refine g_iload hC dX7_pays_113 0 rfl ?_
          refine g_cV hC [.int (nI at9), .int (nI (tn (I 19 r)))] 7 (m_X7_next hl hG V I (uJ J 77 f) nr at9 (tn (I 19 r)) v10 hmI hmF w1 ha9 gr1 (fun r hr => rc_self hK gr1 hr)) rfl (st2 := [.int (rT I nr at9 (tn (I 19 r)))]) rfl (by decide) rfl rfl rfl tw_893 tw_895 tw_24 tw_38 tw_896 pd_X7_next ⟨rfl, rfl⟩ (by rw [hRm]; exact ⟨Nat.le_of_ble_eq_true rfl, Nat.le_of_ble_eq_true rfl, Nat.le_of_ble_eq_true rfl, Nat.le_of_ble_eq_true rfl⟩) (Nat.le_of_ble_eq_true rfl) dX7_pays_115 ?_
          refine g_istore hC [(10, .int (rT I nr at9 (tn (I 19 r)))), (9, .int (nI (tn (I 19 r)))), (8, .int (nI at9)), (7, .int ((if bz (I 21 a) = true then I 13 (tn (I 14 p)) else nI 100))), (0, .ref (G.2.1 7)), (1, .int (nI j)), (2, .int (nI p)), (3, .int (nI a)), (4, .int (nI r))] dX7_pays_118 (by decide) rfl ?_
          refine g_aload_n hC dX7_pays_120 rfl 4 rfl ?_
          refine gf_X7_94 hC dX7_pays_121 ?_
          refine g_iconst (v := nI 4) hC dX7_pays_124 (by decide) ?_
          refine g_iload_n hC dX7_pays_125 rfl 5 rfl ?_
          refine g_imul hC dX7_pays_126 ?_
          refine g_eqI (x' := nI (4 * j)) (pk_mul _ _) ?_
          refine g_aload_n hC dX7_pays_127 rfl 4 rfl ?_
          refine gf_X7_19 hC dX7_pays_128 ?_
          refine g_iload hC dX7_pays_131 0 rfl ?_
          refine g_eqI (x' := nI (tn (rT I nr at9 (tn (I 19 r))))) hq.2.1 ?_
          refine n_iald hC 54 aa_54 (tn (rT I nr at9 (tn (I 19 r)))) (show tn (rT I nr at9 (tn (I 19 r))) < 24 by omega) dX7_pays_133 ?_
          refine g_eqI (x' := I 11 (tn (rT I nr at9 (tn (I 19 r))))) (by rw [m54]) ?_
          refine g_eqI (x' := nI (tn (I 11 (tn (rT I nr at9 (tn (I 19 r))))))) hown.2 ?_
          refine g_iadd hC dX7_pays_134 ?_
          refine g_eqI (x' := nI ((4 * j) + (tn (I 11 (tn (rT I nr at9 (tn (I 19 r)))))))) (nI_add _ _) ?_
          refine g_dup2 hC dX7_pays_135 rfl rfl ?_
          refine n_lald hC 77 aa_77 ((4 * j) + (tn (I 11 (tn (rT I nr at9 (tn (I 19 r))))))) (show (4 * j) + (tn (I 11 (tn (rT I nr at9 (tn (I 19 r)))))) < 400 by omega) dX7_pays_136 ?_
          refine g_eqL (x' := lN (tn (G1 (47 + (tn (I 11 (tn (rT I nr at9 (tn (I 19 r))))))) j))) (by rw [uJ_s]; exact x3) ?_
          refine g_aload_n hC dX7_pays_137 rfl 4 rfl ?_
          refine gf_X7_16 hC dX7_pays_138 ?_
          refine g_iload hC dX7_pays_141 0 rfl ?_
          refine g_eqI (x' := nI (tn (rT I nr at9 (tn (I 19 r))))) hq.2.1 ?_
          refine n_iald hC 53 aa_53 (tn (rT I nr at9 (tn (I 19 r)))) (show tn (rT I nr at9 (tn (I 19 r))) < 24 by omega) dX7_pays_143 ?_
          refine g_eqI (x' := I 10 (tn (rT I nr at9 (tn (I 19 r))))) (by rw [m53]) ?_
          refine g_i2l hC dX7_pays_144 ?_
          refine g_aload_n hC dX7_pays_145 rfl 4 rfl ?_
          refine gf_X7_25 hC dX7_pays_146 ?_
          refine g_aload_n hC dX7_pays_149 rfl 4 rfl ?_
          refine gf_X7_35 hC dX7_pays_150 ?_
          refine g_iload_n hC dX7_pays_153 rfl 6 rfl ?_
          refine n_iald hC 58 aa_58 p (show p < 10 by omega) dX7_pays_154 ?_
          refine g_eqI (x' := I 14 p) (by rw [m58]) ?_
          refine g_eqI (x' := nI (tn (I 14 p))) ka2 ?_
          refine n_iald hC 56 aa_56 (tn (I 14 p)) (show tn (I 14 p) < 3 by omega) dX7_pays_155 ?_
          refine g_eqI (x' := I 12 (tn (I 14 p))) (by rw [m56]) ?_
          refine g_i2l hC dX7_pays_156 ?_
          refine g_lmul hC dX7_pays_157 ?_
          refine g_iload hC dX7_pays_158 3 rfl ?_
          refine g_i2l hC dX7_pays_160 ?_
          refine g_lmul hC dX7_pays_161 ?_
          refine g_ldc2 hC tw_897 dX7_pays_162 ?_
          refine g_ldiv hC dX7_pays_165 (by decide) ?_
          refine g_eqL (x' := lN cc) hc3 ?_
          refine g_ladd hC dX7_pays_166 ?_
          refine n_last hC 77 aa_77 ((4 * j) + (tn (I 11 (tn (rT I nr at9 (tn (I 19 r))))))) (show (4 * j) + (tn (I 11 (tn (rT I nr at9 (tn (I 19 r)))))) < 400 by omega) dX7_pays_167 ?_
          refine g_st (V1 := V) (I1 := I) (J1 := (uJ J 77 (vp_updL f ((4 * j) + (tn (I 11 (tn (rT I nr at9 (tn (I 19 r))))))) (lN (tn (G1 (47 + (tn (I 11 (tn (rT I nr at9 (tn (I 19 r))))))) j) + cc))))) rfl rfl (by rw [uJ_s, uJ_uJ, lN_add]) ?_
          refine g_aload_n hC dX7_pays_168 rfl 4 rfl ?_
          refine g_iload hC dX7_pays_169 0 rfl ?_
          refine g_eqI (x' := nI (tn (rT I nr at9 (tn (I 19 r))))) hq.2.1 ?_
          refine g_iload hC dX7_pays_171 2 rfl ?_
          refine g_cV hC [.int (nI (tn (rT I nr at9 (tn (I 19 r))))), .int (nI at9)] 7 (m_X7_otherEnd hl hG V I (uJ J 77 (vp_updL f ((4 * j) + (tn (I 11 (tn (rT I nr at9 (tn (I 19 r))))))) (lN (tn (G1 (47 + (tn (I 11 (tn (rT I nr at9 (tn (I 19 r))))))) j) + cc)))) hmI nr (tn (rT I nr at9 (tn (I 19 r)))) (nI at9) hq1 w1 hqo) rfl (st2 := [.int (oE I (tn (rT I nr at9 (tn (I 19 r)))) (nI at9))]) rfl (by decide) rfl rfl rfl tw_898 tw_900 tw_25 tw_38 tw_901 pd_X7_otherEnd ⟨rfl, rfl⟩ (by rw [hRm]; exact ⟨Nat.le_of_ble_eq_true rfl, Nat.le_of_ble_eq_true rfl, Nat.le_of_ble_eq_true rfl, Nat.le_of_ble_eq_true rfl⟩) (Nat.le_of_ble_eq_true rfl) dX7_pays_173 ?_
          refine g_eqI (x' := nI (tn (oE I (tn (rT I nr at9 (tn (I 19 r)))) (nI at9)))) s2 ?_
          refine g_istore hC [(8, .int (nI (tn (oE I (tn (rT I nr at9 (tn (I 19 r)))) (nI at9))))), (10, .int (rT I nr at9 (tn (I 19 r)))), (9, .int (nI (tn (I 19 r)))), (7, .int ((if bz (I 21 a) = true then I 13 (tn (I 14 p)) else nI 100))), (0, .ref (G.2.1 7)), (1, .int (nI j)), (2, .int (nI p)), (3, .int (nI a)), (4, .int (nI r))] dX7_pays_176 (by decide) rfl ?_
          refine g_goto hC 89 dX7_pays_178 (by decide) ?_
          refine g_lv [2, 0, 3, 4, 5, 6, 7, 8] (lv2 := [(9, .int (nI (tn (I 19 r)))), (8, .int (nI (tn (oE I (tn (rT I nr at9 (tn (I 19 r)))) (nI at9))))), (7, .int ((if bz (I 21 a) = true then I 13 (tn (I 14 p)) else nI 100))), (0, .ref (G.2.1 7)), (1, .int (nI j)), (2, .int (nI p)), (3, .int (nI a)), (4, .int (nI r))]) rfl ?_
          exact ih (i + 1) (tn (oE I (tn (rT I nr at9 (tn (I 19 r)))) (nI at9))) (vp_updL f ((4 * j) + (tn (I 11 (tn (rT I nr at9 (tn (I 19 r))))))) (lN (tn (G1 (47 + (tn (I 11 (tn (rT I nr at9 (tn (I 19 r))))))) j) + cc))) (sI G1 (47 + (tn (I 11 (tn (rT I nr at9 (tn (I 19 r))))))) j (G1 (47 + (tn (I 11 (tn (rT I nr at9 (tn (I 19 r))))))) j + cf I (I 10 (tn (rT I nr at9 (tn (I 19 r))))) (tn (I 14 p)) (I 21 a))) (by omega) (eqy_tr hG9 (eqy_u G1 (by omega))) (pR_le (pR_s hP9 (by omega) hown.1 hc2 hc1) (by omega)) (fun k hk => by rw [pk_uLn (by omega)]; exact ho k hk) s1 (by omega) (by omega) (fun z => absurd z (by rw [e_107]; decide)) (fun z => by rw [hf z, show 12 - i = (12 - (i + 1)) + 1 by omega, pwL_s hG9 w1 ha9 hrt, ← s2]) (by omega)
  refine g_aload_n hC dX7_pays_0 rfl 0 rfl ?_
  refine gf_X7_69 hC dX7_pays_1 ?_
  refine g_iload_n hC dX7_pays_4 rfl 3 rfl ?_
  refine n_iald hC 69 aa_69 a (show a < 100 by omega) dX7_pays_5 ?_
  refine g_eqI (x' := I 21 a) (by rw [m69]) ?_
  refine g_bipush (v := nI 60) hC dX7_pays_6 (by decide) ?_
  refine g_idiv hC dX7_pays_8 (by decide) ?_
  refine g_bipush (v := nI 24) hC dX7_pays_9 (by decide) ?_
  refine g_irem hC dX7_pays_11 (by decide) ?_
  refine g_istore hC [(5, .int (((I 21 a) / (nI 60)) - ((I 21 a) / (nI 60)) / (nI 24) * (nI 24))), (0, .ref (G.2.1 7)), (1, .int (nI j)), (2, .int (nI p)), (3, .int (nI a)), (4, .int (nI r))] dX7_pays_12 (by decide) rfl ?_
  refine g_iload hC dX7_pays_14 0 rfl ?_
  refine g_bipush (v := nI 7) hC dX7_pays_16 (by decide) ?_
  refine g_icmp_eq hC 42 dX7_pays_18 (by decide) (fun c_18 => ?_) (fun c_18 => ?_)
  · refine g_iconst (v := nI 1) hC dX7_pays_42 (by decide) ?_
    refine g_goto hC 47 dX7_pays_43 (by decide) ?_
    refine g_istore hC [(6, .int (nI 1)), (5, .int (((I 21 a) / (nI 60)) - ((I 21 a) / (nI 60)) / (nI 24) * (nI 24))), (0, .ref (G.2.1 7)), (1, .int (nI j)), (2, .int (nI p)), (3, .int (nI a)), (4, .int (nI r))] dX7_pays_47 (by decide) rfl ?_
    refine g_iload hC dX7_pays_49 0 rfl ?_
    refine g_if_eq hC 68 dX7_pays_51 (by decide) (fun c_51 => ?_) (fun c_51 => ?_)
    · exact absurd c_51 (by decide)
    · have hb : bz (I 21 a) = true := by simp [bz, c_18]
      refine g_aload_n hC dX7_pays_54 rfl 2 rfl ?_
      refine gf_X7_28 hC dX7_pays_55 ?_
      refine g_aload_n hC dX7_pays_58 rfl 2 rfl ?_
      refine gf_X7_35 hC dX7_pays_59 ?_
      refine g_iload_n hC dX7_pays_62 rfl 4 rfl ?_
      refine n_iald hC 58 aa_58 p (show p < 10 by omega) dX7_pays_63 ?_
      refine g_eqI (x' := I 14 p) (by rw [m58]) ?_
      refine g_eqI (x' := nI (tn (I 14 p))) ka2 ?_
      refine n_iald hC 57 aa_57 (tn (I 14 p)) (show tn (I 14 p) < 3 by omega) dX7_pays_64 ?_
      refine g_eqI (x' := I 13 (tn (I 14 p))) (by rw [m57]) ?_
      refine g_goto hC 70 dX7_pays_65 (by decide) ?_
      refine g_istore hC [(7, .int (I 13 (tn (I 14 p)))), (6, .int (nI 1)), (5, .int (((I 21 a) / (nI 60)) - ((I 21 a) / (nI 60)) / (nI 24) * (nI 24))), (0, .ref (G.2.1 7)), (1, .int (nI j)), (2, .int (nI p)), (3, .int (nI a)), (4, .int (nI r))] dX7_pays_70 (by decide) rfl ?_
      refine g_aload_n hC dX7_pays_72 rfl 3 rfl ?_
      refine gf_X7_63 hC dX7_pays_73 ?_
      refine g_iload_n hC dX7_pays_76 rfl 6 rfl ?_
      refine n_iald hC 67 aa_67 a (show a < 100 by omega) dX7_pays_77 ?_
      refine g_eqI (x' := I 19 a) (by rw [m67]) ?_
      refine g_eqI (x' := nI (tn (I 19 a))) ga2 ?_
      refine g_istore hC [(8, .int (nI (tn (I 19 a)))), (7, .int (I 13 (tn (I 14 p)))), (6, .int (nI 1)), (5, .int (((I 21 a) / (nI 60)) - ((I 21 a) / (nI 60)) / (nI 24) * (nI 24))), (0, .ref (G.2.1 7)), (1, .int (nI j)), (2, .int (nI p)), (3, .int (nI a)), (4, .int (nI r))] dX7_pays_78 (by decide) rfl ?_
      refine g_aload_n hC dX7_pays_80 rfl 4 rfl ?_
      refine gf_X7_63 hC dX7_pays_81 ?_
      refine g_iload hC dX7_pays_84 8 rfl ?_
      refine n_iald hC 67 aa_67 r (show r < 100 by omega) dX7_pays_86 ?_
      refine g_eqI (x' := I 19 r) (by rw [m67]) ?_
      refine g_eqI (x' := nI (tn (I 19 r))) gr2 ?_
      refine g_istore hC [(9, .int (nI (tn (I 19 r)))), (8, .int (nI (tn (I 19 a)))), (7, .int (I 13 (tn (I 14 p)))), (6, .int (nI 1)), (5, .int (((I 21 a) / (nI 60)) - ((I 21 a) / (nI 60)) / (nI 24) * (nI 24))), (0, .ref (G.2.1 7)), (1, .int (nI j)), (2, .int (nI p)), (3, .int (nI a)), (4, .int (nI r))] dX7_pays_87 (by decide) rfl ?_
      refine g_lv [0, 1, 2, 5, 6, 7, 8, 9] (lv2 := [(9, .int (nI (tn (I 19 r)))), (8, .int (nI (tn (I 19 a)))), (7, .int (I 13 (tn (I 14 p)))), (0, .ref (G.2.1 7)), (1, .int (nI j)), (2, .int (nI p)), (3, .int (nI a)), (4, .int (nI r))]) rfl ?_
      refine g_at rfl (lv2 := [(9, .int (nI (tn (I 19 r)))), (8, .int (nI (tn (I 19 a)))), (7, .int (if bz (I 21 a) = true then I 13 (tn (I 14 p)) else nI 100)), (0, .ref (G.2.1 7)), (1, .int (nI j)), (2, .int (nI p)), (3, .int (nI a)), (4, .int (nI r))]) (by rw [hb] <;> rfl) rfl ?_
      refine g_st (V1 := V) (I1 := I) (J1 := (uJ J 77 (J 77))) rfl rfl (uJ_self J 77).symm ?_
      exact lp_89 13 0 (tn (I 19 a)) (J 77) G0 (by omega) hx hP (fun _ _ => rfl) ga1 (by have := cA_le (D := fD I) (g := tn (I 19 r)) ga1; omega) hfar (fun z => by rw [hpw, if_pos z]) (fun z => by rw [hpw, if_neg z, ← ga2]) (by omega)
  · refine g_iload hC dX7_pays_21 0 rfl ?_
    refine g_bipush (v := nI 8) hC dX7_pays_23 (by decide) ?_
    refine g_icmp_eq hC 42 dX7_pays_25 (by decide) (fun c_25 => ?_) (fun c_25 => ?_)
    · refine g_iconst (v := nI 1) hC dX7_pays_42 (by decide) ?_
      refine g_goto hC 47 dX7_pays_43 (by decide) ?_
      refine g_istore hC [(6, .int (nI 1)), (5, .int (((I 21 a) / (nI 60)) - ((I 21 a) / (nI 60)) / (nI 24) * (nI 24))), (0, .ref (G.2.1 7)), (1, .int (nI j)), (2, .int (nI p)), (3, .int (nI a)), (4, .int (nI r))] dX7_pays_47 (by decide) rfl ?_
      refine g_iload hC dX7_pays_49 0 rfl ?_
      refine g_if_eq hC 68 dX7_pays_51 (by decide) (fun c_51 => ?_) (fun c_51 => ?_)
      · exact absurd c_51 (by decide)
      · have hb : bz (I 21 a) = true := by simp [bz, c_18, c_25]
        refine g_aload_n hC dX7_pays_54 rfl 2 rfl ?_
        refine gf_X7_28 hC dX7_pays_55 ?_
        refine g_aload_n hC dX7_pays_58 rfl 2 rfl ?_
        refine gf_X7_35 hC dX7_pays_59 ?_
        refine g_iload_n hC dX7_pays_62 rfl 4 rfl ?_
        refine n_iald hC 58 aa_58 p (show p < 10 by omega) dX7_pays_63 ?_
        refine g_eqI (x' := I 14 p) (by rw [m58]) ?_
        refine g_eqI (x' := nI (tn (I 14 p))) ka2 ?_
        refine n_iald hC 57 aa_57 (tn (I 14 p)) (show tn (I 14 p) < 3 by omega) dX7_pays_64 ?_
        refine g_eqI (x' := I 13 (tn (I 14 p))) (by rw [m57]) ?_
        refine g_goto hC 70 dX7_pays_65 (by decide) ?_
        refine g_istore hC [(7, .int (I 13 (tn (I 14 p)))), (6, .int (nI 1)), (5, .int (((I 21 a) / (nI 60)) - ((I 21 a) / (nI 60)) / (nI 24) * (nI 24))), (0, .ref (G.2.1 7)), (1, .int (nI j)), (2, .int (nI p)), (3, .int (nI a)), (4, .int (nI r))] dX7_pays_70 (by decide) rfl ?_
        refine g_aload_n hC dX7_pays_72 rfl 3 rfl ?_
        refine gf_X7_63 hC dX7_pays_73 ?_
        refine g_iload_n hC dX7_pays_76 rfl 6 rfl ?_
        refine n_iald hC 67 aa_67 a (show a < 100 by omega) dX7_pays_77 ?_
        refine g_eqI (x' := I 19 a) (by rw [m67]) ?_
        refine g_eqI (x' := nI (tn (I 19 a))) ga2 ?_
        refine g_istore hC [(8, .int (nI (tn (I 19 a)))), (7, .int (I 13 (tn (I 14 p)))), (6, .int (nI 1)), (5, .int (((I 21 a) / (nI 60)) - ((I 21 a) / (nI 60)) / (nI 24) * (nI 24))), (0, .ref (G.2.1 7)), (1, .int (nI j)), (2, .int (nI p)), (3, .int (nI a)), (4, .int (nI r))] dX7_pays_78 (by decide) rfl ?_
        refine g_aload_n hC dX7_pays_80 rfl 4 rfl ?_
        refine gf_X7_63 hC dX7_pays_81 ?_
        refine g_iload hC dX7_pays_84 8 rfl ?_
        refine n_iald hC 67 aa_67 r (show r < 100 by omega) dX7_pays_86 ?_
        refine g_eqI (x' := I 19 r) (by rw [m67]) ?_
        refine g_eqI (x' := nI (tn (I 19 r))) gr2 ?_
        refine g_istore hC [(9, .int (nI (tn (I 19 r)))), (8, .int (nI (tn (I 19 a)))), (7, .int (I 13 (tn (I 14 p)))), (6, .int (nI 1)), (5, .int (((I 21 a) / (nI 60)) - ((I 21 a) / (nI 60)) / (nI 24) * (nI 24))), (0, .ref (G.2.1 7)), (1, .int (nI j)), (2, .int (nI p)), (3, .int (nI a)), (4, .int (nI r))] dX7_pays_87 (by decide) rfl ?_
        refine g_lv [0, 1, 2, 5, 6, 7, 8, 9] (lv2 := [(9, .int (nI (tn (I 19 r)))), (8, .int (nI (tn (I 19 a)))), (7, .int (I 13 (tn (I 14 p)))), (0, .ref (G.2.1 7)), (1, .int (nI j)), (2, .int (nI p)), (3, .int (nI a)), (4, .int (nI r))]) rfl ?_
        refine g_at rfl (lv2 := [(9, .int (nI (tn (I 19 r)))), (8, .int (nI (tn (I 19 a)))), (7, .int (if bz (I 21 a) = true then I 13 (tn (I 14 p)) else nI 100)), (0, .ref (G.2.1 7)), (1, .int (nI j)), (2, .int (nI p)), (3, .int (nI a)), (4, .int (nI r))]) (by rw [hb] <;> rfl) rfl ?_
        refine g_st (V1 := V) (I1 := I) (J1 := (uJ J 77 (J 77))) rfl rfl (uJ_self J 77).symm ?_
        exact lp_89 13 0 (tn (I 19 a)) (J 77) G0 (by omega) hx hP (fun _ _ => rfl) ga1 (by have := cA_le (D := fD I) (g := tn (I 19 r)) ga1; omega) hfar (fun z => by rw [hpw, if_pos z]) (fun z => by rw [hpw, if_neg z, ← ga2]) (by omega)
    · refine g_iload hC dX7_pays_28 0 rfl ?_
      refine g_bipush (v := nI 16) hC dX7_pays_30 (by decide) ?_
      refine g_icmp_eq hC 42 dX7_pays_32 (by decide) (fun c_32 => ?_) (fun c_32 => ?_)
      · refine g_iconst (v := nI 1) hC dX7_pays_42 (by decide) ?_
        refine g_goto hC 47 dX7_pays_43 (by decide) ?_
        refine g_istore hC [(6, .int (nI 1)), (5, .int (((I 21 a) / (nI 60)) - ((I 21 a) / (nI 60)) / (nI 24) * (nI 24))), (0, .ref (G.2.1 7)), (1, .int (nI j)), (2, .int (nI p)), (3, .int (nI a)), (4, .int (nI r))] dX7_pays_47 (by decide) rfl ?_
        refine g_iload hC dX7_pays_49 0 rfl ?_
        refine g_if_eq hC 68 dX7_pays_51 (by decide) (fun c_51 => ?_) (fun c_51 => ?_)
        · exact absurd c_51 (by decide)
        · have hb : bz (I 21 a) = true := by simp [bz, c_18, c_25, c_32]
          refine g_aload_n hC dX7_pays_54 rfl 2 rfl ?_
          refine gf_X7_28 hC dX7_pays_55 ?_
          refine g_aload_n hC dX7_pays_58 rfl 2 rfl ?_
          refine gf_X7_35 hC dX7_pays_59 ?_
          refine g_iload_n hC dX7_pays_62 rfl 4 rfl ?_
          refine n_iald hC 58 aa_58 p (show p < 10 by omega) dX7_pays_63 ?_
          refine g_eqI (x' := I 14 p) (by rw [m58]) ?_
          refine g_eqI (x' := nI (tn (I 14 p))) ka2 ?_
          refine n_iald hC 57 aa_57 (tn (I 14 p)) (show tn (I 14 p) < 3 by omega) dX7_pays_64 ?_
          refine g_eqI (x' := I 13 (tn (I 14 p))) (by rw [m57]) ?_
          refine g_goto hC 70 dX7_pays_65 (by decide) ?_
          refine g_istore hC [(7, .int (I 13 (tn (I 14 p)))), (6, .int (nI 1)), (5, .int (((I 21 a) / (nI 60)) - ((I 21 a) / (nI 60)) / (nI 24) * (nI 24))), (0, .ref (G.2.1 7)), (1, .int (nI j)), (2, .int (nI p)), (3, .int (nI a)), (4, .int (nI r))] dX7_pays_70 (by decide) rfl ?_
          refine g_aload_n hC dX7_pays_72 rfl 3 rfl ?_
          refine gf_X7_63 hC dX7_pays_73 ?_
          refine g_iload_n hC dX7_pays_76 rfl 6 rfl ?_
          refine n_iald hC 67 aa_67 a (show a < 100 by omega) dX7_pays_77 ?_
          refine g_eqI (x' := I 19 a) (by rw [m67]) ?_
          refine g_eqI (x' := nI (tn (I 19 a))) ga2 ?_
          refine g_istore hC [(8, .int (nI (tn (I 19 a)))), (7, .int (I 13 (tn (I 14 p)))), (6, .int (nI 1)), (5, .int (((I 21 a) / (nI 60)) - ((I 21 a) / (nI 60)) / (nI 24) * (nI 24))), (0, .ref (G.2.1 7)), (1, .int (nI j)), (2, .int (nI p)), (3, .int (nI a)), (4, .int (nI r))] dX7_pays_78 (by decide) rfl ?_
          refine g_aload_n hC dX7_pays_80 rfl 4 rfl ?_
          refine gf_X7_63 hC dX7_pays_81 ?_
          refine g_iload hC dX7_pays_84 8 rfl ?_
          refine n_iald hC 67 aa_67 r (show r < 100 by omega) dX7_pays_86 ?_
          refine g_eqI (x' := I 19 r) (by rw [m67]) ?_
          refine g_eqI (x' := nI (tn (I 19 r))) gr2 ?_
          refine g_istore hC [(9, .int (nI (tn (I 19 r)))), (8, .int (nI (tn (I 19 a)))), (7, .int (I 13 (tn (I 14 p)))), (6, .int (nI 1)), (5, .int (((I 21 a) / (nI 60)) - ((I 21 a) / (nI 60)) / (nI 24) * (nI 24))), (0, .ref (G.2.1 7)), (1, .int (nI j)), (2, .int (nI p)), (3, .int (nI a)), (4, .int (nI r))] dX7_pays_87 (by decide) rfl ?_
          refine g_lv [0, 1, 2, 5, 6, 7, 8, 9] (lv2 := [(9, .int (nI (tn (I 19 r)))), (8, .int (nI (tn (I 19 a)))), (7, .int (I 13 (tn (I 14 p)))), (0, .ref (G.2.1 7)), (1, .int (nI j)), (2, .int (nI p)), (3, .int (nI a)), (4, .int (nI r))]) rfl ?_
          refine g_at rfl (lv2 := [(9, .int (nI (tn (I 19 r)))), (8, .int (nI (tn (I 19 a)))), (7, .int (if bz (I 21 a) = true then I 13 (tn (I 14 p)) else nI 100)), (0, .ref (G.2.1 7)), (1, .int (nI j)), (2, .int (nI p)), (3, .int (nI a)), (4, .int (nI r))]) (by rw [hb] <;> rfl) rfl ?_
          refine g_st (V1 := V) (I1 := I) (J1 := (uJ J 77 (J 77))) rfl rfl (uJ_self J 77).symm ?_
          exact lp_89 13 0 (tn (I 19 a)) (J 77) G0 (by omega) hx hP (fun _ _ => rfl) ga1 (by have := cA_le (D := fD I) (g := tn (I 19 r)) ga1; omega) hfar (fun z => by rw [hpw, if_pos z]) (fun z => by rw [hpw, if_neg z, ← ga2]) (by omega)
      · refine g_iload hC dX7_pays_35 0 rfl ?_
        refine g_bipush (v := nI 17) hC dX7_pays_37 (by decide) ?_
        refine g_icmp_ne hC 46 dX7_pays_39 (by decide) (fun c_39 => ?_) (fun c_39 => ?_)
        · refine g_iconst (v := nI 0) hC dX7_pays_46 (by decide) ?_
          refine g_istore hC [(6, .int (nI 0)), (5, .int (((I 21 a) / (nI 60)) - ((I 21 a) / (nI 60)) / (nI 24) * (nI 24))), (0, .ref (G.2.1 7)), (1, .int (nI j)), (2, .int (nI p)), (3, .int (nI a)), (4, .int (nI r))] dX7_pays_47 (by decide) rfl ?_
          refine g_iload hC dX7_pays_49 0 rfl ?_
          refine g_if_eq hC 68 dX7_pays_51 (by decide) (fun c_51 => ?_) (fun c_51 => ?_)
          · have hb : bz (I 21 a) = false := by simp [bz, c_18, c_25, c_32, c_39]
            refine g_bipush (v := nI 100) hC dX7_pays_68 (by decide) ?_
            refine g_istore hC [(7, .int (nI 100)), (6, .int (nI 0)), (5, .int (((I 21 a) / (nI 60)) - ((I 21 a) / (nI 60)) / (nI 24) * (nI 24))), (0, .ref (G.2.1 7)), (1, .int (nI j)), (2, .int (nI p)), (3, .int (nI a)), (4, .int (nI r))] dX7_pays_70 (by decide) rfl ?_
            refine g_aload_n hC dX7_pays_72 rfl 3 rfl ?_
            refine gf_X7_63 hC dX7_pays_73 ?_
            refine g_iload_n hC dX7_pays_76 rfl 6 rfl ?_
            refine n_iald hC 67 aa_67 a (show a < 100 by omega) dX7_pays_77 ?_
            refine g_eqI (x' := I 19 a) (by rw [m67]) ?_
            refine g_eqI (x' := nI (tn (I 19 a))) ga2 ?_
            refine g_istore hC [(8, .int (nI (tn (I 19 a)))), (7, .int (nI 100)), (6, .int (nI 0)), (5, .int (((I 21 a) / (nI 60)) - ((I 21 a) / (nI 60)) / (nI 24) * (nI 24))), (0, .ref (G.2.1 7)), (1, .int (nI j)), (2, .int (nI p)), (3, .int (nI a)), (4, .int (nI r))] dX7_pays_78 (by decide) rfl ?_
            refine g_aload_n hC dX7_pays_80 rfl 4 rfl ?_
            refine gf_X7_63 hC dX7_pays_81 ?_
            refine g_iload hC dX7_pays_84 8 rfl ?_
            refine n_iald hC 67 aa_67 r (show r < 100 by omega) dX7_pays_86 ?_
            refine g_eqI (x' := I 19 r) (by rw [m67]) ?_
            refine g_eqI (x' := nI (tn (I 19 r))) gr2 ?_
            refine g_istore hC [(9, .int (nI (tn (I 19 r)))), (8, .int (nI (tn (I 19 a)))), (7, .int (nI 100)), (6, .int (nI 0)), (5, .int (((I 21 a) / (nI 60)) - ((I 21 a) / (nI 60)) / (nI 24) * (nI 24))), (0, .ref (G.2.1 7)), (1, .int (nI j)), (2, .int (nI p)), (3, .int (nI a)), (4, .int (nI r))] dX7_pays_87 (by decide) rfl ?_
            refine g_lv [0, 1, 2, 5, 6, 7, 8, 9] (lv2 := [(9, .int (nI (tn (I 19 r)))), (8, .int (nI (tn (I 19 a)))), (7, .int (nI 100)), (0, .ref (G.2.1 7)), (1, .int (nI j)), (2, .int (nI p)), (3, .int (nI a)), (4, .int (nI r))]) rfl ?_
            refine g_at rfl (lv2 := [(9, .int (nI (tn (I 19 r)))), (8, .int (nI (tn (I 19 a)))), (7, .int (if bz (I 21 a) = true then I 13 (tn (I 14 p)) else nI 100)), (0, .ref (G.2.1 7)), (1, .int (nI j)), (2, .int (nI p)), (3, .int (nI a)), (4, .int (nI r))]) (by rw [hb] <;> rfl) rfl ?_
            refine g_st (V1 := V) (I1 := I) (J1 := (uJ J 77 (J 77))) rfl rfl (uJ_self J 77).symm ?_
            exact lp_89 13 0 (tn (I 19 a)) (J 77) G0 (by omega) hx hP (fun _ _ => rfl) ga1 (by have := cA_le (D := fD I) (g := tn (I 19 r)) ga1; omega) hfar (fun z => by rw [hpw, if_pos z]) (fun z => by rw [hpw, if_neg z, ← ga2]) (by omega)
          · exact absurd c_51 (by decide)
        · refine g_iconst (v := nI 1) hC dX7_pays_42 (by decide) ?_
          refine g_goto hC 47 dX7_pays_43 (by decide) ?_
          refine g_istore hC [(6, .int (nI 1)), (5, .int (((I 21 a) / (nI 60)) - ((I 21 a) / (nI 60)) / (nI 24) * (nI 24))), (0, .ref (G.2.1 7)), (1, .int (nI j)), (2, .int (nI p)), (3, .int (nI a)), (4, .int (nI r))] dX7_pays_47 (by decide) rfl ?_
          refine g_iload hC dX7_pays_49 0 rfl ?_
          refine g_if_eq hC 68 dX7_pays_51 (by decide) (fun c_51 => ?_) (fun c_51 => ?_)
          · exact absurd c_51 (by decide)
          · have hb : bz (I 21 a) = true := by simp [bz, c_18, c_25, c_32, c_39]
            refine g_aload_n hC dX7_pays_54 rfl 2 rfl ?_
            refine gf_X7_28 hC dX7_pays_55 ?_
            refine g_aload_n hC dX7_pays_58 rfl 2 rfl ?_
            refine gf_X7_35 hC dX7_pays_59 ?_
            refine g_iload_n hC dX7_pays_62 rfl 4 rfl ?_
            refine n_iald hC 58 aa_58 p (show p < 10 by omega) dX7_pays_63 ?_
            refine g_eqI (x' := I 14 p) (by rw [m58]) ?_
            refine g_eqI (x' := nI (tn (I 14 p))) ka2 ?_
            refine n_iald hC 57 aa_57 (tn (I 14 p)) (show tn (I 14 p) < 3 by omega) dX7_pays_64 ?_
            refine g_eqI (x' := I 13 (tn (I 14 p))) (by rw [m57]) ?_
            refine g_goto hC 70 dX7_pays_65 (by decide) ?_
            refine g_istore hC [(7, .int (I 13 (tn (I 14 p)))), (6, .int (nI 1)), (5, .int (((I 21 a) / (nI 60)) - ((I 21 a) / (nI 60)) / (nI 24) * (nI 24))), (0, .ref (G.2.1 7)), (1, .int (nI j)), (2, .int (nI p)), (3, .int (nI a)), (4, .int (nI r))] dX7_pays_70 (by decide) rfl ?_
            refine g_aload_n hC dX7_pays_72 rfl 3 rfl ?_
            refine gf_X7_63 hC dX7_pays_73 ?_
            refine g_iload_n hC dX7_pays_76 rfl 6 rfl ?_
            refine n_iald hC 67 aa_67 a (show a < 100 by omega) dX7_pays_77 ?_
            refine g_eqI (x' := I 19 a) (by rw [m67]) ?_
            refine g_eqI (x' := nI (tn (I 19 a))) ga2 ?_
            refine g_istore hC [(8, .int (nI (tn (I 19 a)))), (7, .int (I 13 (tn (I 14 p)))), (6, .int (nI 1)), (5, .int (((I 21 a) / (nI 60)) - ((I 21 a) / (nI 60)) / (nI 24) * (nI 24))), (0, .ref (G.2.1 7)), (1, .int (nI j)), (2, .int (nI p)), (3, .int (nI a)), (4, .int (nI r))] dX7_pays_78 (by decide) rfl ?_
            refine g_aload_n hC dX7_pays_80 rfl 4 rfl ?_
            refine gf_X7_63 hC dX7_pays_81 ?_
            refine g_iload hC dX7_pays_84 8 rfl ?_
            refine n_iald hC 67 aa_67 r (show r < 100 by omega) dX7_pays_86 ?_
            refine g_eqI (x' := I 19 r) (by rw [m67]) ?_
            refine g_eqI (x' := nI (tn (I 19 r))) gr2 ?_
            refine g_istore hC [(9, .int (nI (tn (I 19 r)))), (8, .int (nI (tn (I 19 a)))), (7, .int (I 13 (tn (I 14 p)))), (6, .int (nI 1)), (5, .int (((I 21 a) / (nI 60)) - ((I 21 a) / (nI 60)) / (nI 24) * (nI 24))), (0, .ref (G.2.1 7)), (1, .int (nI j)), (2, .int (nI p)), (3, .int (nI a)), (4, .int (nI r))] dX7_pays_87 (by decide) rfl ?_
            refine g_lv [0, 1, 2, 5, 6, 7, 8, 9] (lv2 := [(9, .int (nI (tn (I 19 r)))), (8, .int (nI (tn (I 19 a)))), (7, .int (I 13 (tn (I 14 p)))), (0, .ref (G.2.1 7)), (1, .int (nI j)), (2, .int (nI p)), (3, .int (nI a)), (4, .int (nI r))]) rfl ?_
            refine g_at rfl (lv2 := [(9, .int (nI (tn (I 19 r)))), (8, .int (nI (tn (I 19 a)))), (7, .int (if bz (I 21 a) = true then I 13 (tn (I 14 p)) else nI 100)), (0, .ref (G.2.1 7)), (1, .int (nI j)), (2, .int (nI p)), (3, .int (nI a)), (4, .int (nI r))]) (by rw [hb] <;> rfl) rfl ?_
            refine g_st (V1 := V) (I1 := I) (J1 := (uJ J 77 (J 77))) rfl rfl (uJ_self J 77).symm ?_
            exact lp_89 13 0 (tn (I 19 a)) (J 77) G0 (by omega) hx hP (fun _ _ => rfl) ga1 (by have := cA_le (D := fD I) (g := tn (I 19 r)) ga1; omega) hfar (fun z => by rw [hpw, if_pos z]) (fun z => by rw [hpw, if_neg z, ← ga2]) (by omega)

set_option maxRecDepth 100000 in
theorem m_X7_shares {l : Launch} {G : wG} (hl : l.stackTraces = false) (hG : wD G) (V : wV) (I : wI) (J : wJ) (j B M : Nat) (G1 : wI) (v11 : V 11 = nI M) (h1 : j < 100) (hB : B ≤ 100000000) (hM : M ≤ 100000) (hP : pR G1 j (J 77) B) : Ctr l yX7_shares cX7_shares 10 none { frames := 0, cells := 0, slots := 0, locals := 0 } G [.ref (G.2.1 7), .int (nI j)] V I J (fun r9 V9 I9 J9 => r9 = none ∧ V9 = V ∧ I9 = I ∧ ∃ f g, J9 = uJ (uJ J 78 f) 79 g ∧ f j = (fr G1 j (nI M)).toInt64 ∧ (∀ k, k ≠ j → f k = J 78 k) ∧ (∀ o, o < 4 → g (4 * j + o) = (shr G1 j o (nI M)).toInt64) ∧ ∀ k, (k < 4 * j ∨ 4 * j + 4 ≤ k) → g k = J 79 k) (noX) := by
  refine ctr_of hl hG (by decide) (Nat.le_of_ble_eq_true rfl) [(0, .ref (G.2.1 7)), (1, .int (nI j))] rfl ?_
  intro K hC hKl hRm hr hT
  subst hKl
  have hC : Cx K G RX7 cX7_shares 10 := hC
  have hws := ws_le hP
  have hml : mb G1 j 4 ≤ 3 := mb_lt G1 j 3
  have lp_100 : ∀ (k9 : Nat) (o : Nat) (g : Nat → Int64) (hoo : o ≤ 4) (hg : ∀ q, q < o → g (4 * j + q) = lN (s1 G1 j M q)) (hgo : ∀ k, (k < 4 * j ∨ 4 * j + 4 ≤ k) → g k = J 79 k) (hk : 4 < o + k9), WW K G 0 0 (QM K G { frames := 0, cells := 0, slots := 0, locals := 0 } (fun r9 V9 I9 J9 => r9 = none ∧ V9 = V ∧ I9 = I ∧ ∃ f g, J9 = uJ (uJ J 78 f) 79 g ∧ f j = (fr G1 j (nI M)).toInt64 ∧ (∀ k, k ≠ j → f k = J 78 k) ∧ (∀ o, o < 4 → g (4 * j + o) = (shr G1 j o (nI M)).toInt64) ∧ ∀ k, (k < 4 * j ∨ 4 * j + 4 ≤ k) → g k = J 79 k) (noX)) V I (uJ (uJ J 78 (vp_updL (J 78) j (lN (fF G1 j M)))) 79 g) 100 [(7, .int (nI o)), (5, .long (lfL G1 j M o)), (4, .int (nI (mb G1 j 4))), (2, .long (lN (ws G1 j 4))), (0, .ref (G.2.1 7)), (1, .int (nI j))] [] := by
    intro k9
    induction k9 with
    | zero =>
      intro o g hoo hg hgo hk
      omega
    | succ k9 ih =>
      intro o g hoo hg hgo hk
      have hPo := hP o
      refine g_iload hC dX7_shares_100 0 rfl ?_
      refine g_iconst (v := nI 4) hC dX7_shares_102 (by decide) ?_
      refine g_icmp_ge hC 177 dX7_shares_103 (by decide) (fun c_103 => ?_) (fun c_103 => ?_)
      · have d_103 : 4 ≤ o := (nI_leI (by omega) (by omega)).mp c_103
        have ho4 : o = 4 := by omega
        subst ho4
        refine g_aload_n hC dX7_shares_177 rfl 4 rfl ?_
        refine gf_X7_100 hC dX7_shares_178 ?_
        refine g_iconst (v := nI 4) hC dX7_shares_181 (by decide) ?_
        refine g_iload_n hC dX7_shares_182 rfl 5 rfl ?_
        refine g_imul hC dX7_shares_183 ?_
        refine g_eqI (x' := nI (4 * j)) (pk_mul _ _) ?_
        refine g_iload hC dX7_shares_184 2 rfl ?_
        refine g_iadd hC dX7_shares_186 ?_
        refine g_eqI (x' := nI ((4 * j) + (mb G1 j 4))) (nI_add _ _) ?_
        refine g_dup2 hC dX7_shares_187 rfl rfl ?_
        refine n_lald hC 79 aa_79 ((4 * j) + (mb G1 j 4)) (show (4 * j) + (mb G1 j 4) < 400 by omega) dX7_shares_188 ?_
        refine g_eqL (x' := lN (s1 G1 j M (mb G1 j 4))) (by rw [uJ_s]; exact hg _ (by omega)) ?_
        refine g_lload hC dX7_shares_189 1 rfl ?_
        refine g_ladd hC dX7_shares_191 ?_
        refine n_last hC 79 aa_79 ((4 * j) + (mb G1 j 4)) (show (4 * j) + (mb G1 j 4) < 400 by omega) dX7_shares_192 ?_
        refine g_st (V1 := V) (I1 := I) (J1 := (uJ (uJ J 78 (vp_updL (J 78) j (lN (fF G1 j M)))) 79 (vp_updL g ((4 * j) + (mb G1 j 4)) (lN (s1 G1 j M (mb G1 j 4)) + lfL G1 j M 4)))) rfl rfl (by rw [uJ_s, uJ_uJ]) ?_
        exact g_vret hC hr dX7_shares_193 (Nat.le_of_ble_eq_true rfl) (Nat.le_of_ble_eq_true rfl) ⟨rfl, rfl, rfl, _, _, rfl, by rw [pk_uLs, fr_n hP hB hM, nI_l (by unfold fF; split <;> omega)], fun k hk => pk_uLn hk, shr_n hP hB hM (fun o ho => hg o (by omega)), fun k hk => by rw [pk_uLn (by omega)]; exact hgo k hk⟩
      · have d_103 : ¬ 4 ≤ o := fun q => c_103 ((nI_leI (by omega) (by omega)).mpr q)
        obtain ⟨y1, y2, y3⟩ := hPo (by omega)
        refine g_aload_n hC dX7_shares_106 rfl 4 rfl ?_
        refine gf_X7_94 hC dX7_shares_107 ?_
        refine g_iconst (v := nI 4) hC dX7_shares_110 (by decide) ?_
        refine g_iload_n hC dX7_shares_111 rfl 5 rfl ?_
        refine g_imul hC dX7_shares_112 ?_
        refine g_eqI (x' := nI (4 * j)) (pk_mul _ _) ?_
        refine g_iload hC dX7_shares_113 0 rfl ?_
        refine g_iadd hC dX7_shares_115 ?_
        refine g_eqI (x' := nI ((4 * j) + o)) (nI_add _ _) ?_
        refine n_lald hC 77 aa_77 ((4 * j) + o) (show (4 * j) + o < 400 by omega) dX7_shares_116 ?_
        refine g_eqL (x' := lN (tn (G1 (47 + o) j))) (by rw [uJ_n (by decide), uJ_n (by decide)]; exact y3) ?_
        refine g_lstore hC [(8, .long (lN (tn (G1 (47 + o) j)))), (7, .int (nI o)), (5, .long (lfL G1 j M o)), (4, .int (nI (mb G1 j 4))), (2, .long (lN (ws G1 j 4))), (0, .ref (G.2.1 7)), (1, .int (nI j))] dX7_shares_117 (by decide) rfl ?_
        refine g_aload_n hC dX7_shares_119 rfl 5 rfl ?_
        refine gf_X7_100 hC dX7_shares_120 ?_
        refine g_iconst (v := nI 4) hC dX7_shares_123 (by decide) ?_
        refine g_iload_n hC dX7_shares_124 rfl 6 rfl ?_
        refine g_imul hC dX7_shares_125 ?_
        refine g_eqI (x' := nI (4 * j)) (pk_mul _ _) ?_
        refine g_iload hC dX7_shares_126 1 rfl ?_
        refine g_iadd hC dX7_shares_128 ?_
        refine g_eqI (x' := nI ((4 * j) + o)) (nI_add _ _) ?_
        refine g_lload_n hC dX7_shares_129 rfl 4 rfl ?_
        refine g_aload_n hC dX7_shares_130 rfl 5 rfl ?_
        refine gf_X7_31 hC dX7_shares_131 ?_
        refine g_eqI (x' := nI M) (by rw [v11]) ?_
        refine g_i2l hC dX7_shares_134 ?_
        refine g_eqL (x' := lN M) (nI_l (by omega)) ?_
        refine g_lcmp hC dX7_shares_135 ?_
        refine g_if_le hC 152 dX7_shares_136 (by decide) (fun c_136 => ?_) (fun c_136 => ?_)
        · have hq : ¬ M < ws G1 j 4 := fun q => by have q2 := (pk_lLE (by omega) (by omega)).mp ((lg_cmp_le _ _).mp c_136); omega
          have hs : lN (tn (G1 (47 + o) j)) = lN (s1 G1 j M o) := by unfold s1; rw [if_neg hq]
          refine g_lload hC dX7_shares_152 0 rfl ?_
          refine g_eqL (x' := lN (s1 G1 j M o)) hs ?_
          refine n_last hC 79 aa_79 ((4 * j) + o) (show (4 * j) + o < 400 by omega) dX7_shares_154 ?_
          refine g_st (V1 := V) (I1 := I) (J1 := (uJ (uJ J 78 (vp_updL (J 78) j (lN (fF G1 j M)))) 79 (vp_updL g ((4 * j) + o) (lN (s1 G1 j M o))))) rfl rfl (by rw [uJ_s, uJ_uJ]) ?_
          refine g_lload hC dX7_shares_155 2 rfl ?_
          refine g_aload_n hC dX7_shares_157 rfl 5 rfl ?_
          refine gf_X7_100 hC dX7_shares_158 ?_
          refine g_iconst (v := nI 4) hC dX7_shares_161 (by decide) ?_
          refine g_iload_n hC dX7_shares_162 rfl 6 rfl ?_
          refine g_imul hC dX7_shares_163 ?_
          refine g_eqI (x' := nI (4 * j)) (pk_mul _ _) ?_
          refine g_iload hC dX7_shares_164 1 rfl ?_
          refine g_iadd hC dX7_shares_166 ?_
          refine g_eqI (x' := nI ((4 * j) + o)) (nI_add _ _) ?_
          refine n_lald hC 79 aa_79 ((4 * j) + o) (show (4 * j) + o < 400 by omega) dX7_shares_167 ?_
          refine g_eqL (x' := lN (s1 G1 j M o)) (by rw [uJ_s, pk_uLs]) ?_
          refine g_lsub hC dX7_shares_168 ?_
          refine g_lstore hC [(5, .long ((lfL G1 j M o) - (lN (s1 G1 j M o)))), (8, .long (lN (tn (G1 (47 + o) j)))), (7, .int (nI o)), (4, .int (nI (mb G1 j 4))), (2, .long (lN (ws G1 j 4))), (0, .ref (G.2.1 7)), (1, .int (nI j))] dX7_shares_169 (by decide) rfl ?_
          refine g_iinc (v := nI (o + 1)) hC [(7, .int (nI (o + 1))), (5, .long ((lfL G1 j M o) - (lN (s1 G1 j M o)))), (8, .long (lN (tn (G1 (47 + o) j)))), (4, .int (nI (mb G1 j 4))), (2, .long (lN (ws G1 j 4))), (0, .ref (G.2.1 7)), (1, .int (nI j))] dX7_shares_171 2 rfl (nI_i1 _) (by decide) rfl ?_
          refine g_goto hC 100 dX7_shares_174 (by decide) ?_
          refine g_lv [0, 1, 3, 4, 5, 6] (lv2 := [(7, .int (nI (o + 1))), (5, .long ((lfL G1 j M o) - (lN (s1 G1 j M o)))), (4, .int (nI (mb G1 j 4))), (2, .long (lN (ws G1 j 4))), (0, .ref (G.2.1 7)), (1, .int (nI j))]) rfl ?_
          refine g_at rfl (lv2 := [(7, .int (nI (o + 1))), (5, .long (lfL G1 j M (o + 1))), (4, .int (nI (mb G1 j 4))), (2, .long (lN (ws G1 j 4))), (0, .ref (G.2.1 7)), (1, .int (nI j))]) rfl rfl ?_
          exact ih (o + 1) (vp_updL g ((4 * j) + o) (lN (s1 G1 j M o))) (by omega) (fun q hq => by by_cases z : q = o; rw [z]; exact pk_uLs; rw [pk_uLn (by omega)]; exact hg q (by omega)) (fun k hk => by rw [pk_uLn (by omega)]; exact hgo k hk) (by omega)
        · have hq : M < ws G1 j 4 := Nat.lt_of_not_le (fun q => c_136 ((lg_cmp_le _ _).mpr ((pk_lLE (by omega) (by omega)).mpr q)))
          have hge := ws_ge G1 j o (by omega)
          have hmm : tn (G1 (47 + o) j) * M ≤ 100000000 * 100000 := Nat.mul_le_mul (by omega) hM
          have hs : (lN (tn (G1 (47 + o) j)) * lN M) / lN (ws G1 j 4) = lN (s1 G1 j M o) := by unfold s1; rw [if_pos hq, lN_mul, pk_lDiv (by omega) (by omega) (by omega)]
          refine g_lload hC dX7_shares_139 0 rfl ?_
          refine g_aload_n hC dX7_shares_141 rfl 5 rfl ?_
          refine gf_X7_31 hC dX7_shares_142 ?_
          refine g_eqI (x' := nI M) (by rw [v11]) ?_
          refine g_i2l hC dX7_shares_145 ?_
          refine g_eqL (x' := lN M) (nI_l (by omega)) ?_
          refine g_lmul hC dX7_shares_146 ?_
          refine g_lload_n hC dX7_shares_147 rfl 4 rfl ?_
          refine g_ldiv hC dX7_shares_148 (fun z => by have z2 := (pk_lEQ (a := ws G1 j 4) (b := 0) (by omega) (by omega)).mp z; omega) ?_
          refine g_goto hC 154 dX7_shares_149 (by decide) ?_
          refine g_eqL (x' := lN (s1 G1 j M o)) hs ?_
          refine n_last hC 79 aa_79 ((4 * j) + o) (show (4 * j) + o < 400 by omega) dX7_shares_154 ?_
          refine g_st (V1 := V) (I1 := I) (J1 := (uJ (uJ J 78 (vp_updL (J 78) j (lN (fF G1 j M)))) 79 (vp_updL g ((4 * j) + o) (lN (s1 G1 j M o))))) rfl rfl (by rw [uJ_s, uJ_uJ]) ?_
          refine g_lload hC dX7_shares_155 2 rfl ?_
          refine g_aload_n hC dX7_shares_157 rfl 5 rfl ?_
          refine gf_X7_100 hC dX7_shares_158 ?_
          refine g_iconst (v := nI 4) hC dX7_shares_161 (by decide) ?_
          refine g_iload_n hC dX7_shares_162 rfl 6 rfl ?_
          refine g_imul hC dX7_shares_163 ?_
          refine g_eqI (x' := nI (4 * j)) (pk_mul _ _) ?_
          refine g_iload hC dX7_shares_164 1 rfl ?_
          refine g_iadd hC dX7_shares_166 ?_
          refine g_eqI (x' := nI ((4 * j) + o)) (nI_add _ _) ?_
          refine n_lald hC 79 aa_79 ((4 * j) + o) (show (4 * j) + o < 400 by omega) dX7_shares_167 ?_
          refine g_eqL (x' := lN (s1 G1 j M o)) (by rw [uJ_s, pk_uLs]) ?_
          refine g_lsub hC dX7_shares_168 ?_
          refine g_lstore hC [(5, .long ((lfL G1 j M o) - (lN (s1 G1 j M o)))), (8, .long (lN (tn (G1 (47 + o) j)))), (7, .int (nI o)), (4, .int (nI (mb G1 j 4))), (2, .long (lN (ws G1 j 4))), (0, .ref (G.2.1 7)), (1, .int (nI j))] dX7_shares_169 (by decide) rfl ?_
          refine g_iinc (v := nI (o + 1)) hC [(7, .int (nI (o + 1))), (5, .long ((lfL G1 j M o) - (lN (s1 G1 j M o)))), (8, .long (lN (tn (G1 (47 + o) j)))), (4, .int (nI (mb G1 j 4))), (2, .long (lN (ws G1 j 4))), (0, .ref (G.2.1 7)), (1, .int (nI j))] dX7_shares_171 2 rfl (nI_i1 _) (by decide) rfl ?_
          refine g_goto hC 100 dX7_shares_174 (by decide) ?_
          refine g_lv [0, 1, 3, 4, 5, 6] (lv2 := [(7, .int (nI (o + 1))), (5, .long ((lfL G1 j M o) - (lN (s1 G1 j M o)))), (4, .int (nI (mb G1 j 4))), (2, .long (lN (ws G1 j 4))), (0, .ref (G.2.1 7)), (1, .int (nI j))]) rfl ?_
          refine g_at rfl (lv2 := [(7, .int (nI (o + 1))), (5, .long (lfL G1 j M (o + 1))), (4, .int (nI (mb G1 j 4))), (2, .long (lN (ws G1 j 4))), (0, .ref (G.2.1 7)), (1, .int (nI j))]) rfl rfl ?_
          exact ih (o + 1) (vp_updL g ((4 * j) + o) (lN (s1 G1 j M o))) (by omega) (fun q hq => by by_cases z : q = o; rw [z]; exact pk_uLs; rw [pk_uLn (by omega)]; exact hg q (by omega)) (fun k hk => by rw [pk_uLn (by omega)]; exact hgo k hk) (by omega)
  have lp_8 : ∀ (k9 : Nat) (o : Nat) (hoo : o ≤ 4) (hk : 4 < o + k9), WW K G 0 0 (QM K G { frames := 0, cells := 0, slots := 0, locals := 0 } (fun r9 V9 I9 J9 => r9 = none ∧ V9 = V ∧ I9 = I ∧ ∃ f g, J9 = uJ (uJ J 78 f) 79 g ∧ f j = (fr G1 j (nI M)).toInt64 ∧ (∀ k, k ≠ j → f k = J 78 k) ∧ (∀ o, o < 4 → g (4 * j + o) = (shr G1 j o (nI M)).toInt64) ∧ ∀ k, (k < 4 * j ∨ 4 * j + 4 ≤ k) → g k = J 79 k) (noX)) V I J 8 [(5, .int (nI o)), (4, .int (nI (mb G1 j o))), (2, .long (lN (ws G1 j o))), (0, .ref (G.2.1 7)), (1, .int (nI j))] [] := by
    intro k9
    induction k9 with
    | zero =>
      intro o hoo hk
      omega
    | succ k9 ih =>
      intro o hoo hk
      have hPo := hP o
      have hmo := mb_le G1 j o
      have hm3 : o < 4 → mb G1 j o < 4 := fun z => by omega
      refine g_iload hC dX7_shares_8 0 rfl ?_
      refine g_iconst (v := nI 4) hC dX7_shares_10 (by decide) ?_
      refine g_icmp_ge hC 64 dX7_shares_11 (by decide) (fun c_11 => ?_) (fun c_11 => ?_)
      · have d_11 : 4 ≤ o := (nI_leI (by omega) (by omega)).mp c_11
        have ho4 : o = 4 := by omega
        subst ho4
        refine g_aload_n hC dX7_shares_64 rfl 3 rfl ?_
        refine gf_X7_97 hC dX7_shares_65 ?_
        refine g_iload_n hC dX7_shares_68 rfl 4 rfl ?_
        refine g_lload_n hC dX7_shares_69 rfl 2 rfl ?_
        refine g_aload_n hC dX7_shares_70 rfl 3 rfl ?_
        refine gf_X7_31 hC dX7_shares_71 ?_
        refine g_eqI (x' := nI M) (by rw [v11]) ?_
        refine g_i2l hC dX7_shares_74 ?_
        refine g_eqL (x' := lN M) (nI_l (by omega)) ?_
        refine g_lcmp hC dX7_shares_75 ?_
        refine g_if_le hC 87 dX7_shares_76 (by decide) (fun c_76 => ?_) (fun c_76 => ?_)
        · have hF : fF G1 j M = ws G1 j 4 := if_neg (fun q => by have q2 := (pk_lLE (by omega) (by omega)).mp ((lg_cmp_le _ _).mp c_76); omega)
          refine g_lload_n hC dX7_shares_87 rfl 2 rfl ?_
          refine g_eqL (x' := lN (fF G1 j M)) (by rw [hF]) ?_
          refine n_last hC 78 aa_78 j (show j < 100 by omega) dX7_shares_88 ?_
          refine g_aload_n hC dX7_shares_89 rfl 3 rfl ?_
          refine gf_X7_97 hC dX7_shares_90 ?_
          refine g_iload_n hC dX7_shares_93 rfl 4 rfl ?_
          refine n_lald hC 78 aa_78 j (show j < 100 by omega) dX7_shares_94 ?_
          refine g_eqL (x' := lN (fF G1 j M)) (by rw [uJ_s, pk_uLs]) ?_
          refine g_lstore hC [(5, .long (lN (fF G1 j M))), (4, .int (nI (mb G1 j 4))), (2, .long (lN (ws G1 j 4))), (0, .ref (G.2.1 7)), (1, .int (nI j))] dX7_shares_95 (by decide) rfl ?_
          refine g_iconst (v := nI 0) hC dX7_shares_97 (by decide) ?_
          refine g_istore hC [(7, .int (nI 0)), (5, .long (lN (fF G1 j M))), (4, .int (nI (mb G1 j 4))), (2, .long (lN (ws G1 j 4))), (0, .ref (G.2.1 7)), (1, .int (nI j))] dX7_shares_98 (by decide) rfl ?_
          refine g_st (V1 := V) (I1 := I) (J1 := (uJ (uJ J 78 (vp_updL (J 78) j (lN (fF G1 j M)))) 79 (J 79))) rfl rfl (by exact (uJ_self (uJ J 78 (vp_updL (J 78) j (lN (fF G1 j M)))) 79).symm) ?_
          exact lp_100 5 0 (J 79) (by omega) (fun q hq => by omega) (fun _ _ => rfl) (by omega)
        · have hF : fF G1 j M = M := if_pos (Nat.lt_of_not_le (fun q => c_76 ((lg_cmp_le _ _).mpr ((pk_lLE (by omega) (by omega)).mpr q))))
          refine g_aload_n hC dX7_shares_79 rfl 3 rfl ?_
          refine gf_X7_31 hC dX7_shares_80 ?_
          refine g_eqI (x' := nI M) (by rw [v11]) ?_
          refine g_i2l hC dX7_shares_83 ?_
          refine g_eqL (x' := lN M) (nI_l (by omega)) ?_
          refine g_goto hC 88 dX7_shares_84 (by decide) ?_
          refine g_eqL (x' := lN (fF G1 j M)) (by rw [hF]) ?_
          refine n_last hC 78 aa_78 j (show j < 100 by omega) dX7_shares_88 ?_
          refine g_aload_n hC dX7_shares_89 rfl 3 rfl ?_
          refine gf_X7_97 hC dX7_shares_90 ?_
          refine g_iload_n hC dX7_shares_93 rfl 4 rfl ?_
          refine n_lald hC 78 aa_78 j (show j < 100 by omega) dX7_shares_94 ?_
          refine g_eqL (x' := lN (fF G1 j M)) (by rw [uJ_s, pk_uLs]) ?_
          refine g_lstore hC [(5, .long (lN (fF G1 j M))), (4, .int (nI (mb G1 j 4))), (2, .long (lN (ws G1 j 4))), (0, .ref (G.2.1 7)), (1, .int (nI j))] dX7_shares_95 (by decide) rfl ?_
          refine g_iconst (v := nI 0) hC dX7_shares_97 (by decide) ?_
          refine g_istore hC [(7, .int (nI 0)), (5, .long (lN (fF G1 j M))), (4, .int (nI (mb G1 j 4))), (2, .long (lN (ws G1 j 4))), (0, .ref (G.2.1 7)), (1, .int (nI j))] dX7_shares_98 (by decide) rfl ?_
          refine g_st (V1 := V) (I1 := I) (J1 := (uJ (uJ J 78 (vp_updL (J 78) j (lN (fF G1 j M)))) 79 (J 79))) rfl rfl (by exact (uJ_self (uJ J 78 (vp_updL (J 78) j (lN (fF G1 j M)))) 79).symm) ?_
          exact lp_100 5 0 (J 79) (by omega) (fun q hq => by omega) (fun _ _ => rfl) (by omega)
      · have d_11 : ¬ 4 ≤ o := fun q => c_11 ((nI_leI (by omega) (by omega)).mpr q)
        obtain ⟨y1, y2, y3⟩ := hPo (by omega)
        obtain ⟨z1, z2, z3⟩ := hP (mb G1 j o) (by omega)
        refine g_aload_n hC dX7_shares_14 rfl 3 rfl ?_
        refine gf_X7_94 hC dX7_shares_15 ?_
        refine g_iconst (v := nI 4) hC dX7_shares_18 (by decide) ?_
        refine g_iload_n hC dX7_shares_19 rfl 4 rfl ?_
        refine g_imul hC dX7_shares_20 ?_
        refine g_eqI (x' := nI (4 * j)) (pk_mul _ _) ?_
        refine g_iload hC dX7_shares_21 0 rfl ?_
        refine g_iadd hC dX7_shares_23 ?_
        refine g_eqI (x' := nI ((4 * j) + o)) (nI_add _ _) ?_
        refine n_lald hC 77 aa_77 ((4 * j) + o) (show (4 * j) + o < 400 by omega) dX7_shares_24 ?_
        refine g_eqL (x' := lN (tn (G1 (47 + o) j))) y3 ?_
        refine g_lstore hC [(6, .long (lN (tn (G1 (47 + o) j)))), (5, .int (nI o)), (4, .int (nI (mb G1 j o))), (2, .long (lN (ws G1 j o))), (0, .ref (G.2.1 7)), (1, .int (nI j))] dX7_shares_25 (by decide) rfl ?_
        refine g_lload_n hC dX7_shares_27 rfl 3 rfl ?_
        refine g_lload hC dX7_shares_28 0 rfl ?_
        refine g_ladd hC dX7_shares_30 ?_
        refine g_eqL (x' := lN (ws G1 j (o + 1))) (lN_add _ _) ?_
        refine g_lstore_n hC [(2, .long (lN (ws G1 j (o + 1)))), (6, .long (lN (tn (G1 (47 + o) j)))), (5, .int (nI o)), (4, .int (nI (mb G1 j o))), (0, .ref (G.2.1 7)), (1, .int (nI j))] dX7_shares_31 rfl (by decide) rfl ?_
        refine g_lload hC dX7_shares_32 1 rfl ?_
        refine g_aload_n hC dX7_shares_34 rfl 4 rfl ?_
        refine gf_X7_94 hC dX7_shares_35 ?_
        refine g_iconst (v := nI 4) hC dX7_shares_38 (by decide) ?_
        refine g_iload_n hC dX7_shares_39 rfl 5 rfl ?_
        refine g_imul hC dX7_shares_40 ?_
        refine g_eqI (x' := nI (4 * j)) (pk_mul _ _) ?_
        refine g_iload hC dX7_shares_41 3 rfl ?_
        refine g_iadd hC dX7_shares_43 ?_
        refine g_eqI (x' := nI ((4 * j) + (mb G1 j o))) (nI_add _ _) ?_
        refine n_lald hC 77 aa_77 ((4 * j) + (mb G1 j o)) (show (4 * j) + (mb G1 j o) < 400 by omega) dX7_shares_44 ?_
        refine g_eqL (x' := lN (tn (G1 (47 + mb G1 j o) j))) z3 ?_
        refine g_lcmp hC dX7_shares_45 ?_
        refine g_if_le hC 54 dX7_shares_46 (by decide) (fun c_46 => ?_) (fun c_46 => ?_)
        · have hmb : mb G1 j (o + 1) = mb G1 j o := if_neg (fun q => by have q2 := (pk_lLE (by omega) (by omega)).mp ((lg_cmp_le _ _).mp c_46); omega)
          refine g_iload hC dX7_shares_54 3 rfl ?_
          refine g_eqI (x' := nI (mb G1 j (o + 1))) (congrArg nI hmb.symm) ?_
          refine g_istore hC [(4, .int (nI (mb G1 j (o + 1)))), (2, .long (lN (ws G1 j (o + 1)))), (6, .long (lN (tn (G1 (47 + o) j)))), (5, .int (nI o)), (0, .ref (G.2.1 7)), (1, .int (nI j))] dX7_shares_56 (by decide) rfl ?_
          refine g_iinc (v := nI (o + 1)) hC [(5, .int (nI (o + 1))), (4, .int (nI (mb G1 j (o + 1)))), (2, .long (lN (ws G1 j (o + 1)))), (6, .long (lN (tn (G1 (47 + o) j)))), (0, .ref (G.2.1 7)), (1, .int (nI j))] dX7_shares_58 3 rfl (nI_i1 _) (by decide) rfl ?_
          refine g_goto hC 8 dX7_shares_61 (by decide) ?_
          refine g_lv [0, 1, 2, 4, 5] (lv2 := [(5, .int (nI (o + 1))), (4, .int (nI (mb G1 j (o + 1)))), (2, .long (lN (ws G1 j (o + 1)))), (0, .ref (G.2.1 7)), (1, .int (nI j))]) rfl ?_
          exact ih (o + 1) (by omega) (by omega)
        · have hmb : mb G1 j (o + 1) = o := if_pos (Nat.lt_of_not_le (fun q => c_46 ((lg_cmp_le _ _).mpr ((pk_lLE (by omega) (by omega)).mpr q))))
          refine g_iload hC dX7_shares_49 2 rfl ?_
          refine g_goto hC 56 dX7_shares_51 (by decide) ?_
          refine g_eqI (x' := nI (mb G1 j (o + 1))) (congrArg nI hmb.symm) ?_
          refine g_istore hC [(4, .int (nI (mb G1 j (o + 1)))), (2, .long (lN (ws G1 j (o + 1)))), (6, .long (lN (tn (G1 (47 + o) j)))), (5, .int (nI o)), (0, .ref (G.2.1 7)), (1, .int (nI j))] dX7_shares_56 (by decide) rfl ?_
          refine g_iinc (v := nI (o + 1)) hC [(5, .int (nI (o + 1))), (4, .int (nI (mb G1 j (o + 1)))), (2, .long (lN (ws G1 j (o + 1)))), (6, .long (lN (tn (G1 (47 + o) j)))), (0, .ref (G.2.1 7)), (1, .int (nI j))] dX7_shares_58 3 rfl (nI_i1 _) (by decide) rfl ?_
          refine g_goto hC 8 dX7_shares_61 (by decide) ?_
          refine g_lv [0, 1, 2, 4, 5] (lv2 := [(5, .int (nI (o + 1))), (4, .int (nI (mb G1 j (o + 1)))), (2, .long (lN (ws G1 j (o + 1)))), (0, .ref (G.2.1 7)), (1, .int (nI j))]) rfl ?_
          exact ih (o + 1) (by omega) (by omega)
  refine g_lconst (v := 0) hC dX7_shares_0 (by decide) ?_
  refine g_lstore_n hC [(2, .long 0), (0, .ref (G.2.1 7)), (1, .int (nI j))] dX7_shares_1 rfl (by decide) rfl ?_
  refine g_iconst (v := nI 0) hC dX7_shares_2 (by decide) ?_
  refine g_istore hC [(4, .int (nI 0)), (2, .long 0), (0, .ref (G.2.1 7)), (1, .int (nI j))] dX7_shares_3 (by decide) rfl ?_
  refine g_iconst (v := nI 0) hC dX7_shares_5 (by decide) ?_
  refine g_istore hC [(5, .int (nI 0)), (4, .int (nI 0)), (2, .long 0), (0, .ref (G.2.1 7)), (1, .int (nI j))] dX7_shares_6 (by decide) rfl ?_
  exact lp_8 5 0 (by omega) (by omega)
