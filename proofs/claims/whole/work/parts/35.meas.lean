set_option maxRecDepth 100000 in
theorem m_X7_measures {l : Launch} {G : wG} (hl : l.stackTraces = false) (hG : wD G) (V : wV) (I : wI) (J : wJ) (n : Nat) (v10 : V 10 = nI n) (e51 : I 51 = I 8) (e52 : I 52 = I 9) (e53 : I 53 = I 10) (hK : dK I n) : Ctr l yX7_measures cX7_measures 6 none { frames := 0, cells := 0, slots := 0, locals := 0 } G [.ref (G.2.1 7)] V I J (fun r V9 I9 J9 => r = none ∧ V9 = V ∧ J9 = J ∧ ∃ f, I9 = uI I 55 f ∧ mF (uI I 55 f)) (noX) := by
  refine ctr_of hl hG (by decide) (Nat.le_of_ble_eq_true rfl) [(0, .ref (G.2.1 7))] rfl ?_
  intro K hC hKl hRm hr hT
  subst hKl
  have hC : Cx K G RX7 cX7_measures 6 := hC
  have hn24 : n ≤ 24 := hK.2.2.1
  have lp_40 : ∀ (k9 : Nat) (f : Nat → Int32) (x : Int32) (hg : gI n (fO I) (fP I) (fL I) f) (hx : (x = nI 0 ∧ ∀ r g, r < n → g < 12 → sG (fO I) (fP I) (fL I) f r g) ∨ x = nI 1) (hk1 : x = nI 1 → mS f 144 + 1 < k9) (hk : 0 < k9), WW K G 0 0 (QM K G { frames := 0, cells := 0, slots := 0, locals := 0 } (fun r V9 I9 J9 => r = none ∧ V9 = V ∧ J9 = J ∧ ∃ f, I9 = uI I 55 f ∧ mF (uI I 55 f)) (noX)) V (uI I 55 f) J 40 [(1, .int x), (0, .ref (G.2.1 7))] [] := by
    intro k9
    induction k9 with
    | zero =>
      intro f x hg hx hk1 hk
      omega
    | succ k9 ih =>
      intro f x hg hx hk1 hk
      have lp_48 : ∀ (k8 : Nat) (f2 : Nat → Int32) (x2 : Int32) (r : Nat) (hx1 : x = nI 1) (hg2 : gI n (fO I) (fP I) (fL I) f2) (hr2 : r ≤ n) (hx2 : pP (fO I) (fP I) (fL I) n (mS f 144) f2 x2 r 0) (hk2 : n < r + k8), WW K G 0 0 (QM K G { frames := 0, cells := 0, slots := 0, locals := 0 } (fun r V9 I9 J9 => r = none ∧ V9 = V ∧ J9 = J ∧ ∃ f, I9 = uI I 55 f ∧ mF (uI I 55 f)) (noX)) V (uI I 55 f2) J 48 [(2, .int (nI r)), (1, .int x2), (0, .ref (G.2.1 7))] [] := by
        intro k8
        induction k8 with
        | zero =>
          intro f2 x2 r hx1 hg2 hr2 hx2 hk2
          omega
        | succ k8 ih1 =>
          intro f2 x2 r hx1 hg2 hr2 hx2 hk2
          have lp_58 : ∀ (k7 : Nat) (f3 : Nat → Int32) (x3 : Int32) (g : Nat) (hg3 : gI n (fO I) (fP I) (fL I) f3) (hgg : g ≤ 12) (hr3 : r < n) (hx3 : pP (fO I) (fP I) (fL I) n (mS f 144) f3 x3 r g) (hk3 : 12 < g + k7), WW K G 0 0 (QM K G { frames := 0, cells := 0, slots := 0, locals := 0 } (fun r V9 I9 J9 => r = none ∧ V9 = V ∧ J9 = J ∧ ∃ f, I9 = uI I 55 f ∧ mF (uI I 55 f)) (noX)) V (uI I 55 f3) J 58 [(3, .int (nI g)), (2, .int (nI r)), (1, .int x3), (0, .ref (G.2.1 7))] [] := by
            intro k7
            induction k7 with
            | zero =>
              intro f3 x3 g hg3 hgg hr3 hx3 hk3
              omega
            | succ k7 ih2 =>
              intro f3 x3 g hg3 hgg hr3 hx3 hk3
              obtain ⟨o1, o2⟩ := vin_tn (hK.2.2.2 r hr3).1 (by decide)
              obtain ⟨p1, p2⟩ := vin_tn (hK.2.2.2 r hr3).2 (by decide)
              refine g_iload_n hC dX7_measures_58 rfl 0 rfl ?_
              refine g_bipush (v := nI 12) hC dX7_measures_59 (by decide) ?_
              refine g_icmp_ge hC 190 dX7_measures_61 (by decide) (fun c_61 => ?_) (fun c_61 => ?_)
              · have d_61 : 12 ≤ g := (nI_leI (by omega) (by omega)).mp c_61
                refine g_iinc (v := nI (r + 1)) hC [(2, .int (nI (r + 1))), (3, .int (nI g)), (1, .int x3), (0, .ref (G.2.1 7))] dX7_measures_190 1 rfl (nI_i1 _) (by decide) rfl ?_
                refine g_goto hC 48 dX7_measures_193 (by decide) ?_
                refine g_lv [0, 2, 3] (lv2 := [(2, .int (nI (r + 1))), (1, .int x3), (0, .ref (G.2.1 7))]) rfl ?_
                exact ih1 f3 x3 (r + 1) hx1 hg3 (by omega) (pP_r (by omega) hx3) (by omega)
              · have d_61 : ¬ 12 ≤ g := fun q => c_61 ((nI_leI (by omega) (by omega)).mpr q)
                refine g_bipush (v := nI 12) hC dX7_measures_64 (by decide) ?_
                refine g_iload_n hC dX7_measures_66 rfl 0 rfl ?_
                refine g_imul hC dX7_measures_67 ?_
                refine g_eqI (x' := nI (12 * g)) (pk_mul _ _) ?_
                refine g_aload_n hC dX7_measures_68 rfl 3 rfl ?_
                refine gf_X7_7 hC dX7_measures_69 ?_
                refine g_iload_n hC dX7_measures_72 rfl 1 rfl ?_
                refine n_iald hC 51 aa_51 r (show r < 24 by omega) dX7_measures_73 ?_
                refine g_eqI (x' := I 8 r) (by rw [uI_n (by decide), e51]) ?_
                refine g_eqI (x' := nI (tn (I 8 r))) o2 ?_
                refine g_iadd hC dX7_measures_74 ?_
                refine g_eqI (x' := nI ((12 * g) + (tn (I 8 r)))) (nI_add _ _) ?_
                refine g_istore hC [(4, .int (nI ((12 * g) + (tn (I 8 r))))), (3, .int (nI g)), (2, .int (nI r)), (1, .int x3), (0, .ref (G.2.1 7))] dX7_measures_75 (by decide) rfl ?_
                refine g_bipush (v := nI 12) hC dX7_measures_77 (by decide) ?_
                refine g_iload_n hC dX7_measures_79 rfl 1 rfl ?_
                refine g_imul hC dX7_measures_80 ?_
                refine g_eqI (x' := nI (12 * g)) (pk_mul _ _) ?_
                refine g_aload_n hC dX7_measures_81 rfl 4 rfl ?_
                refine gf_X7_13 hC dX7_measures_82 ?_
                refine g_iload_n hC dX7_measures_85 rfl 2 rfl ?_
                refine n_iald hC 52 aa_52 r (show r < 24 by omega) dX7_measures_86 ?_
                refine g_eqI (x' := I 9 r) (by rw [uI_n (by decide), e52]) ?_
                refine g_eqI (x' := nI (tn (I 9 r))) p2 ?_
                refine g_iadd hC dX7_measures_87 ?_
                refine g_eqI (x' := nI ((12 * g) + (tn (I 9 r)))) (nI_add _ _) ?_
                refine g_istore hC [(5, .int (nI ((12 * g) + (tn (I 9 r))))), (4, .int (nI ((12 * g) + (tn (I 8 r))))), (3, .int (nI g)), (2, .int (nI r)), (1, .int x3), (0, .ref (G.2.1 7))] dX7_measures_88 (by decide) rfl ?_
                refine g_aload_n hC dX7_measures_90 rfl 5 rfl ?_
                refine gf_X7_22 hC dX7_measures_91 ?_
                refine g_iload hC dX7_measures_94 1 rfl ?_
                refine n_iald hC 55 aa_55 ((12 * g) + (tn (I 8 r))) (show (12 * g) + (tn (I 8 r)) < 144 by omega) dX7_measures_96 ?_
                refine g_eqI (x' := f3  ((12 * g) + (tn (I 8 r)))) (by rw [uI_s]) ?_
                refine g_aload_n hC dX7_measures_97 rfl 5 rfl ?_
                refine gf_X7_16 hC dX7_measures_98 ?_
                refine g_iload_n hC dX7_measures_101 rfl 3 rfl ?_
                refine n_iald hC 53 aa_53 r (show r < 24 by omega) dX7_measures_102 ?_
                refine g_eqI (x' := I 10 r) (by rw [uI_n (by decide), e53]) ?_
                refine g_iadd hC dX7_measures_103 ?_
                refine g_aload_n hC dX7_measures_104 rfl 5 rfl ?_
                refine gf_X7_22 hC dX7_measures_105 ?_
                refine g_iload hC dX7_measures_108 0 rfl ?_
                refine n_iald hC 55 aa_55 ((12 * g) + (tn (I 9 r))) (show (12 * g) + (tn (I 9 r)) < 144 by omega) dX7_measures_110 ?_
                refine g_eqI (x' := f3  ((12 * g) + (tn (I 9 r)))) (by rw [uI_s]) ?_
                refine g_icmp_ge hC 137 dX7_measures_111 (by decide) (fun c_111 => ?_) (fun c_111 => ?_)
                · have q1 := gI_n (x := tn (I 8 r)) (y := tn (I 9 r)) hg3 hK.2.1 (show g < 12 by omega) hr3 o1 (l3 := I 10 r) rfl (Int32.not_lt.mpr c_111)
                  refine g_aload_n hC dX7_measures_137 rfl 5 rfl ?_
                  refine gf_X7_22 hC dX7_measures_138 ?_
                  refine g_iload hC dX7_measures_141 0 rfl ?_
                  refine n_iald hC 55 aa_55 ((12 * g) + (tn (I 9 r))) (show (12 * g) + (tn (I 9 r)) < 144 by omega) dX7_measures_143 ?_
                  refine g_eqI (x' := f3  ((12 * g) + (tn (I 9 r)))) (by rw [uI_s]) ?_
                  refine g_aload_n hC dX7_measures_144 rfl 5 rfl ?_
                  refine gf_X7_16 hC dX7_measures_145 ?_
                  refine g_iload_n hC dX7_measures_148 rfl 3 rfl ?_
                  refine n_iald hC 53 aa_53 r (show r < 24 by omega) dX7_measures_149 ?_
                  refine g_eqI (x' := I 10 r) (by rw [uI_n (by decide), e53]) ?_
                  refine g_iadd hC dX7_measures_150 ?_
                  refine g_aload_n hC dX7_measures_151 rfl 5 rfl ?_
                  refine gf_X7_22 hC dX7_measures_152 ?_
                  refine g_iload hC dX7_measures_155 1 rfl ?_
                  refine n_iald hC 55 aa_55 ((12 * g) + (tn (I 8 r))) (show (12 * g) + (tn (I 8 r)) < 144 by omega) dX7_measures_157 ?_
                  refine g_eqI (x' := f3  ((12 * g) + (tn (I 8 r)))) (by rw [uI_s]) ?_
                  refine g_icmp_ge hC 184 dX7_measures_158 (by decide) (fun c_158 => ?_) (fun c_158 => ?_)
                  · have q2 := gI_n (x := tn (I 9 r)) (y := tn (I 8 r)) hg3 hK.2.1 (show g < 12 by omega) hr3 p1 (l3 := I 10 r) rfl (Int32.not_lt.mpr c_158)
                    refine g_iinc (v := nI (g + 1)) hC [(3, .int (nI (g + 1))), (5, .int (nI ((12 * g) + (tn (I 9 r))))), (4, .int (nI ((12 * g) + (tn (I 8 r))))), (2, .int (nI r)), (1, .int x3), (0, .ref (G.2.1 7))] dX7_measures_184 2 rfl (nI_i1 _) (by decide) rfl ?_
                    refine g_goto hC 58 dX7_measures_187 (by decide) ?_
                    refine g_lv [0, 3, 4, 5] (lv2 := [(3, .int (nI (g + 1))), (2, .int (nI r)), (1, .int x3), (0, .ref (G.2.1 7))]) rfl ?_
                    exact ih2 f3 x3 (g + 1) hg3 (by omega) hr3 (pP_n hx3 ⟨q1, q2⟩) (by omega)
                  · have q2 := Int32.not_le.mp c_158
                    refine g_aload_n hC dX7_measures_161 rfl 5 rfl ?_
                    refine gf_X7_22 hC dX7_measures_162 ?_
                    refine g_iload hC dX7_measures_165 1 rfl ?_
                    refine g_aload_n hC dX7_measures_167 rfl 5 rfl ?_
                    refine gf_X7_22 hC dX7_measures_168 ?_
                    refine g_iload hC dX7_measures_171 0 rfl ?_
                    refine n_iald hC 55 aa_55 ((12 * g) + (tn (I 9 r))) (show (12 * g) + (tn (I 9 r)) < 144 by omega) dX7_measures_173 ?_
                    refine g_eqI (x' := f3  ((12 * g) + (tn (I 9 r)))) (by rw [uI_s]) ?_
                    refine g_aload_n hC dX7_measures_174 rfl 5 rfl ?_
                    refine gf_X7_16 hC dX7_measures_175 ?_
                    refine g_iload_n hC dX7_measures_178 rfl 3 rfl ?_
                    refine n_iald hC 53 aa_53 r (show r < 24 by omega) dX7_measures_179 ?_
                    refine g_eqI (x' := I 10 r) (by rw [uI_n (by decide), e53]) ?_
                    refine g_iadd hC dX7_measures_180 ?_
                    refine n_iast hC 55 aa_55 ((12 * g) + (tn (I 8 r))) (show (12 * g) + (tn (I 8 r)) < 144 by omega) dX7_measures_181 ?_
                    obtain ⟨f5, hf5⟩ : ∃ f5, f5 = upd f3 ((12 * g) + (tn (I 8 r))) (f3 ((12 * g) + (tn (I 9 r))) + I 10 r) := ⟨_, rfl⟩
                    have hr5 := gI_r (x := tn (I 9 r)) (y := tn (I 8 r)) hg3 hK.2.1 (show g < 12 by omega) hr3 (Or.inr ⟨rfl, rfl⟩) rfl q2
                    rw [← hf5] at hr5
                    refine g_st (V1 := V) (I1 := (uI I 55 f5)) (J1 := J) rfl (by rw [hf5, uI_s, uI_uI]) rfl ?_
                    refine g_iconst (v := nI 1) hC dX7_measures_182 (by decide) ?_
                    refine g_istore_n hC [(1, .int (nI 1)), (5, .int (nI ((12 * g) + (tn (I 9 r))))), (4, .int (nI ((12 * g) + (tn (I 8 r))))), (3, .int (nI g)), (2, .int (nI r)), (0, .ref (G.2.1 7))] dX7_measures_183 rfl (by decide) rfl ?_
                    refine g_iinc (v := nI (g + 1)) hC [(3, .int (nI (g + 1))), (1, .int (nI 1)), (5, .int (nI ((12 * g) + (tn (I 9 r))))), (4, .int (nI ((12 * g) + (tn (I 8 r))))), (2, .int (nI r)), (0, .ref (G.2.1 7))] dX7_measures_184 3 rfl (nI_i1 _) (by decide) rfl ?_
                    refine g_goto hC 58 dX7_measures_187 (by decide) ?_
                    refine g_lv [0, 4, 1, 5] (lv2 := [(3, .int (nI (g + 1))), (2, .int (nI r)), (1, .int (nI 1)), (0, .ref (G.2.1 7))]) rfl ?_
                    exact ih2 f5 (nI 1) (g + 1) hr5.1 (by omega) hr3 (pP_y hx3 (by first | exact hr5.2 | exact Nat.lt_trans hr5.2 hr4.2)) (by omega)
                · have q1 := Int32.not_le.mp c_111
                  refine g_aload_n hC dX7_measures_114 rfl 5 rfl ?_
                  refine gf_X7_22 hC dX7_measures_115 ?_
                  refine g_iload hC dX7_measures_118 0 rfl ?_
                  refine g_aload_n hC dX7_measures_120 rfl 5 rfl ?_
                  refine gf_X7_22 hC dX7_measures_121 ?_
                  refine g_iload hC dX7_measures_124 1 rfl ?_
                  refine n_iald hC 55 aa_55 ((12 * g) + (tn (I 8 r))) (show (12 * g) + (tn (I 8 r)) < 144 by omega) dX7_measures_126 ?_
                  refine g_eqI (x' := f3  ((12 * g) + (tn (I 8 r)))) (by rw [uI_s]) ?_
                  refine g_aload_n hC dX7_measures_127 rfl 5 rfl ?_
                  refine gf_X7_16 hC dX7_measures_128 ?_
                  refine g_iload_n hC dX7_measures_131 rfl 3 rfl ?_
                  refine n_iald hC 53 aa_53 r (show r < 24 by omega) dX7_measures_132 ?_
                  refine g_eqI (x' := I 10 r) (by rw [uI_n (by decide), e53]) ?_
                  refine g_iadd hC dX7_measures_133 ?_
                  refine n_iast hC 55 aa_55 ((12 * g) + (tn (I 9 r))) (show (12 * g) + (tn (I 9 r)) < 144 by omega) dX7_measures_134 ?_
                  obtain ⟨f4, hf4⟩ : ∃ f4, f4 = upd f3 ((12 * g) + (tn (I 9 r))) (f3 ((12 * g) + (tn (I 8 r))) + I 10 r) := ⟨_, rfl⟩
                  have hr4 := gI_r (x := tn (I 8 r)) (y := tn (I 9 r)) hg3 hK.2.1 (show g < 12 by omega) hr3 (Or.inl ⟨rfl, rfl⟩) rfl q1
                  rw [← hf4] at hr4
                  refine g_st (V1 := V) (I1 := (uI I 55 f4)) (J1 := J) rfl (by rw [hf4, uI_s, uI_uI]) rfl ?_
                  refine g_iconst (v := nI 1) hC dX7_measures_135 (by decide) ?_
                  refine g_istore_n hC [(1, .int (nI 1)), (5, .int (nI ((12 * g) + (tn (I 9 r))))), (4, .int (nI ((12 * g) + (tn (I 8 r))))), (3, .int (nI g)), (2, .int (nI r)), (0, .ref (G.2.1 7))] dX7_measures_136 rfl (by decide) rfl ?_
                  refine g_aload_n hC dX7_measures_137 rfl 5 rfl ?_
                  refine gf_X7_22 hC dX7_measures_138 ?_
                  refine g_iload hC dX7_measures_141 1 rfl ?_
                  refine n_iald hC 55 aa_55 ((12 * g) + (tn (I 9 r))) (show (12 * g) + (tn (I 9 r)) < 144 by omega) dX7_measures_143 ?_
                  refine g_eqI (x' := f4  ((12 * g) + (tn (I 9 r)))) (by rw [uI_s]) ?_
                  refine g_aload_n hC dX7_measures_144 rfl 5 rfl ?_
                  refine gf_X7_16 hC dX7_measures_145 ?_
                  refine g_iload_n hC dX7_measures_148 rfl 4 rfl ?_
                  refine n_iald hC 53 aa_53 r (show r < 24 by omega) dX7_measures_149 ?_
                  refine g_eqI (x' := I 10 r) (by rw [uI_n (by decide), e53]) ?_
                  refine g_iadd hC dX7_measures_150 ?_
                  refine g_aload_n hC dX7_measures_151 rfl 5 rfl ?_
                  refine gf_X7_22 hC dX7_measures_152 ?_
                  refine g_iload hC dX7_measures_155 2 rfl ?_
                  refine n_iald hC 55 aa_55 ((12 * g) + (tn (I 8 r))) (show (12 * g) + (tn (I 8 r)) < 144 by omega) dX7_measures_157 ?_
                  refine g_eqI (x' := f4  ((12 * g) + (tn (I 8 r)))) (by rw [uI_s]) ?_
                  refine g_icmp_ge hC 184 dX7_measures_158 (by decide) (fun c_158 => ?_) (fun c_158 => ?_)
                  · have q2 := gI_n (x := tn (I 9 r)) (y := tn (I 8 r)) hr4.1 hK.2.1 (show g < 12 by omega) hr3 p1 (l3 := I 10 r) rfl (Int32.not_lt.mpr c_158)
                    refine g_iinc (v := nI (g + 1)) hC [(3, .int (nI (g + 1))), (1, .int (nI 1)), (5, .int (nI ((12 * g) + (tn (I 9 r))))), (4, .int (nI ((12 * g) + (tn (I 8 r))))), (2, .int (nI r)), (0, .ref (G.2.1 7))] dX7_measures_184 3 rfl (nI_i1 _) (by decide) rfl ?_
                    refine g_goto hC 58 dX7_measures_187 (by decide) ?_
                    refine g_lv [0, 4, 1, 5] (lv2 := [(3, .int (nI (g + 1))), (2, .int (nI r)), (1, .int (nI 1)), (0, .ref (G.2.1 7))]) rfl ?_
                    exact ih2 f4 (nI 1) (g + 1) hr4.1 (by omega) hr3 (pP_y hx3 hr4.2) (by omega)
                  · have q2 := Int32.not_le.mp c_158
                    refine g_aload_n hC dX7_measures_161 rfl 5 rfl ?_
                    refine gf_X7_22 hC dX7_measures_162 ?_
                    refine g_iload hC dX7_measures_165 2 rfl ?_
                    refine g_aload_n hC dX7_measures_167 rfl 5 rfl ?_
                    refine gf_X7_22 hC dX7_measures_168 ?_
                    refine g_iload hC dX7_measures_171 1 rfl ?_
                    refine n_iald hC 55 aa_55 ((12 * g) + (tn (I 9 r))) (show (12 * g) + (tn (I 9 r)) < 144 by omega) dX7_measures_173 ?_
                    refine g_eqI (x' := f4  ((12 * g) + (tn (I 9 r)))) (by rw [uI_s]) ?_
                    refine g_aload_n hC dX7_measures_174 rfl 5 rfl ?_
                    refine gf_X7_16 hC dX7_measures_175 ?_
                    refine g_iload_n hC dX7_measures_178 rfl 4 rfl ?_
                    refine n_iald hC 53 aa_53 r (show r < 24 by omega) dX7_measures_179 ?_
                    refine g_eqI (x' := I 10 r) (by rw [uI_n (by decide), e53]) ?_
                    refine g_iadd hC dX7_measures_180 ?_
                    refine n_iast hC 55 aa_55 ((12 * g) + (tn (I 8 r))) (show (12 * g) + (tn (I 8 r)) < 144 by omega) dX7_measures_181 ?_
                    obtain ⟨f5, hf5⟩ : ∃ f5, f5 = upd f4 ((12 * g) + (tn (I 8 r))) (f4 ((12 * g) + (tn (I 9 r))) + I 10 r) := ⟨_, rfl⟩
                    have hr5 := gI_r (x := tn (I 9 r)) (y := tn (I 8 r)) hr4.1 hK.2.1 (show g < 12 by omega) hr3 (Or.inr ⟨rfl, rfl⟩) rfl q2
                    rw [← hf5] at hr5
                    refine g_st (V1 := V) (I1 := (uI I 55 f5)) (J1 := J) rfl (by rw [hf5, uI_s, uI_uI]) rfl ?_
                    refine g_iconst (v := nI 1) hC dX7_measures_182 (by decide) ?_
                    refine g_istore_n hC [(1, .int (nI 1)), (5, .int (nI ((12 * g) + (tn (I 9 r))))), (4, .int (nI ((12 * g) + (tn (I 8 r))))), (3, .int (nI g)), (2, .int (nI r)), (0, .ref (G.2.1 7))] dX7_measures_183 rfl (by decide) rfl ?_
                    refine g_iinc (v := nI (g + 1)) hC [(3, .int (nI (g + 1))), (1, .int (nI 1)), (5, .int (nI ((12 * g) + (tn (I 9 r))))), (4, .int (nI ((12 * g) + (tn (I 8 r))))), (2, .int (nI r)), (0, .ref (G.2.1 7))] dX7_measures_184 3 rfl (nI_i1 _) (by decide) rfl ?_
                    refine g_goto hC 58 dX7_measures_187 (by decide) ?_
                    refine g_lv [0, 4, 1, 5] (lv2 := [(3, .int (nI (g + 1))), (2, .int (nI r)), (1, .int (nI 1)), (0, .ref (G.2.1 7))]) rfl ?_
                    exact ih2 f5 (nI 1) (g + 1) hr5.1 (by omega) hr3 (pP_y hx3 (by first | exact hr5.2 | exact Nat.lt_trans hr5.2 hr4.2)) (by omega)
          refine g_iload_n hC dX7_measures_48 rfl 0 rfl ?_
          refine g_aload_n hC dX7_measures_49 rfl 2 rfl ?_
          refine gf_X7_117 hC dX7_measures_50 ?_
          refine g_eqI (x' := nI n) (by rw [v10]) ?_
          refine g_icmp_ge hC 196 dX7_measures_53 (by decide) (fun c_53 => ?_) (fun c_53 => ?_)
          · have d_53 : n ≤ r := (nI_leI (by omega) (by omega)).mp c_53
            refine g_goto hC 40 dX7_measures_196 (by decide) ?_
            refine g_lv [1, 2] (lv2 := [(1, .int x2), (0, .ref (G.2.1 7))]) rfl ?_
            have he := pP_e (show n ≤ r by omega) hx2
            have hk1 := hk1 hx1
            exact ih f2 x2 hg2 (by rcases he with q | q; exact Or.inl q; exact Or.inr q.1) (fun z => by rcases he with q | q; exact absurd (q.1.symm.trans z) (by decide); omega) (by omega)
          · have d_53 : ¬ n ≤ r := fun q => c_53 ((nI_leI (by omega) (by omega)).mpr q)
            refine g_iconst (v := nI 0) hC dX7_measures_56 (by decide) ?_
            refine g_istore_n hC [(3, .int (nI 0)), (2, .int (nI r)), (1, .int x2), (0, .ref (G.2.1 7))] dX7_measures_57 rfl (by decide) rfl ?_
            exact lp_58 13 f2 x2 0 hg2 (by omega) (by omega) hx2 (by omega)
      refine g_iload_n hC dX7_measures_40 rfl 0 rfl ?_
      refine g_if_eq hC 199 dX7_measures_41 (by decide) (fun c_41 => ?_) (fun c_41 => ?_)
      · have hst := (hx.resolve_right (fun z => by rw [z] at c_41; exact absurd c_41 (by decide))).2
        exact g_vret hC hr dX7_measures_199 (Nat.le_of_ble_eq_true rfl) (Nat.le_of_ble_eq_true rfl) ⟨rfl, rfl, rfl, f, rfl, mF_of hK.1 (gI_z hg hst)⟩
      · have hx1 : x = nI 1 := hx.resolve_left (fun z => c_41 z.1)
        refine g_iconst (v := nI 0) hC dX7_measures_44 (by decide) ?_
        refine g_istore_n hC [(1, .int (nI 0)), (0, .ref (G.2.1 7))] dX7_measures_45 rfl (by decide) rfl ?_
        refine g_iconst (v := nI 0) hC dX7_measures_46 (by decide) ?_
        refine g_istore_n hC [(2, .int (nI 0)), (1, .int (nI 0)), (0, .ref (G.2.1 7))] dX7_measures_47 rfl (by decide) rfl ?_
        exact lp_48 (n + 1) f (nI 0) 0 hx1 hg (by omega) pP_0 (by omega)
  have lp_2 : ∀ (k9 : Nat) (f : Nat → Int32) (k : Nat) (hkk : k ≤ 144) (hf : ∀ j, j < k → f j = mf0 j) (hk : 144 < k + k9), WW K G 0 0 (QM K G { frames := 0, cells := 0, slots := 0, locals := 0 } (fun r V9 I9 J9 => r = none ∧ V9 = V ∧ J9 = J ∧ ∃ f, I9 = uI I 55 f ∧ mF (uI I 55 f)) (noX)) V (uI I 55 f) J 2 [(1, .int (nI k)), (0, .ref (G.2.1 7))] [] := by
    intro k9
    induction k9 with
    | zero =>
      intro f k hkk hf hk
      omega
    | succ k9 ih =>
      intro f k hkk hf hk
      refine g_iload_n hC dX7_measures_2 rfl 0 rfl ?_
      refine g_sipush (v := nI 144) hC dX7_measures_3 (by decide) ?_
      refine g_icmp_ge hC 38 dX7_measures_6 (by decide) (fun c_6 => ?_) (fun c_6 => ?_)
      · have d_6 : 144 ≤ k := (nI_leI (by omega) (by omega)).mp c_6
        refine g_iconst (v := nI 1) hC dX7_measures_38 (by decide) ?_
        refine g_istore_n hC [(1, .int (nI 1)), (0, .ref (G.2.1 7))] dX7_measures_39 rfl (by decide) rfl ?_
        exact lp_40 (mS f 144 + 2) f (nI 1) (gI_s (fun j hj => hf j (by omega))) (Or.inr rfl) (fun _ => by omega) (by omega)
      · have d_6 : ¬ 144 ≤ k := fun q => c_6 ((nI_leI (by omega) (by omega)).mpr q)
        refine g_aload_n hC dX7_measures_9 rfl 1 rfl ?_
        refine gf_X7_22 hC dX7_measures_10 ?_
        refine g_iload_n hC dX7_measures_13 rfl 0 rfl ?_
        refine g_iload_n hC dX7_measures_14 rfl 0 rfl ?_
        refine g_bipush (v := nI 12) hC dX7_measures_15 (by decide) ?_
        refine g_idiv hC dX7_measures_17 (by decide) ?_
        refine g_eqI (x' := nI (k / 12)) (pk_div (by omega) (by omega) (by omega)) ?_
        refine g_iload_n hC dX7_measures_18 rfl 0 rfl ?_
        refine g_bipush (v := nI 12) hC dX7_measures_19 (by decide) ?_
        refine g_irem hC dX7_measures_21 (by decide) ?_
        refine g_eqI (x' := nI (k % 12)) (pk_rem (by omega) (by omega) (by omega)) ?_
        refine g_icmp_ne hC 29 dX7_measures_22 (by decide) (fun c_22 => ?_) (fun c_22 => ?_)
        · have d_22 : ¬ (k / 12) = (k % 12) := fun q => c_22 ((nI_eq (by omega) (by omega)).mpr q)
          refine g_ldc (v := nI 1000000) hC tw_810 dX7_measures_29 ?_
          refine n_iast hC 55 aa_55 k (show k < 144 by omega) dX7_measures_31 ?_
          refine g_st (V1 := V) (I1 := (uI I 55 (upd f k (mf0 k)))) (J1 := J) rfl (by rw [uI_s, uI_uI]; unfold mf0; first | rw [if_pos d_22] | rw [if_neg d_22]) rfl ?_
          refine g_iinc (v := nI (k + 1)) hC [(1, .int (nI (k + 1))), (0, .ref (G.2.1 7))] dX7_measures_32 0 rfl (nI_i1 _) (by decide) rfl ?_
          refine g_goto hC 2 dX7_measures_35 (by decide) ?_
          exact ih (upd f k (mf0 k)) (k + 1) (by omega) (upd_ex hf) (by omega)
        · have d_22 : (k / 12) = (k % 12) := (nI_eq (by omega) (by omega)).mp c_22
          refine g_iconst (v := nI 0) hC dX7_measures_25 (by decide) ?_
          refine g_goto hC 31 dX7_measures_26 (by decide) ?_
          refine n_iast hC 55 aa_55 k (show k < 144 by omega) dX7_measures_31 ?_
          refine g_st (V1 := V) (I1 := (uI I 55 (upd f k (mf0 k)))) (J1 := J) rfl (by rw [uI_s, uI_uI]; unfold mf0; first | rw [if_pos d_22] | rw [if_neg d_22]) rfl ?_
          refine g_iinc (v := nI (k + 1)) hC [(1, .int (nI (k + 1))), (0, .ref (G.2.1 7))] dX7_measures_32 0 rfl (nI_i1 _) (by decide) rfl ?_
          refine g_goto hC 2 dX7_measures_35 (by decide) ?_
          exact ih (upd f k (mf0 k)) (k + 1) (by omega) (upd_ex hf) (by omega)
  refine g_iconst (v := nI 0) hC dX7_measures_0 (by decide) ?_
  refine g_istore_n hC [(1, .int (nI 0)), (0, .ref (G.2.1 7))] dX7_measures_1 rfl (by decide) rfl ?_
  refine g_st (V1 := V) (I1 := (uI I 55 (I 55))) (J1 := J) rfl (uI_self I 55).symm rfl ?_
  exact lp_2 145 (I 55) 0 (by omega) (fun j hj => by omega) (by omega)
