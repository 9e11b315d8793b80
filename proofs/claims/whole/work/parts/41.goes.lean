set_option maxRecDepth 100000 in
theorem m_X7_goes {l : Launch} {G : wG} (hl : l.stackTraces = false) (hG : wD G) (V : wV) (I : wI) (J : wJ) (nr n ns plate M : Nat) (G0 : wI) (v10 : V 10 = nI nr) (v11 : V 11 = nI M) (v12 : V 12 = nI ns) (v13 : V 13 = nI n) (hM : M ≤ 100000) (hx0 : eqy I G0) (hmI : mI I) (hmF : 0 < n → mF I) (hK : dK I nr) (hw : wfC I nr n ns) (hW : wT I nr) (hwS : wS I n) (hp10 : plate < 10) : Ctr l yX7_goes cX7_goes 7 none { frames := 3, cells := 0, slots := 0, locals := 78 } G [.ref (G.2.1 7), .int (nI plate)] V I J (fun r9 V9 I9 J9 => r9 = none ∧ V9 = upd V 14 (nI (fj nr ns plate G0 n).1) ∧ gK I I9 ∧ (∀ a, a < 77 ∨ 79 < a → J9 a = J a) ∧ gF n plate I M (fj nr ns plate G0 n) I9 J9) (noX) := by
  refine ctr_of hl hG (by decide) (Nat.le_of_ble_eq_true rfl) [(0, .ref (G.2.1 7)), (1, .int (nI plate))] rfl ?_
  intro K hC hKl hRm hr hT
  subst hKl
  have hC : Cx K G RX7 cX7_goes 7 := hC
  obtain ⟨m51, m52, m53, m54, m56, m57, m58, m59, m64, m65, m66, m67, m68, m69, m70⟩ := id hmI
  obtain ⟨w1, w2, w3, w4, w5, w6, w7⟩ := id hw
  have w24 := w1.1
  have hn := w4
  have lp_290 : ∀ (k9 : Nat) (c : Nat) (ah : Option Nat) (I2 I9 : wI) (f : Nat → Int64) (k : Nat) (g h : Nat → Int64) (hS : fj nr ns plate G0 n = (c, ah, I2)) (hcn : c ≤ 100) (hK9 : gK I I9) (hD9 : gD n plate I n I9) (hJ9 : gJ c I2 I9 f 18000000) (hA9 : gA n plate I I2 I9) (hkc : k ≤ c) (hg : ∀ j, j < k → g j = (fr I2 j (nI M)).toInt64 ∧ ∀ o, o < 4 → h (4 * j + o) = (shr I2 j o (nI M)).toInt64) (hk : c < k + k9), WW K G 0 0 (QM K G { frames := 3, cells := 0, slots := 0, locals := 78 } (fun r9 V9 I9 J9 => r9 = none ∧ V9 = upd V 14 (nI (fj nr ns plate G0 n).1) ∧ gK I I9 ∧ (∀ a, a < 77 ∨ 79 < a → J9 a = J a) ∧ gF n plate I M (fj nr ns plate G0 n) I9 J9) (noX)) (upd V 14 (nI c)) I9 (uJ (uJ (uJ J 77 f) 78 g) 79 h) 290 [(4, .int (nI k)), (0, .ref (G.2.1 7)), (1, .int (nI plate))] [] := by
    intro k9
    induction k9 with
    | zero =>
      intro c ah I2 I9 f k g h hS hcn hK9 hD9 hJ9 hA9 hkc hg hk
      omega
    | succ k9 ih =>
      intro c ah I2 I9 f k g h hS hcn hK9 hD9 hJ9 hA9 hkc hg hk
      refine g_iload hC dX7_goes_290 0 rfl ?_
      refine g_aload_n hC dX7_goes_292 rfl 1 rfl ?_
      refine gf_X7_159 hC dX7_goes_293 ?_
      refine g_eqI (x' := nI c) (by rw [pk_us]) ?_
      refine g_icmp_ge hC 311 dX7_goes_296 (by decide) (fun c_296 => ?_) (fun c_296 => ?_)
      · have d_296 : c ≤ k := (nI_leI (by omega) (by omega)).mp c_296
        exact g_vret hC hr dX7_goes_311 (Nat.le_of_ble_eq_true rfl) (Nat.le_of_ble_eq_true rfl) ⟨rfl, by rw [hS], hK9, fun a ha => by rw [uJ_n (by omega), uJ_n (by omega), uJ_n (by omega)], by rw [hS]; exact ⟨fun j hj => ⟨(hJ9 j hj).1, (hJ9 j hj).2.1, (hJ9 j hj).2.2.1, (hg j (by omega)).1, (hg j (by omega)).2⟩, gA_e hwS hD9 hA9⟩⟩
      · have d_296 : ¬ c ≤ k := fun q => c_296 ((nI_leI (by omega) (by omega)).mpr q)
        refine g_aload_n hC dX7_goes_299 rfl 1 rfl ?_
        refine g_iload hC dX7_goes_300 0 rfl ?_
        refine g_cVr hC [.int (nI k)] 7 (m_X7_shares hl hG (upd V 14 (nI c)) I9 (uJ (uJ (uJ J 77 f) 78 g) 79 h) k 18000000 M I2 ((pk_un (by decide)).trans v11) (by omega) (by omega) hM (hJ9 k (by omega)).2.2.2) rfl (by decide) rfl rfl rfl tw_906 tw_908 tw_27 tw_38 tw_909 pd_X7_shares ⟨rfl, rfl⟩ (by rw [hRm]; exact ⟨Nat.le_of_ble_eq_true rfl, Nat.le_of_ble_eq_true rfl, Nat.le_of_ble_eq_true rfl, Nat.le_of_ble_eq_true rfl⟩) (Nat.le_of_ble_eq_true rfl) dX7_goes_302 (fun r9 V9 I9 J9 hp9 => ?_)
        obtain ⟨rfl, hV9, hI9, f8, g8, rfl, b1, b2, b3, b4⟩ := hp9
        have hV9 := hV9.symm
        have hI9 := hI9.symm
        subst hV9 hI9
        refine g_at rfl rfl (st2 := []) rfl ?_
        refine g_st (V1 := (upd V 14 (nI c))) (I1 := I9) (J1 := (uJ (uJ (uJ J 77 f) 78 f8) 79 g8)) rfl rfl (J789 _ _ _ _ _) ?_
        refine g_iinc (v := nI (k + 1)) hC [(4, .int (nI (k + 1))), (0, .ref (G.2.1 7)), (1, .int (nI plate))] dX7_goes_305 0 rfl (nI_i1 _) (by decide) rfl ?_
        refine g_goto hC 290 dX7_goes_308 (by decide) ?_
        exact ih c ah I2 I9 f (k + 1) f8 g8 hS hcn hK9 hD9 hJ9 hA9 (by omega) (fun j hj => by by_cases z : j = k; rw [z]; exact ⟨b1, b3⟩; rw [b2 j z]; exact ⟨(hg j (by omega)).1, fun o ho => by rw [b4 _ (by omega)]; exact (hg j (by omega)).2 o ho⟩) (by omega)
  have lp_60 : ∀ (k9 : Nat) (p : Nat) (c : Nat) (ah : Option Nat) (I2 I9 : wI) (f : Nat → Int64) (x y : Int32) (hp : p ≤ n) (hS : fj nr ns plate G0 p = (c, ah, I2)) (hy : y = ahv ah) (hK9 : gK I I9) (hD9 : gD n plate I p I9) (hJ9 : gJ c I2 I9 f (180000 * p)) (hA9 : gA n plate I I2 I9) (hap0 : ∀ a, ah = some a → I 20 a = nI plate) (hN : nxR I9 n plate 0 x) (hk : n < p + k9), WW K G 0 0 (QM K G { frames := 3, cells := 0, slots := 0, locals := 78 } (fun r9 V9 I9 J9 => r9 = none ∧ V9 = upd V 14 (nI (fj nr ns plate G0 n).1) ∧ gK I I9 ∧ (∀ a, a < 77 ∨ 79 < a → J9 a = J a) ∧ gF n plate I M (fj nr ns plate G0 n) I9 J9) (noX)) (upd V 14 (nI c)) I9 (uJ J 77 f) 60 [(3, .int x), (2, .int y), (0, .ref (G.2.1 7)), (1, .int (nI plate))] [] := by
    intro k9
    induction k9 with
    | zero =>
      intro p c ah I2 I9 f x y hp hS hy hK9 hD9 hJ9 hA9 hap0 hN hk
      omega
    | succ k9 ih =>
      intro p c ah I2 I9 f x y hp hS hy hK9 hD9 hJ9 hA9 hap0 hN hk
      have hok := fj_ok (plate := plate) (wfC_y hw hx0) p hp
      rw [hS] at hok
      obtain ⟨hcp, hex, hah⟩ := hok
      dsimp only at hcp hex hah
      have hy2 : eqy I I2 := eqy_tr hx0 (eqy_x hex)
      have hw2 : wfC I2 nr n ns := wfC_y hw hy2
      refine g_iload_n hC dX7_goes_60 rfl 0 rfl ?_
      refine g_iconst (v := (-1)) hC dX7_goes_61 (by decide) ?_
      refine g_icmp_eq hC 287 dX7_goes_62 (by decide) (fun c_62 => ?_) (fun c_62 => ?_)
      · refine g_iconst (v := nI 0) hC dX7_goes_287 (by decide) ?_
        refine g_istore hC [(4, .int (nI 0)), (3, .int x), (2, .int y), (0, .ref (G.2.1 7)), (1, .int (nI plate))] dX7_goes_288 (by decide) rfl ?_
        refine g_lv [0, 3, 4] (lv2 := [(4, .int (nI 0)), (0, .ref (G.2.1 7)), (1, .int (nI plate))]) rfl ?_
        have hmiss := g_end hwS hn hK9 hD9 hN c_62
        have hSn : fj nr ns plate G0 n = (c, ah, I2) := by have z := fj_skip hx0 hw (n - p) (by omega) (fun q h1 h2 => hmiss q h1 (by omega)); rw [show p + (n - p) = n by omega] at z; exact z.trans hS
        refine g_st (V1 := (upd V 14 (nI c))) (I1 := I9) (J1 := (uJ (uJ (uJ J 77 f) 78 (J 78)) 79 (J 79))) rfl rfl (J78 J f) ?_
        skip
        exact lp_290 (c + 1) c ah I2 I9 f 0 (J 78) (J 79) hSn (by omega) hK9 (gD_n hp hD9 hmiss) (fun j hj => ⟨(hJ9 j hj).1, (hJ9 j hj).2.1, (hJ9 j hj).2.2.1, pR_le (hJ9 j hj).2.2.2 (by omega)⟩) hA9 (by omega) (fun j hj => absurd hj (Nat.not_lt_zero _)) (by omega)
      · obtain ⟨its, q, hxe, hin, hpq, hqn, hqe, hqm, hqz, hqs⟩ := g_next hwS hn hK9 hD9 hN c_62
        subst hxe
        obtain ⟨gi1, gi2⟩ := vin_tn (w6 its hin).1 (by decide)
        have hf0 : fj nr ns plate G0 q = (c, ah, I2) := by have z := fj_skip hx0 hw (q - p) (by omega) (fun s h1 h2 => hqs s h1 (by omega)); rw [show p + (q - p) = q by omega] at z; exact z.trans hS
        have hf1 : fj nr ns plate G0 (q + 1) = plc nr ns c ah I2 its := by rw [fj_hit hx0 hw hqn (by rw [hqe]; exact hqm), hf0, hqe]
        have e21 : I2 21 = I 21 := hy2 21 (by omega)
        have e19 : I2 19 = I 19 := hy2 19 (by omega)
        refine g_aload_n hC dX7_goes_65 rfl 2 rfl ?_
        refine gf_X7_82 hC dX7_goes_66 ?_
        refine g_iload_n hC dX7_goes_69 rfl 0 rfl ?_
        refine g_iconst (v := nI 1) hC dX7_goes_70 (by decide) ?_
        refine n_zast hC 73 aa_73 its (show its < 100 by omega) rfl dX7_goes_71 ?_
        refine g_iload_n hC dX7_goes_72 rfl 1 rfl ?_
        refine g_iconst (v := (-1)) hC dX7_goes_73 (by decide) ?_
        refine g_icmp_ne hC 81 dX7_goes_74 (by decide) (fun c_74 => ?_) (fun c_74 => ?_)
        · obtain ⟨a, rfl⟩ : ∃ a, ah = some a := by cases ah with | none => exact absurd hy c_74 | some a => exact ⟨a, rfl⟩
          obtain ⟨hah1, hah2, hah3⟩ := hah a rfl
          have hya : y = nI a := hy
          subst hya
          obtain ⟨ga1, ga2⟩ := vin_tn (w6 a hah1).1 (by decide)
          refine g_aload_n hC dX7_goes_81 rfl 2 rfl ?_
          refine gf_X7_69 hC dX7_goes_82 ?_
          refine g_iload_n hC dX7_goes_85 rfl 0 rfl ?_
          refine n_iald hC 69 aa_69 its (show its < 100 by omega) dX7_goes_86 ?_
          refine g_eqI (x' := I 21 its) (by rw [uI_n (by decide), hK9 69 (by omega), m69]) ?_
          refine g_aload_n hC dX7_goes_87 rfl 2 rfl ?_
          refine gf_X7_69 hC dX7_goes_88 ?_
          refine g_iload_n hC dX7_goes_91 rfl 1 rfl ?_
          refine n_iald hC 69 aa_69 a (show a < 100 by omega) dX7_goes_92 ?_
          refine g_eqI (x' := I 21 a) (by rw [uI_n (by decide), hK9 69 (by omega), m69]) ?_
          refine g_isub hC dX7_goes_93 ?_
          refine g_istore hC [(4, .int ((I 21 its) - (I 21 a))), (3, .int (nI its)), (2, .int (nI a)), (0, .ref (G.2.1 7)), (1, .int (nI plate))] dX7_goes_94 (by decide) rfl ?_
          refine g_iload_n hC dX7_goes_96 rfl 2 rfl ?_
          refine g_iconst (v := (-1)) hC dX7_goes_97 (by decide) ?_
          refine g_icmp_ne hC 106 dX7_goes_98 (by decide) (fun c_98 => ?_) (fun c_98 => ?_)
          · refine g_aload_n hC dX7_goes_106 rfl 3 rfl ?_
            refine g_aload_n hC dX7_goes_107 rfl 3 rfl ?_
            refine gf_X7_63 hC dX7_goes_108 ?_
            refine g_iload_n hC dX7_goes_111 rfl 2 rfl ?_
            refine n_iald hC 67 aa_67 a (show a < 100 by omega) dX7_goes_112 ?_
            refine g_eqI (x' := I 19 a) (by rw [uI_n (by decide), hK9 67 (by omega), m67]) ?_
            refine g_eqI (x' := nI (tn (I 19 a))) ga2 ?_
            refine g_aload_n hC dX7_goes_113 rfl 3 rfl ?_
            refine gf_X7_63 hC dX7_goes_114 ?_
            refine g_iload_n hC dX7_goes_117 rfl 1 rfl ?_
            refine n_iald hC 67 aa_67 its (show its < 100 by omega) dX7_goes_118 ?_
            refine g_eqI (x' := I 19 its) (by rw [uI_n (by decide), hK9 67 (by omega), m67]) ?_
            refine g_eqI (x' := nI (tn (I 19 its))) gi2 ?_
            refine g_cV hC [.int (nI (tn (I 19 a))), .int (nI (tn (I 19 its)))] 7 (m_X7_away hl hG (upd V 14 (nI c)) (uI I9 73 (upd (I9 73) its (nI 1))) (uJ J 77 f) (tn (I 19 a)) (tn (I 19 its)) (by omega) (by omega)) rfl (st2 := [.int ((uI I9 73 (upd (I9 73) its (nI 1))) 55 (12 * (tn (I 19 a)) + (tn (I 19 its))))]) rfl (by decide) rfl rfl rfl tw_881 tw_883 tw_21 tw_38 tw_884 pd_X7_away ⟨rfl, rfl⟩ (by rw [hRm]; exact ⟨Nat.le_of_ble_eq_true rfl, Nat.le_of_ble_eq_true rfl, Nat.le_of_ble_eq_true rfl, Nat.le_of_ble_eq_true rfl⟩) (Nat.le_of_ble_eq_true rfl) dX7_goes_119 ?_
            refine g_eqI (x' := I (35 + tn (I 19 a)) (tn (I 19 its))) (by show I9 55 _ = _; rw [hK9 55 (by omega)]; exact hmF (by omega) _ _ ga1 gi1) ?_
            refine g_istore hC [(5, .int (I (35 + tn (I 19 a)) (tn (I 19 its)))), (4, .int ((I 21 its) - (I 21 a))), (3, .int (nI its)), (2, .int (nI a)), (0, .ref (G.2.1 7)), (1, .int (nI plate))] dX7_goes_122 (by decide) rfl ?_
            refine g_aload_n hC dX7_goes_124 rfl 4 rfl ?_
            refine gf_X7_76 hC dX7_goes_125 ?_
            refine g_iload_n hC dX7_goes_128 rfl 2 rfl ?_
            refine g_iload_n hC dX7_goes_129 rfl 3 rfl ?_
            refine g_iconst (v := (-1)) hC dX7_goes_130 (by decide) ?_
            refine g_icmp_eq hC 159 dX7_goes_131 (by decide) (fun c_131 => ?_) (fun c_131 => ?_)
            · exact absurd c_131 (nI_m1 (by omega))
            · refine g_aload_n hC dX7_goes_134 rfl 4 rfl ?_
              refine gf_X7_63 hC dX7_goes_135 ?_
              refine g_iload_n hC dX7_goes_138 rfl 3 rfl ?_
              refine n_iald hC 67 aa_67 a (show a < 100 by omega) dX7_goes_139 ?_
              refine g_eqI (x' := I 19 a) (by rw [uI_n (by decide), hK9 67 (by omega), m67]) ?_
              refine g_aload_n hC dX7_goes_140 rfl 4 rfl ?_
              refine gf_X7_63 hC dX7_goes_141 ?_
              refine g_iload_n hC dX7_goes_144 rfl 2 rfl ?_
              refine n_iald hC 67 aa_67 its (show its < 100 by omega) dX7_goes_145 ?_
              refine g_eqI (x' := I 19 its) (by rw [uI_n (by decide), hK9 67 (by omega), m67]) ?_
              refine g_icmp_ne hC 159 dX7_goes_146 (by decide) (fun c_146 => ?_) (fun c_146 => ?_)
              · have hdb : ¬ isD I2 its a = true := by intro z; simp only [isD, e19, Bool.and_eq_true, decide_eq_true_eq] at z; exact c_146 z.1.symm
                refine g_iconst (v := nI 0) hC dX7_goes_159 (by decide) ?_
                refine n_zast hC 71 aa_71 its (show its < 100 by omega) rfl dX7_goes_160 ?_
                refine g_aload_n hC dX7_goes_161 rfl 4 rfl ?_
                refine gf_X7_76 hC dX7_goes_162 ?_
                refine g_iload_n hC dX7_goes_165 rfl 2 rfl ?_
                refine n_zald hC 71 aa_71 its (show its < 100 by omega) dX7_goes_166 ?_
                refine g_eqI (x' := nI 0) (by rw [uI_s, pk_us]) ?_
                refine g_if_ne hC 266 dX7_goes_167 (by decide) (fun c_167 => ?_) (fun c_167 => ?_)
                · exact absurd c_167 (by decide)
                · refine g_iload_n hC dX7_goes_170 rfl 3 rfl ?_
                  refine g_iconst (v := (-1)) hC dX7_goes_171 (by decide) ?_
                  refine g_icmp_eq hC 203 dX7_goes_172 (by decide) (fun c_172 => ?_) (fun c_172 => ?_)
                  · exact absurd c_172 (nI_m1 (by omega))
                  · refine g_iload hC dX7_goes_175 0 rfl ?_
                    refine g_ldc (v := nI 1000000) hC tw_810 dX7_goes_177 ?_
                    refine g_icmp_ge hC 203 dX7_goes_179 (by decide) (fun c_179 => ?_) (fun c_179 => ?_)
                    · have hgo : ¬ gO I2 a its = true := by refine gO_f1 ?_; rw [e19, hy2 (35 + tn (I 19 a)) (by omega)]; exact Int32.not_lt.mpr c_179
                      have hplb : plc nr ns c (some a) I2 its = (c + 1, some its, bgI I2 c its (I 21 its)) := by rw [← e21]; exact (if_neg hdb).trans (if_neg hgo)
                      refine g_iconst (v := nI 0) hC dX7_goes_203 (by decide) ?_
                      refine g_istore hC [(6, .int (nI 0)), (5, .int (I (35 + tn (I 19 a)) (tn (I 19 its)))), (4, .int ((I 21 its) - (I 21 a))), (3, .int (nI its)), (2, .int (nI a)), (0, .ref (G.2.1 7)), (1, .int (nI plate))] dX7_goes_204 (by decide) rfl ?_
                      refine g_iload hC dX7_goes_206 0 rfl ?_
                      refine g_if_eq hC 227 dX7_goes_208 (by decide) (fun c_208 => ?_) (fun c_208 => ?_)
                      · refine g_aload_n hC dX7_goes_227 rfl 5 rfl ?_
                        refine g_iload_n hC dX7_goes_228 rfl 3 rfl ?_
                        refine g_cV hC [.int (nI its)] 7 (m_X7_begins hl hG (upd V 14 (nI c)) (uI (uI I9 73 (upd (I9 73) its (nI 1))) 71 (upd ((uI I9 73 (upd (I9 73) its (nI 1))) 71) its (nI 0))) (uJ J 77 f) c its pk_us (by omega) (by omega)) rfl (st2 := []) rfl (by decide) rfl rfl rfl tw_902 tw_904 tw_26 tw_38 tw_905 pd_X7_begins ⟨rfl, rfl⟩ (by rw [hRm]; exact ⟨Nat.le_of_ble_eq_true rfl, Nat.le_of_ble_eq_true rfl, Nat.le_of_ble_eq_true rfl, Nat.le_of_ble_eq_true rfl⟩) (Nat.le_of_ble_eq_true rfl) dX7_goes_229 ?_
                        refine g_st (V1 := (upd (upd V 14 (nI c)) 14 (nI (c + 1)))) (I1 := (uI (uI (uI (uI I9 73 (upd (I9 73) its (nI 1))) 71 (upd ((uI I9 73 (upd (I9 73) its (nI 1))) 71) its (nI 0))) 74 (upd ((uI (uI I9 73 (upd (I9 73) its (nI 1))) 71 (upd ((uI I9 73 (upd (I9 73) its (nI 1))) 71) its (nI 0))) 74) c (I 21 its))) 76 (upd ((uI (uI (uI I9 73 (upd (I9 73) its (nI 1))) 71 (upd ((uI I9 73 (upd (I9 73) its (nI 1))) 71) its (nI 0))) 74 (upd ((uI (uI I9 73 (upd (I9 73) its (nI 1))) 71 (upd ((uI I9 73 (upd (I9 73) its (nI 1))) 71) its (nI 0))) 74) c (I 21 its))) 76) c (nI 0)))) (J1 := (sJ (sJ (sJ (sJ (uJ J 77 f) 77 (4 * c + 0) 0) 77 (4 * c + 1) 0) 77 (4 * c + 2) 0) 77 (4 * c + 3) 0)) rfl (by rw [show (uI (uI I9 73 (upd (I9 73) its (nI 1))) 71 (upd ((uI I9 73 (upd (I9 73) its (nI 1))) 71) its (nI 0))) 69 its = I 21 its from congrFun ((hK9 69 (by omega)).trans m69) its]) rfl ?_
                        refine g_aload_n hC dX7_goes_232 rfl 5 rfl ?_
                        refine gf_X7_88 hC dX7_goes_233 ?_
                        refine g_aload_n hC dX7_goes_236 rfl 5 rfl ?_
                        refine gf_X7_159 hC dX7_goes_237 ?_
                        refine g_eqI (x' := nI (c + 1)) (by rw [pk_us]) ?_
                        refine g_iconst (v := nI 1) hC dX7_goes_240 (by decide) ?_
                        refine g_isub hC dX7_goes_241 ?_
                        refine g_eqI (x' := nI c) (nI_s1 rfl) ?_
                        refine g_aload_n hC dX7_goes_242 rfl 5 rfl ?_
                        refine gf_X7_69 hC dX7_goes_243 ?_
                        refine g_iload_n hC dX7_goes_246 rfl 3 rfl ?_
                        refine n_iald hC 69 aa_69 its (show its < 100 by omega) dX7_goes_247 ?_
                        refine g_eqI (x' := I 21 its) (by rw [uI_n (by decide), uI_n (by decide), uI_n (by decide), uI_n (by decide), hK9 69 (by omega), m69]) ?_
                        refine n_iast hC 75 aa_75 c (show c < 100 by omega) dX7_goes_248 ?_
                        refine g_aload_n hC dX7_goes_249 rfl 5 rfl ?_
                        refine gf_X7_91 hC dX7_goes_250 ?_
                        refine g_aload_n hC dX7_goes_253 rfl 5 rfl ?_
                        refine gf_X7_159 hC dX7_goes_254 ?_
                        refine g_eqI (x' := nI (c + 1)) (by rw [pk_us]) ?_
                        refine g_iconst (v := nI 1) hC dX7_goes_257 (by decide) ?_
                        refine g_isub hC dX7_goes_258 ?_
                        refine g_eqI (x' := nI c) (nI_s1 rfl) ?_
                        refine g_dup2 hC dX7_goes_259 rfl rfl ?_
                        refine n_iald hC 76 aa_76 c (show c < 100 by omega) dX7_goes_260 ?_
                        refine g_eqI (x' := nI 0) (by rw [uI_n (by decide), uI_s, pk_us]) ?_
                        refine g_iconst (v := nI 1) hC dX7_goes_261 (by decide) ?_
                        refine g_iadd hC dX7_goes_262 ?_
                        refine g_eqI (x' := nI (0 + 1)) (nI_add _ _) ?_
                        refine n_iast hC 76 aa_76 c (show c < 100 by omega) dX7_goes_263 ?_
                        refine g_iload_n hC dX7_goes_264 rfl 3 rfl ?_
                        refine g_istore_n hC [(2, .int (nI its)), (6, .int (nI 0)), (5, .int (I (35 + tn (I 19 a)) (tn (I 19 its)))), (4, .int ((I 21 its) - (I 21 a))), (3, .int (nI its)), (0, .ref (G.2.1 7)), (1, .int (nI plate))] dX7_goes_265 rfl (by decide) rfl ?_
                        refine g_aload_n hC dX7_goes_266 rfl 5 rfl ?_
                        refine gf_X7_79 hC dX7_goes_267 ?_
                        refine g_iload_n hC dX7_goes_270 rfl 4 rfl ?_
                        refine g_aload_n hC dX7_goes_271 rfl 5 rfl ?_
                        refine gf_X7_159 hC dX7_goes_272 ?_
                        refine g_eqI (x' := nI (c + 1)) (by rw [pk_us]) ?_
                        refine g_iconst (v := nI 1) hC dX7_goes_275 (by decide) ?_
                        refine g_isub hC dX7_goes_276 ?_
                        refine g_eqI (x' := nI c) (nI_s1 rfl) ?_
                        refine n_iast hC 72 aa_72 its (show its < 100 by omega) dX7_goes_277 ?_
                        have hJb : (sJ (sJ (sJ (sJ (uJ J 77 f) 77 (4 * c + 0) 0) 77 (4 * c + 1) 0) 77 (4 * c + 2) 0) 77 (4 * c + 3) 0) = uJ J 77 (fB f c) := sJ4 J f
                        refine g_st (V1 := (upd V 14 (nI (c + 1)))) (I1 := (mbI I9 its c (I 21 its))) (J1 := (uJ J 77 (fB f c))) (upd_upd _ _ _ _) rfl hJb ?_
                        refine g_aload_n hC dX7_goes_278 rfl 5 rfl ?_
                        refine g_iload_n hC dX7_goes_279 rfl 6 rfl ?_
                        refine g_cVr hC [.int (nI plate)] 7 (m_X7_nextReading hl hG (upd V 14 (nI (c + 1))) (mbI I9 its c (I 21 its)) (uJ J 77 (fB f c)) n plate ((pk_un (by decide)).trans v13) hn (mI_x hmI (fun a ha => gK_b hK9 a (by omega)))) rfl (by decide) rfl rfl rfl tw_877 tw_879 tw_20 tw_38 tw_880 pd_X7_nextReading ⟨rfl, rfl⟩ (by rw [hRm]; exact ⟨Nat.le_of_ble_eq_true rfl, Nat.le_of_ble_eq_true rfl, Nat.le_of_ble_eq_true rfl, Nat.le_of_ble_eq_true rfl⟩) (Nat.le_of_ble_eq_true rfl) dX7_goes_280 (fun r9 V9 I9 J9 hp9 => ?_)
                        obtain ⟨hVq, hIq, hJq, x2, rfl, hN2⟩ := hp9
                        have hVq := hVq.symm
                        have hIq := hIq.symm
                        have hJq := hJq.symm
                        subst hVq hIq hJq
                        refine g_at rfl rfl (st2 := [.int x2]) rfl ?_
                        refine g_istore_n hC [(3, .int x2), (2, .int (nI its)), (6, .int (nI 0)), (5, .int (I (35 + tn (I 19 a)) (tn (I 19 its)))), (4, .int ((I 21 its) - (I 21 a))), (0, .ref (G.2.1 7)), (1, .int (nI plate))] dX7_goes_283 rfl (by decide) rfl ?_
                        refine g_goto hC 60 dX7_goes_284 (by decide) ?_
                        refine g_lv [0, 1, 5, 6] (lv2 := [(3, .int x2), (2, .int (nI its)), (0, .ref (G.2.1 7)), (1, .int (nI plate))]) rfl ?_
                        exact ih (q + 1) (c + 1) (some its) (bgI I2 c its (I 21 its)) (mbI I9 its c (I 21 its)) (fB f c) x2 (nI its) (by omega) (by rw [hf1]; exact hplb) rfl (gK_b hK9) (gD_s hD9 hpq hqn hqe hqm hqs rfl) (gJ_b hJ9 (by omega)) (gA_s hA9 rfl rfl rfl rfl rfl) (fun b hb => by cases hb; first | exact hqm.1 | exact hap0 _ rfl) hN2 (by omega)
                      · exact absurd c_208 (by decide)
                    · have hfar := Int32.not_le.mp c_179
                      refine g_iload hC dX7_goes_182 1 rfl ?_
                      refine g_iload hC dX7_goes_184 0 rfl ?_
                      refine g_iconst (v := nI 3) hC dX7_goes_186 (by decide) ?_
                      refine g_iload hC dX7_goes_187 0 rfl ?_
                      refine g_imul hC dX7_goes_189 ?_
                      refine g_bipush (v := nI 10) hC dX7_goes_190 (by decide) ?_
                      refine g_iadd hC dX7_goes_192 ?_
                      refine g_cS hC [.int ((I 21 its) - (I 21 a)), .int (I (35 + tn (I 19 a)) (tn (I 19 its))), .int (((nI 3) * (I (35 + tn (I 19 a)) (tn (I 19 its)))) + (nI 10))] (m_X7_in hl hG (upd V 14 (nI c)) (uI (uI I9 73 (upd (I9 73) its (nI 1))) 71 (upd ((uI I9 73 (upd (I9 73) its (nI 1))) 71) its (nI 0))) (uJ J 77 f) ((I 21 its) - (I 21 a)) (I (35 + tn (I 19 a)) (tn (I 19 its))) (((nI 3) * (I (35 + tn (I 19 a)) (tn (I 19 its)))) + (nI 10))) rfl (st2 := [.int ((if rgB ((I 21 its) - (I 21 a)) (I (35 + tn (I 19 a)) (tn (I 19 its))) (((nI 3) * (I (35 + tn (I 19 a)) (tn (I 19 its)))) + (nI 10)) = true then nI 1 else nI 0))]) rfl rfl tw_819 tw_820 tw_38 tw_821 pd_X7_in ⟨rfl, rfl⟩ (by rw [hRm]; exact ⟨Nat.le_of_ble_eq_true rfl, Nat.le_of_ble_eq_true rfl, Nat.le_of_ble_eq_true rfl, Nat.le_of_ble_eq_true rfl⟩) (Nat.le_of_ble_eq_true rfl) dX7_goes_193 ?_
                      refine g_if_eq hC 203 dX7_goes_196 (by decide) (fun c_196 => ?_) (fun c_196 => ?_)
                      · have e_196 := b10_f c_196
                        have hgo : ¬ gO I2 a its = true := by intro z; have z2 : rgB (I 21 its - I 21 a) (I (35 + tn (I 19 a)) (tn (I 19 its))) (nI 3 * I (35 + tn (I 19 a)) (tn (I 19 its)) + nI 10) = true := (by unfold gO at z; unfold rgB; rw [e19, e21, hy2 (35 + tn (I 19 a)) (by omega)] at z; simp only [Bool.and_eq_true, decide_eq_true_eq] at z ⊢; exact ⟨z.2.1, Int32.not_lt.mp z.2.2⟩); rw [z2] at e_196; exact absurd e_196 (by decide)
                        have hplb : plc nr ns c (some a) I2 its = (c + 1, some its, bgI I2 c its (I 21 its)) := by rw [← e21]; exact (if_neg hdb).trans (if_neg hgo)
                        refine g_iconst (v := nI 0) hC dX7_goes_203 (by decide) ?_
                        refine g_istore hC [(6, .int (nI 0)), (5, .int (I (35 + tn (I 19 a)) (tn (I 19 its)))), (4, .int ((I 21 its) - (I 21 a))), (3, .int (nI its)), (2, .int (nI a)), (0, .ref (G.2.1 7)), (1, .int (nI plate))] dX7_goes_204 (by decide) rfl ?_
                        refine g_iload hC dX7_goes_206 0 rfl ?_
                        refine g_if_eq hC 227 dX7_goes_208 (by decide) (fun c_208 => ?_) (fun c_208 => ?_)
                        · refine g_aload_n hC dX7_goes_227 rfl 5 rfl ?_
                          refine g_iload_n hC dX7_goes_228 rfl 3 rfl ?_
                          refine g_cV hC [.int (nI its)] 7 (m_X7_begins hl hG (upd V 14 (nI c)) (uI (uI I9 73 (upd (I9 73) its (nI 1))) 71 (upd ((uI I9 73 (upd (I9 73) its (nI 1))) 71) its (nI 0))) (uJ J 77 f) c its pk_us (by omega) (by omega)) rfl (st2 := []) rfl (by decide) rfl rfl rfl tw_902 tw_904 tw_26 tw_38 tw_905 pd_X7_begins ⟨rfl, rfl⟩ (by rw [hRm]; exact ⟨Nat.le_of_ble_eq_true rfl, Nat.le_of_ble_eq_true rfl, Nat.le_of_ble_eq_true rfl, Nat.le_of_ble_eq_true rfl⟩) (Nat.le_of_ble_eq_true rfl) dX7_goes_229 ?_
                          refine g_st (V1 := (upd (upd V 14 (nI c)) 14 (nI (c + 1)))) (I1 := (uI (uI (uI (uI I9 73 (upd (I9 73) its (nI 1))) 71 (upd ((uI I9 73 (upd (I9 73) its (nI 1))) 71) its (nI 0))) 74 (upd ((uI (uI I9 73 (upd (I9 73) its (nI 1))) 71 (upd ((uI I9 73 (upd (I9 73) its (nI 1))) 71) its (nI 0))) 74) c (I 21 its))) 76 (upd ((uI (uI (uI I9 73 (upd (I9 73) its (nI 1))) 71 (upd ((uI I9 73 (upd (I9 73) its (nI 1))) 71) its (nI 0))) 74 (upd ((uI (uI I9 73 (upd (I9 73) its (nI 1))) 71 (upd ((uI I9 73 (upd (I9 73) its (nI 1))) 71) its (nI 0))) 74) c (I 21 its))) 76) c (nI 0)))) (J1 := (sJ (sJ (sJ (sJ (uJ J 77 f) 77 (4 * c + 0) 0) 77 (4 * c + 1) 0) 77 (4 * c + 2) 0) 77 (4 * c + 3) 0)) rfl (by rw [show (uI (uI I9 73 (upd (I9 73) its (nI 1))) 71 (upd ((uI I9 73 (upd (I9 73) its (nI 1))) 71) its (nI 0))) 69 its = I 21 its from congrFun ((hK9 69 (by omega)).trans m69) its]) rfl ?_
                          refine g_aload_n hC dX7_goes_232 rfl 5 rfl ?_
                          refine gf_X7_88 hC dX7_goes_233 ?_
                          refine g_aload_n hC dX7_goes_236 rfl 5 rfl ?_
                          refine gf_X7_159 hC dX7_goes_237 ?_
                          refine g_eqI (x' := nI (c + 1)) (by rw [pk_us]) ?_
                          refine g_iconst (v := nI 1) hC dX7_goes_240 (by decide) ?_
                          refine g_isub hC dX7_goes_241 ?_
                          refine g_eqI (x' := nI c) (nI_s1 rfl) ?_
                          refine g_aload_n hC dX7_goes_242 rfl 5 rfl ?_
                          refine gf_X7_69 hC dX7_goes_243 ?_
                          refine g_iload_n hC dX7_goes_246 rfl 3 rfl ?_
                          refine n_iald hC 69 aa_69 its (show its < 100 by omega) dX7_goes_247 ?_
                          refine g_eqI (x' := I 21 its) (by rw [uI_n (by decide), uI_n (by decide), uI_n (by decide), uI_n (by decide), hK9 69 (by omega), m69]) ?_
                          refine n_iast hC 75 aa_75 c (show c < 100 by omega) dX7_goes_248 ?_
                          refine g_aload_n hC dX7_goes_249 rfl 5 rfl ?_
                          refine gf_X7_91 hC dX7_goes_250 ?_
                          refine g_aload_n hC dX7_goes_253 rfl 5 rfl ?_
                          refine gf_X7_159 hC dX7_goes_254 ?_
                          refine g_eqI (x' := nI (c + 1)) (by rw [pk_us]) ?_
                          refine g_iconst (v := nI 1) hC dX7_goes_257 (by decide) ?_
                          refine g_isub hC dX7_goes_258 ?_
                          refine g_eqI (x' := nI c) (nI_s1 rfl) ?_
                          refine g_dup2 hC dX7_goes_259 rfl rfl ?_
                          refine n_iald hC 76 aa_76 c (show c < 100 by omega) dX7_goes_260 ?_
                          refine g_eqI (x' := nI 0) (by rw [uI_n (by decide), uI_s, pk_us]) ?_
                          refine g_iconst (v := nI 1) hC dX7_goes_261 (by decide) ?_
                          refine g_iadd hC dX7_goes_262 ?_
                          refine g_eqI (x' := nI (0 + 1)) (nI_add _ _) ?_
                          refine n_iast hC 76 aa_76 c (show c < 100 by omega) dX7_goes_263 ?_
                          refine g_iload_n hC dX7_goes_264 rfl 3 rfl ?_
                          refine g_istore_n hC [(2, .int (nI its)), (6, .int (nI 0)), (5, .int (I (35 + tn (I 19 a)) (tn (I 19 its)))), (4, .int ((I 21 its) - (I 21 a))), (3, .int (nI its)), (0, .ref (G.2.1 7)), (1, .int (nI plate))] dX7_goes_265 rfl (by decide) rfl ?_
                          refine g_aload_n hC dX7_goes_266 rfl 5 rfl ?_
                          refine gf_X7_79 hC dX7_goes_267 ?_
                          refine g_iload_n hC dX7_goes_270 rfl 4 rfl ?_
                          refine g_aload_n hC dX7_goes_271 rfl 5 rfl ?_
                          refine gf_X7_159 hC dX7_goes_272 ?_
                          refine g_eqI (x' := nI (c + 1)) (by rw [pk_us]) ?_
                          refine g_iconst (v := nI 1) hC dX7_goes_275 (by decide) ?_
                          refine g_isub hC dX7_goes_276 ?_
                          refine g_eqI (x' := nI c) (nI_s1 rfl) ?_
                          refine n_iast hC 72 aa_72 its (show its < 100 by omega) dX7_goes_277 ?_
                          have hJb : (sJ (sJ (sJ (sJ (uJ J 77 f) 77 (4 * c + 0) 0) 77 (4 * c + 1) 0) 77 (4 * c + 2) 0) 77 (4 * c + 3) 0) = uJ J 77 (fB f c) := sJ4 J f
                          refine g_st (V1 := (upd V 14 (nI (c + 1)))) (I1 := (mbI I9 its c (I 21 its))) (J1 := (uJ J 77 (fB f c))) (upd_upd _ _ _ _) rfl hJb ?_
                          refine g_aload_n hC dX7_goes_278 rfl 5 rfl ?_
                          refine g_iload_n hC dX7_goes_279 rfl 6 rfl ?_
                          refine g_cVr hC [.int (nI plate)] 7 (m_X7_nextReading hl hG (upd V 14 (nI (c + 1))) (mbI I9 its c (I 21 its)) (uJ J 77 (fB f c)) n plate ((pk_un (by decide)).trans v13) hn (mI_x hmI (fun a ha => gK_b hK9 a (by omega)))) rfl (by decide) rfl rfl rfl tw_877 tw_879 tw_20 tw_38 tw_880 pd_X7_nextReading ⟨rfl, rfl⟩ (by rw [hRm]; exact ⟨Nat.le_of_ble_eq_true rfl, Nat.le_of_ble_eq_true rfl, Nat.le_of_ble_eq_true rfl, Nat.le_of_ble_eq_true rfl⟩) (Nat.le_of_ble_eq_true rfl) dX7_goes_280 (fun r9 V9 I9 J9 hp9 => ?_)
                          obtain ⟨hVq, hIq, hJq, x2, rfl, hN2⟩ := hp9
                          have hVq := hVq.symm
                          have hIq := hIq.symm
                          have hJq := hJq.symm
                          subst hVq hIq hJq
                          refine g_at rfl rfl (st2 := [.int x2]) rfl ?_
                          refine g_istore_n hC [(3, .int x2), (2, .int (nI its)), (6, .int (nI 0)), (5, .int (I (35 + tn (I 19 a)) (tn (I 19 its)))), (4, .int ((I 21 its) - (I 21 a))), (0, .ref (G.2.1 7)), (1, .int (nI plate))] dX7_goes_283 rfl (by decide) rfl ?_
                          refine g_goto hC 60 dX7_goes_284 (by decide) ?_
                          refine g_lv [0, 1, 5, 6] (lv2 := [(3, .int x2), (2, .int (nI its)), (0, .ref (G.2.1 7)), (1, .int (nI plate))]) rfl ?_
                          exact ih (q + 1) (c + 1) (some its) (bgI I2 c its (I 21 its)) (mbI I9 its c (I 21 its)) (fB f c) x2 (nI its) (by omega) (by rw [hf1]; exact hplb) rfl (gK_b hK9) (gD_s hD9 hpq hqn hqe hqm hqs rfl) (gJ_b hJ9 (by omega)) (gA_s hA9 rfl rfl rfl rfl rfl) (fun b hb => by cases hb; first | exact hqm.1 | exact hap0 _ rfl) hN2 (by omega)
                        · exact absurd c_208 (by decide)
                      · have e_196 := b10_t c_196
                        have hgo : gO I2 a its = true := by unfold rgB at e_196; simp only [Bool.and_eq_true, decide_eq_true_eq] at e_196; refine gO_t ?_ ?_ ?_ <;> rw [e19, hy2 (35 + tn (I 19 a)) (by omega)]; exact hfar; rw [e21]; exact e_196.1; rw [e21]; exact Int32.not_lt.mpr e_196.2
                        have hplg : plc nr ns c (some a) I2 its = (c, some its, pw nr ns (goI I2 its (c - 1) (I 21 its)) a its (c - 1)) := by rw [← e21]; exact (if_neg hdb).trans (if_pos hgo)
                        have hap : I 20 a = nI plate := hap0 a rfl
                        have hfar9 : fD I (tn (I 19 a)) (tn (I 19 its)) < 1000000 := by have z := Int32.lt_iff_toInt_lt.mp hfar; have z2 : (nI 1000000).toInt = 1000000 := (by decide); show (I (35 + tn (I 19 a)) (tn (I 19 its))).toInt < 1000000; omega
                        refine g_iconst (v := nI 1) hC dX7_goes_199 (by decide) ?_
                        refine g_goto hC 204 dX7_goes_200 (by decide) ?_
                        refine g_istore hC [(6, .int (nI 1)), (5, .int (I (35 + tn (I 19 a)) (tn (I 19 its)))), (4, .int ((I 21 its) - (I 21 a))), (3, .int (nI its)), (2, .int (nI a)), (0, .ref (G.2.1 7)), (1, .int (nI plate))] dX7_goes_204 (by decide) rfl ?_
                        refine g_iload hC dX7_goes_206 0 rfl ?_
                        refine g_if_eq hC 227 dX7_goes_208 (by decide) (fun c_208 => ?_) (fun c_208 => ?_)
                        · exact absurd c_208 (by decide)
                        · refine g_aload_n hC dX7_goes_211 rfl 5 rfl ?_
                          refine g_aload_n hC dX7_goes_212 rfl 5 rfl ?_
                          refine gf_X7_159 hC dX7_goes_213 ?_
                          refine g_eqI (x' := nI c) (by rw [pk_us]) ?_
                          refine g_iconst (v := nI 1) hC dX7_goes_216 (by decide) ?_
                          refine g_isub hC dX7_goes_217 ?_
                          refine g_eqI (x' := nI (c - 1)) (nI_s1 (by omega)) ?_
                          refine g_iload_n hC dX7_goes_218 rfl 6 rfl ?_
                          refine g_iload_n hC dX7_goes_219 rfl 4 rfl ?_
                          refine g_iload_n hC dX7_goes_220 rfl 3 rfl ?_
                          have hK9S : gK I (uI (uI I9 73 (upd (I9 73) its (nI 1))) 71 (upd ((uI I9 73 (upd (I9 73) its (nI 1))) 71) its (nI 0))) := gK_s (gK_s hK9 (by omega)) (by omega)
                          have hPg : pR (goI I2 its (c - 1) (I 21 its)) (c - 1) ((uJ J 77 f) 77) (180000 * p) := by rw [uJ_s]; exact pR_o (hJ9 (c - 1) (by omega)).2.2.2 (Nat.le_refl _) (fun o ho => by rcases (show o = 0 ∨ o = 1 ∨ o = 2 ∨ o = 3 by omega) with rfl | rfl | rfl | rfl <;> rfl) (fun _ _ => rfl)
                          have hfarS : fD (uI (uI I9 73 (upd (I9 73) its (nI 1))) 71 (upd ((uI I9 73 (upd (I9 73) its (nI 1))) 71) its (nI 0))) (tn ((uI (uI I9 73 (upd (I9 73) its (nI 1))) 71 (upd ((uI I9 73 (upd (I9 73) its (nI 1))) 71) its (nI 0))) 19 a)) (tn ((uI (uI I9 73 (upd (I9 73) its (nI 1))) 71 (upd ((uI I9 73 (upd (I9 73) its (nI 1))) 71) its (nI 0))) 19 its)) = fD I (tn (I 19 a)) (tn (I 19 its)) := by unfold fD; rw [hK9S 19 (by omega), hK9S (35 + tn (I 19 a)) (by omega)]
                          refine g_cVr hC [.int (nI (c - 1)), .int (nI plate), .int (nI a), .int (nI its)] 7 (m_X7_pays hl hG (upd V 14 (nI c)) (uI (uI I9 73 (upd (I9 73) its (nI 1))) 71 (upd ((uI I9 73 (upd (I9 73) its (nI 1))) 71) its (nI 0))) (uJ J 77 f) nr n ns (c - 1) plate a its (180000 * p) (goI I2 its (c - 1) (I 21 its)) ((pk_un (by decide)).trans v10) ((pk_un (by decide)).trans v12) (hyS0 hy2 hK9S) (mI_x hmI (fun b hb => (hK9S b (by omega)))) (mF_x (hmF (by omega)) (fun b hb => (hK9S b (by omega)))) (dK_x hK (fun b hb => (hK9S b (by omega)))) (wfC_y hw (fun b hb => (hK9S b (by omega)))) (wT_x hW (fun b hb => (hK9S b (by omega)))) hah1 (by omega) (by omega) ((congrFun (hK9S 20 (by omega)) a).trans hap) hp10 (by omega) hPg (by rw [hfarS]; exact hfar9)) rfl (by decide) rfl rfl rfl tw_885 tw_887 tw_22 tw_38 tw_888 pd_X7_pays ⟨rfl, rfl⟩ (by rw [hRm]; exact ⟨Nat.le_of_ble_eq_true rfl, Nat.le_of_ble_eq_true rfl, Nat.le_of_ble_eq_true rfl, Nat.le_of_ble_eq_true rfl⟩) (Nat.le_of_ble_eq_true rfl) dX7_goes_221 (fun r9 V9 I9 J9 hp9 => ?_)
                          obtain ⟨rfl, hV9, hI9, f7, rfl, hP7, hO7⟩ := hp9
                          have hV9 := hV9.symm
                          have hI9 := hI9.symm
                          subst hV9 hI9
                          rw [uJ_s] at hO7
                          refine g_at rfl rfl (st2 := []) rfl ?_
                          refine g_goto hC 232 dX7_goes_224 (by decide) ?_
                          refine g_aload_n hC dX7_goes_232 rfl 5 rfl ?_
                          refine gf_X7_88 hC dX7_goes_233 ?_
                          refine g_aload_n hC dX7_goes_236 rfl 5 rfl ?_
                          refine gf_X7_159 hC dX7_goes_237 ?_
                          refine g_eqI (x' := nI c) (by rw [pk_us]) ?_
                          refine g_iconst (v := nI 1) hC dX7_goes_240 (by decide) ?_
                          refine g_isub hC dX7_goes_241 ?_
                          refine g_eqI (x' := nI (c - 1)) (nI_s1 (by omega)) ?_
                          refine g_aload_n hC dX7_goes_242 rfl 5 rfl ?_
                          refine gf_X7_69 hC dX7_goes_243 ?_
                          refine g_iload_n hC dX7_goes_246 rfl 3 rfl ?_
                          refine n_iald hC 69 aa_69 its (show its < 100 by omega) dX7_goes_247 ?_
                          refine g_eqI (x' := I 21 its) (by rw [uI_n (by decide), uI_n (by decide), hK9 69 (by omega), m69]) ?_
                          refine n_iast hC 75 aa_75 (c - 1) (show c - 1 < 100 by omega) dX7_goes_248 ?_
                          refine g_aload_n hC dX7_goes_249 rfl 5 rfl ?_
                          refine gf_X7_91 hC dX7_goes_250 ?_
                          refine g_aload_n hC dX7_goes_253 rfl 5 rfl ?_
                          refine gf_X7_159 hC dX7_goes_254 ?_
                          refine g_eqI (x' := nI c) (by rw [pk_us]) ?_
                          refine g_iconst (v := nI 1) hC dX7_goes_257 (by decide) ?_
                          refine g_isub hC dX7_goes_258 ?_
                          refine g_eqI (x' := nI (c - 1)) (nI_s1 (by omega)) ?_
                          refine g_dup2 hC dX7_goes_259 rfl rfl ?_
                          refine n_iald hC 76 aa_76 (c - 1) (show c - 1 < 100 by omega) dX7_goes_260 ?_
                          refine g_eqI (x' := I9 76 (c - 1)) (by rw [uI_n (by decide), uI_n (by decide), uI_n (by decide)]) ?_
                          refine g_iconst (v := nI 1) hC dX7_goes_261 (by decide) ?_
                          refine g_iadd hC dX7_goes_262 ?_
                          refine n_iast hC 76 aa_76 (c - 1) (show c - 1 < 100 by omega) dX7_goes_263 ?_
                          refine g_iload_n hC dX7_goes_264 rfl 3 rfl ?_
                          refine g_istore_n hC [(2, .int (nI its)), (6, .int (nI 1)), (5, .int (I (35 + tn (I 19 a)) (tn (I 19 its)))), (4, .int ((I 21 its) - (I 21 a))), (3, .int (nI its)), (0, .ref (G.2.1 7)), (1, .int (nI plate))] dX7_goes_265 rfl (by decide) rfl ?_
                          refine g_aload_n hC dX7_goes_266 rfl 5 rfl ?_
                          refine gf_X7_79 hC dX7_goes_267 ?_
                          refine g_iload_n hC dX7_goes_270 rfl 4 rfl ?_
                          refine g_aload_n hC dX7_goes_271 rfl 5 rfl ?_
                          refine gf_X7_159 hC dX7_goes_272 ?_
                          refine g_eqI (x' := nI c) (by rw [pk_us]) ?_
                          refine g_iconst (v := nI 1) hC dX7_goes_275 (by decide) ?_
                          refine g_isub hC dX7_goes_276 ?_
                          refine g_eqI (x' := nI (c - 1)) (nI_s1 (by omega)) ?_
                          refine n_iast hC 72 aa_72 its (show its < 100 by omega) dX7_goes_277 ?_
                          refine g_st (V1 := (upd V 14 (nI c))) (I1 := (mgI I9 its (c - 1) (I 21 its))) (J1 := (uJ J 77 f7)) rfl rfl (uJ_uJ _ _ _ _) ?_
                          refine g_aload_n hC dX7_goes_278 rfl 5 rfl ?_
                          refine g_iload_n hC dX7_goes_279 rfl 6 rfl ?_
                          refine g_cVr hC [.int (nI plate)] 7 (m_X7_nextReading hl hG (upd V 14 (nI c)) (mgI I9 its (c - 1) (I 21 its)) (uJ J 77 f7) n plate ((pk_un (by decide)).trans v13) hn (mI_x hmI (fun a ha => gK_g hK9 a (by omega)))) rfl (by decide) rfl rfl rfl tw_877 tw_879 tw_20 tw_38 tw_880 pd_X7_nextReading ⟨rfl, rfl⟩ (by rw [hRm]; exact ⟨Nat.le_of_ble_eq_true rfl, Nat.le_of_ble_eq_true rfl, Nat.le_of_ble_eq_true rfl, Nat.le_of_ble_eq_true rfl⟩) (Nat.le_of_ble_eq_true rfl) dX7_goes_280 (fun r9 V9 I9 J9 hp9 => ?_)
                          obtain ⟨hVq, hIq, hJq, x2, rfl, hN2⟩ := hp9
                          have hVq := hVq.symm
                          have hIq := hIq.symm
                          have hJq := hJq.symm
                          subst hVq hIq hJq
                          refine g_at rfl rfl (st2 := [.int x2]) rfl ?_
                          refine g_istore_n hC [(3, .int x2), (2, .int (nI its)), (6, .int (nI 1)), (5, .int (I (35 + tn (I 19 a)) (tn (I 19 its)))), (4, .int ((I 21 its) - (I 21 a))), (0, .ref (G.2.1 7)), (1, .int (nI plate))] dX7_goes_283 rfl (by decide) rfl ?_
                          refine g_goto hC 60 dX7_goes_284 (by decide) ?_
                          refine g_lv [0, 1, 5, 6] (lv2 := [(3, .int x2), (2, .int (nI its)), (0, .ref (G.2.1 7)), (1, .int (nI plate))]) rfl ?_
                          exact ih (q + 1) c (some its) (pw nr ns (goI I2 its (c - 1) (I 21 its)) a its (c - 1)) (mgI I9 its (c - 1) (I 21 its)) f7 x2 (nI its) (by omega) (by rw [hf1]; exact hplg) rfl (gK_g hK9) (gD_s hD9 hpq hqn hqe hqm hqs rfl) (gJ_g hw2 hJ9 (by omega) (pR_le hP7 (by omega)) hO7) (gA_s hA9 rfl rfl rfl (by rw [pw_27 (by omega) (wfC_x hw2 (eqx_go I2 its (c - 1) (I 21 its)))]; rfl) (by rw [pw_27 (by omega) (wfC_x hw2 (eqx_go I2 its (c - 1) (I 21 its)))]; rfl)) (fun b hb => by cases hb; first | exact hqm.1 | exact hap0 _ rfl) hN2 (by omega)
              · refine g_iload hC dX7_goes_149 1 rfl ?_
                refine g_iconst (v := nI 5) hC dX7_goes_151 (by decide) ?_
                refine g_icmp_gt hC 159 dX7_goes_152 (by decide) (fun c_152 => ?_) (fun c_152 => ?_)
                · have hdb : ¬ isD I2 its a = true := by intro z; simp only [isD, e21, Bool.and_eq_true, decide_eq_true_eq] at z; exact z.2 c_152
                  refine g_iconst (v := nI 0) hC dX7_goes_159 (by decide) ?_
                  refine n_zast hC 71 aa_71 its (show its < 100 by omega) rfl dX7_goes_160 ?_
                  refine g_aload_n hC dX7_goes_161 rfl 4 rfl ?_
                  refine gf_X7_76 hC dX7_goes_162 ?_
                  refine g_iload_n hC dX7_goes_165 rfl 2 rfl ?_
                  refine n_zald hC 71 aa_71 its (show its < 100 by omega) dX7_goes_166 ?_
                  refine g_eqI (x' := nI 0) (by rw [uI_s, pk_us]) ?_
                  refine g_if_ne hC 266 dX7_goes_167 (by decide) (fun c_167 => ?_) (fun c_167 => ?_)
                  · exact absurd c_167 (by decide)
                  · refine g_iload_n hC dX7_goes_170 rfl 3 rfl ?_
                    refine g_iconst (v := (-1)) hC dX7_goes_171 (by decide) ?_
                    refine g_icmp_eq hC 203 dX7_goes_172 (by decide) (fun c_172 => ?_) (fun c_172 => ?_)
                    · exact absurd c_172 (nI_m1 (by omega))
                    · refine g_iload hC dX7_goes_175 0 rfl ?_
                      refine g_ldc (v := nI 1000000) hC tw_810 dX7_goes_177 ?_
                      refine g_icmp_ge hC 203 dX7_goes_179 (by decide) (fun c_179 => ?_) (fun c_179 => ?_)
                      · have hgo : ¬ gO I2 a its = true := by refine gO_f1 ?_; rw [e19, hy2 (35 + tn (I 19 a)) (by omega)]; exact Int32.not_lt.mpr c_179
                        have hplb : plc nr ns c (some a) I2 its = (c + 1, some its, bgI I2 c its (I 21 its)) := by rw [← e21]; exact (if_neg hdb).trans (if_neg hgo)
                        refine g_iconst (v := nI 0) hC dX7_goes_203 (by decide) ?_
                        refine g_istore hC [(6, .int (nI 0)), (5, .int (I (35 + tn (I 19 a)) (tn (I 19 its)))), (4, .int ((I 21 its) - (I 21 a))), (3, .int (nI its)), (2, .int (nI a)), (0, .ref (G.2.1 7)), (1, .int (nI plate))] dX7_goes_204 (by decide) rfl ?_
                        refine g_iload hC dX7_goes_206 0 rfl ?_
                        refine g_if_eq hC 227 dX7_goes_208 (by decide) (fun c_208 => ?_) (fun c_208 => ?_)
                        · refine g_aload_n hC dX7_goes_227 rfl 5 rfl ?_
                          refine g_iload_n hC dX7_goes_228 rfl 3 rfl ?_
                          refine g_cV hC [.int (nI its)] 7 (m_X7_begins hl hG (upd V 14 (nI c)) (uI (uI I9 73 (upd (I9 73) its (nI 1))) 71 (upd ((uI I9 73 (upd (I9 73) its (nI 1))) 71) its (nI 0))) (uJ J 77 f) c its pk_us (by omega) (by omega)) rfl (st2 := []) rfl (by decide) rfl rfl rfl tw_902 tw_904 tw_26 tw_38 tw_905 pd_X7_begins ⟨rfl, rfl⟩ (by rw [hRm]; exact ⟨Nat.le_of_ble_eq_true rfl, Nat.le_of_ble_eq_true rfl, Nat.le_of_ble_eq_true rfl, Nat.le_of_ble_eq_true rfl⟩) (Nat.le_of_ble_eq_true rfl) dX7_goes_229 ?_
                          refine g_st (V1 := (upd (upd V 14 (nI c)) 14 (nI (c + 1)))) (I1 := (uI (uI (uI (uI I9 73 (upd (I9 73) its (nI 1))) 71 (upd ((uI I9 73 (upd (I9 73) its (nI 1))) 71) its (nI 0))) 74 (upd ((uI (uI I9 73 (upd (I9 73) its (nI 1))) 71 (upd ((uI I9 73 (upd (I9 73) its (nI 1))) 71) its (nI 0))) 74) c (I 21 its))) 76 (upd ((uI (uI (uI I9 73 (upd (I9 73) its (nI 1))) 71 (upd ((uI I9 73 (upd (I9 73) its (nI 1))) 71) its (nI 0))) 74 (upd ((uI (uI I9 73 (upd (I9 73) its (nI 1))) 71 (upd ((uI I9 73 (upd (I9 73) its (nI 1))) 71) its (nI 0))) 74) c (I 21 its))) 76) c (nI 0)))) (J1 := (sJ (sJ (sJ (sJ (uJ J 77 f) 77 (4 * c + 0) 0) 77 (4 * c + 1) 0) 77 (4 * c + 2) 0) 77 (4 * c + 3) 0)) rfl (by rw [show (uI (uI I9 73 (upd (I9 73) its (nI 1))) 71 (upd ((uI I9 73 (upd (I9 73) its (nI 1))) 71) its (nI 0))) 69 its = I 21 its from congrFun ((hK9 69 (by omega)).trans m69) its]) rfl ?_
                          refine g_aload_n hC dX7_goes_232 rfl 5 rfl ?_
                          refine gf_X7_88 hC dX7_goes_233 ?_
                          refine g_aload_n hC dX7_goes_236 rfl 5 rfl ?_
                          refine gf_X7_159 hC dX7_goes_237 ?_
                          refine g_eqI (x' := nI (c + 1)) (by rw [pk_us]) ?_
                          refine g_iconst (v := nI 1) hC dX7_goes_240 (by decide) ?_
                          refine g_isub hC dX7_goes_241 ?_
                          refine g_eqI (x' := nI c) (nI_s1 rfl) ?_
                          refine g_aload_n hC dX7_goes_242 rfl 5 rfl ?_
                          refine gf_X7_69 hC dX7_goes_243 ?_
                          refine g_iload_n hC dX7_goes_246 rfl 3 rfl ?_
                          refine n_iald hC 69 aa_69 its (show its < 100 by omega) dX7_goes_247 ?_
                          refine g_eqI (x' := I 21 its) (by rw [uI_n (by decide), uI_n (by decide), uI_n (by decide), uI_n (by decide), hK9 69 (by omega), m69]) ?_
                          refine n_iast hC 75 aa_75 c (show c < 100 by omega) dX7_goes_248 ?_
                          refine g_aload_n hC dX7_goes_249 rfl 5 rfl ?_
                          refine gf_X7_91 hC dX7_goes_250 ?_
                          refine g_aload_n hC dX7_goes_253 rfl 5 rfl ?_
                          refine gf_X7_159 hC dX7_goes_254 ?_
                          refine g_eqI (x' := nI (c + 1)) (by rw [pk_us]) ?_
                          refine g_iconst (v := nI 1) hC dX7_goes_257 (by decide) ?_
                          refine g_isub hC dX7_goes_258 ?_
                          refine g_eqI (x' := nI c) (nI_s1 rfl) ?_
                          refine g_dup2 hC dX7_goes_259 rfl rfl ?_
                          refine n_iald hC 76 aa_76 c (show c < 100 by omega) dX7_goes_260 ?_
                          refine g_eqI (x' := nI 0) (by rw [uI_n (by decide), uI_s, pk_us]) ?_
                          refine g_iconst (v := nI 1) hC dX7_goes_261 (by decide) ?_
                          refine g_iadd hC dX7_goes_262 ?_
                          refine g_eqI (x' := nI (0 + 1)) (nI_add _ _) ?_
                          refine n_iast hC 76 aa_76 c (show c < 100 by omega) dX7_goes_263 ?_
                          refine g_iload_n hC dX7_goes_264 rfl 3 rfl ?_
                          refine g_istore_n hC [(2, .int (nI its)), (6, .int (nI 0)), (5, .int (I (35 + tn (I 19 a)) (tn (I 19 its)))), (4, .int ((I 21 its) - (I 21 a))), (3, .int (nI its)), (0, .ref (G.2.1 7)), (1, .int (nI plate))] dX7_goes_265 rfl (by decide) rfl ?_
                          refine g_aload_n hC dX7_goes_266 rfl 5 rfl ?_
                          refine gf_X7_79 hC dX7_goes_267 ?_
                          refine g_iload_n hC dX7_goes_270 rfl 4 rfl ?_
                          refine g_aload_n hC dX7_goes_271 rfl 5 rfl ?_
                          refine gf_X7_159 hC dX7_goes_272 ?_
                          refine g_eqI (x' := nI (c + 1)) (by rw [pk_us]) ?_
                          refine g_iconst (v := nI 1) hC dX7_goes_275 (by decide) ?_
                          refine g_isub hC dX7_goes_276 ?_
                          refine g_eqI (x' := nI c) (nI_s1 rfl) ?_
                          refine n_iast hC 72 aa_72 its (show its < 100 by omega) dX7_goes_277 ?_
                          have hJb : (sJ (sJ (sJ (sJ (uJ J 77 f) 77 (4 * c + 0) 0) 77 (4 * c + 1) 0) 77 (4 * c + 2) 0) 77 (4 * c + 3) 0) = uJ J 77 (fB f c) := sJ4 J f
                          refine g_st (V1 := (upd V 14 (nI (c + 1)))) (I1 := (mbI I9 its c (I 21 its))) (J1 := (uJ J 77 (fB f c))) (upd_upd _ _ _ _) rfl hJb ?_
                          refine g_aload_n hC dX7_goes_278 rfl 5 rfl ?_
                          refine g_iload_n hC dX7_goes_279 rfl 6 rfl ?_
                          refine g_cVr hC [.int (nI plate)] 7 (m_X7_nextReading hl hG (upd V 14 (nI (c + 1))) (mbI I9 its c (I 21 its)) (uJ J 77 (fB f c)) n plate ((pk_un (by decide)).trans v13) hn (mI_x hmI (fun a ha => gK_b hK9 a (by omega)))) rfl (by decide) rfl rfl rfl tw_877 tw_879 tw_20 tw_38 tw_880 pd_X7_nextReading ⟨rfl, rfl⟩ (by rw [hRm]; exact ⟨Nat.le_of_ble_eq_true rfl, Nat.le_of_ble_eq_true rfl, Nat.le_of_ble_eq_true rfl, Nat.le_of_ble_eq_true rfl⟩) (Nat.le_of_ble_eq_true rfl) dX7_goes_280 (fun r9 V9 I9 J9 hp9 => ?_)
                          obtain ⟨hVq, hIq, hJq, x2, rfl, hN2⟩ := hp9
                          have hVq := hVq.symm
                          have hIq := hIq.symm
                          have hJq := hJq.symm
                          subst hVq hIq hJq
                          refine g_at rfl rfl (st2 := [.int x2]) rfl ?_
                          refine g_istore_n hC [(3, .int x2), (2, .int (nI its)), (6, .int (nI 0)), (5, .int (I (35 + tn (I 19 a)) (tn (I 19 its)))), (4, .int ((I 21 its) - (I 21 a))), (0, .ref (G.2.1 7)), (1, .int (nI plate))] dX7_goes_283 rfl (by decide) rfl ?_
                          refine g_goto hC 60 dX7_goes_284 (by decide) ?_
                          refine g_lv [0, 1, 5, 6] (lv2 := [(3, .int x2), (2, .int (nI its)), (0, .ref (G.2.1 7)), (1, .int (nI plate))]) rfl ?_
                          exact ih (q + 1) (c + 1) (some its) (bgI I2 c its (I 21 its)) (mbI I9 its c (I 21 its)) (fB f c) x2 (nI its) (by omega) (by rw [hf1]; exact hplb) rfl (gK_b hK9) (gD_s hD9 hpq hqn hqe hqm hqs rfl) (gJ_b hJ9 (by omega)) (gA_s hA9 rfl rfl rfl rfl rfl) (fun b hb => by cases hb; first | exact hqm.1 | exact hap0 _ rfl) hN2 (by omega)
                        · exact absurd c_208 (by decide)
                      · have hfar := Int32.not_le.mp c_179
                        refine g_iload hC dX7_goes_182 1 rfl ?_
                        refine g_iload hC dX7_goes_184 0 rfl ?_
                        refine g_iconst (v := nI 3) hC dX7_goes_186 (by decide) ?_
                        refine g_iload hC dX7_goes_187 0 rfl ?_
                        refine g_imul hC dX7_goes_189 ?_
                        refine g_bipush (v := nI 10) hC dX7_goes_190 (by decide) ?_
                        refine g_iadd hC dX7_goes_192 ?_
                        refine g_cS hC [.int ((I 21 its) - (I 21 a)), .int (I (35 + tn (I 19 a)) (tn (I 19 its))), .int (((nI 3) * (I (35 + tn (I 19 a)) (tn (I 19 its)))) + (nI 10))] (m_X7_in hl hG (upd V 14 (nI c)) (uI (uI I9 73 (upd (I9 73) its (nI 1))) 71 (upd ((uI I9 73 (upd (I9 73) its (nI 1))) 71) its (nI 0))) (uJ J 77 f) ((I 21 its) - (I 21 a)) (I (35 + tn (I 19 a)) (tn (I 19 its))) (((nI 3) * (I (35 + tn (I 19 a)) (tn (I 19 its)))) + (nI 10))) rfl (st2 := [.int ((if rgB ((I 21 its) - (I 21 a)) (I (35 + tn (I 19 a)) (tn (I 19 its))) (((nI 3) * (I (35 + tn (I 19 a)) (tn (I 19 its)))) + (nI 10)) = true then nI 1 else nI 0))]) rfl rfl tw_819 tw_820 tw_38 tw_821 pd_X7_in ⟨rfl, rfl⟩ (by rw [hRm]; exact ⟨Nat.le_of_ble_eq_true rfl, Nat.le_of_ble_eq_true rfl, Nat.le_of_ble_eq_true rfl, Nat.le_of_ble_eq_true rfl⟩) (Nat.le_of_ble_eq_true rfl) dX7_goes_193 ?_
                        refine g_if_eq hC 203 dX7_goes_196 (by decide) (fun c_196 => ?_) (fun c_196 => ?_)
                        · have e_196 := b10_f c_196
                          have hgo : ¬ gO I2 a its = true := by intro z; have z2 : rgB (I 21 its - I 21 a) (I (35 + tn (I 19 a)) (tn (I 19 its))) (nI 3 * I (35 + tn (I 19 a)) (tn (I 19 its)) + nI 10) = true := (by unfold gO at z; unfold rgB; rw [e19, e21, hy2 (35 + tn (I 19 a)) (by omega)] at z; simp only [Bool.and_eq_true, decide_eq_true_eq] at z ⊢; exact ⟨z.2.1, Int32.not_lt.mp z.2.2⟩); rw [z2] at e_196; exact absurd e_196 (by decide)
                          have hplb : plc nr ns c (some a) I2 its = (c + 1, some its, bgI I2 c its (I 21 its)) := by rw [← e21]; exact (if_neg hdb).trans (if_neg hgo)
                          refine g_iconst (v := nI 0) hC dX7_goes_203 (by decide) ?_
                          refine g_istore hC [(6, .int (nI 0)), (5, .int (I (35 + tn (I 19 a)) (tn (I 19 its)))), (4, .int ((I 21 its) - (I 21 a))), (3, .int (nI its)), (2, .int (nI a)), (0, .ref (G.2.1 7)), (1, .int (nI plate))] dX7_goes_204 (by decide) rfl ?_
                          refine g_iload hC dX7_goes_206 0 rfl ?_
                          refine g_if_eq hC 227 dX7_goes_208 (by decide) (fun c_208 => ?_) (fun c_208 => ?_)
                          · refine g_aload_n hC dX7_goes_227 rfl 5 rfl ?_
                            refine g_iload_n hC dX7_goes_228 rfl 3 rfl ?_
                            refine g_cV hC [.int (nI its)] 7 (m_X7_begins hl hG (upd V 14 (nI c)) (uI (uI I9 73 (upd (I9 73) its (nI 1))) 71 (upd ((uI I9 73 (upd (I9 73) its (nI 1))) 71) its (nI 0))) (uJ J 77 f) c its pk_us (by omega) (by omega)) rfl (st2 := []) rfl (by decide) rfl rfl rfl tw_902 tw_904 tw_26 tw_38 tw_905 pd_X7_begins ⟨rfl, rfl⟩ (by rw [hRm]; exact ⟨Nat.le_of_ble_eq_true rfl, Nat.le_of_ble_eq_true rfl, Nat.le_of_ble_eq_true rfl, Nat.le_of_ble_eq_true rfl⟩) (Nat.le_of_ble_eq_true rfl) dX7_goes_229 ?_
                            refine g_st (V1 := (upd (upd V 14 (nI c)) 14 (nI (c + 1)))) (I1 := (uI (uI (uI (uI I9 73 (upd (I9 73) its (nI 1))) 71 (upd ((uI I9 73 (upd (I9 73) its (nI 1))) 71) its (nI 0))) 74 (upd ((uI (uI I9 73 (upd (I9 73) its (nI 1))) 71 (upd ((uI I9 73 (upd (I9 73) its (nI 1))) 71) its (nI 0))) 74) c (I 21 its))) 76 (upd ((uI (uI (uI I9 73 (upd (I9 73) its (nI 1))) 71 (upd ((uI I9 73 (upd (I9 73) its (nI 1))) 71) its (nI 0))) 74 (upd ((uI (uI I9 73 (upd (I9 73) its (nI 1))) 71 (upd ((uI I9 73 (upd (I9 73) its (nI 1))) 71) its (nI 0))) 74) c (I 21 its))) 76) c (nI 0)))) (J1 := (sJ (sJ (sJ (sJ (uJ J 77 f) 77 (4 * c + 0) 0) 77 (4 * c + 1) 0) 77 (4 * c + 2) 0) 77 (4 * c + 3) 0)) rfl (by rw [show (uI (uI I9 73 (upd (I9 73) its (nI 1))) 71 (upd ((uI I9 73 (upd (I9 73) its (nI 1))) 71) its (nI 0))) 69 its = I 21 its from congrFun ((hK9 69 (by omega)).trans m69) its]) rfl ?_
                            refine g_aload_n hC dX7_goes_232 rfl 5 rfl ?_
                            refine gf_X7_88 hC dX7_goes_233 ?_
                            refine g_aload_n hC dX7_goes_236 rfl 5 rfl ?_
                            refine gf_X7_159 hC dX7_goes_237 ?_
                            refine g_eqI (x' := nI (c + 1)) (by rw [pk_us]) ?_
                            refine g_iconst (v := nI 1) hC dX7_goes_240 (by decide) ?_
                            refine g_isub hC dX7_goes_241 ?_
                            refine g_eqI (x' := nI c) (nI_s1 rfl) ?_
                            refine g_aload_n hC dX7_goes_242 rfl 5 rfl ?_
                            refine gf_X7_69 hC dX7_goes_243 ?_
                            refine g_iload_n hC dX7_goes_246 rfl 3 rfl ?_
                            refine n_iald hC 69 aa_69 its (show its < 100 by omega) dX7_goes_247 ?_
                            refine g_eqI (x' := I 21 its) (by rw [uI_n (by decide), uI_n (by decide), uI_n (by decide), uI_n (by decide), hK9 69 (by omega), m69]) ?_
                            refine n_iast hC 75 aa_75 c (show c < 100 by omega) dX7_goes_248 ?_
                            refine g_aload_n hC dX7_goes_249 rfl 5 rfl ?_
                            refine gf_X7_91 hC dX7_goes_250 ?_
                            refine g_aload_n hC dX7_goes_253 rfl 5 rfl ?_
                            refine gf_X7_159 hC dX7_goes_254 ?_
                            refine g_eqI (x' := nI (c + 1)) (by rw [pk_us]) ?_
                            refine g_iconst (v := nI 1) hC dX7_goes_257 (by decide) ?_
                            refine g_isub hC dX7_goes_258 ?_
                            refine g_eqI (x' := nI c) (nI_s1 rfl) ?_
                            refine g_dup2 hC dX7_goes_259 rfl rfl ?_
                            refine n_iald hC 76 aa_76 c (show c < 100 by omega) dX7_goes_260 ?_
                            refine g_eqI (x' := nI 0) (by rw [uI_n (by decide), uI_s, pk_us]) ?_
                            refine g_iconst (v := nI 1) hC dX7_goes_261 (by decide) ?_
                            refine g_iadd hC dX7_goes_262 ?_
                            refine g_eqI (x' := nI (0 + 1)) (nI_add _ _) ?_
                            refine n_iast hC 76 aa_76 c (show c < 100 by omega) dX7_goes_263 ?_
                            refine g_iload_n hC dX7_goes_264 rfl 3 rfl ?_
                            refine g_istore_n hC [(2, .int (nI its)), (6, .int (nI 0)), (5, .int (I (35 + tn (I 19 a)) (tn (I 19 its)))), (4, .int ((I 21 its) - (I 21 a))), (3, .int (nI its)), (0, .ref (G.2.1 7)), (1, .int (nI plate))] dX7_goes_265 rfl (by decide) rfl ?_
                            refine g_aload_n hC dX7_goes_266 rfl 5 rfl ?_
                            refine gf_X7_79 hC dX7_goes_267 ?_
                            refine g_iload_n hC dX7_goes_270 rfl 4 rfl ?_
                            refine g_aload_n hC dX7_goes_271 rfl 5 rfl ?_
                            refine gf_X7_159 hC dX7_goes_272 ?_
                            refine g_eqI (x' := nI (c + 1)) (by rw [pk_us]) ?_
                            refine g_iconst (v := nI 1) hC dX7_goes_275 (by decide) ?_
                            refine g_isub hC dX7_goes_276 ?_
                            refine g_eqI (x' := nI c) (nI_s1 rfl) ?_
                            refine n_iast hC 72 aa_72 its (show its < 100 by omega) dX7_goes_277 ?_
                            have hJb : (sJ (sJ (sJ (sJ (uJ J 77 f) 77 (4 * c + 0) 0) 77 (4 * c + 1) 0) 77 (4 * c + 2) 0) 77 (4 * c + 3) 0) = uJ J 77 (fB f c) := sJ4 J f
                            refine g_st (V1 := (upd V 14 (nI (c + 1)))) (I1 := (mbI I9 its c (I 21 its))) (J1 := (uJ J 77 (fB f c))) (upd_upd _ _ _ _) rfl hJb ?_
                            refine g_aload_n hC dX7_goes_278 rfl 5 rfl ?_
                            refine g_iload_n hC dX7_goes_279 rfl 6 rfl ?_
                            refine g_cVr hC [.int (nI plate)] 7 (m_X7_nextReading hl hG (upd V 14 (nI (c + 1))) (mbI I9 its c (I 21 its)) (uJ J 77 (fB f c)) n plate ((pk_un (by decide)).trans v13) hn (mI_x hmI (fun a ha => gK_b hK9 a (by omega)))) rfl (by decide) rfl rfl rfl tw_877 tw_879 tw_20 tw_38 tw_880 pd_X7_nextReading ⟨rfl, rfl⟩ (by rw [hRm]; exact ⟨Nat.le_of_ble_eq_true rfl, Nat.le_of_ble_eq_true rfl, Nat.le_of_ble_eq_true rfl, Nat.le_of_ble_eq_true rfl⟩) (Nat.le_of_ble_eq_true rfl) dX7_goes_280 (fun r9 V9 I9 J9 hp9 => ?_)
                            obtain ⟨hVq, hIq, hJq, x2, rfl, hN2⟩ := hp9
                            have hVq := hVq.symm
                            have hIq := hIq.symm
                            have hJq := hJq.symm
                            subst hVq hIq hJq
                            refine g_at rfl rfl (st2 := [.int x2]) rfl ?_
                            refine g_istore_n hC [(3, .int x2), (2, .int (nI its)), (6, .int (nI 0)), (5, .int (I (35 + tn (I 19 a)) (tn (I 19 its)))), (4, .int ((I 21 its) - (I 21 a))), (0, .ref (G.2.1 7)), (1, .int (nI plate))] dX7_goes_283 rfl (by decide) rfl ?_
                            refine g_goto hC 60 dX7_goes_284 (by decide) ?_
                            refine g_lv [0, 1, 5, 6] (lv2 := [(3, .int x2), (2, .int (nI its)), (0, .ref (G.2.1 7)), (1, .int (nI plate))]) rfl ?_
                            exact ih (q + 1) (c + 1) (some its) (bgI I2 c its (I 21 its)) (mbI I9 its c (I 21 its)) (fB f c) x2 (nI its) (by omega) (by rw [hf1]; exact hplb) rfl (gK_b hK9) (gD_s hD9 hpq hqn hqe hqm hqs rfl) (gJ_b hJ9 (by omega)) (gA_s hA9 rfl rfl rfl rfl rfl) (fun b hb => by cases hb; first | exact hqm.1 | exact hap0 _ rfl) hN2 (by omega)
                          · exact absurd c_208 (by decide)
                        · have e_196 := b10_t c_196
                          have hgo : gO I2 a its = true := by unfold rgB at e_196; simp only [Bool.and_eq_true, decide_eq_true_eq] at e_196; refine gO_t ?_ ?_ ?_ <;> rw [e19, hy2 (35 + tn (I 19 a)) (by omega)]; exact hfar; rw [e21]; exact e_196.1; rw [e21]; exact Int32.not_lt.mpr e_196.2
                          have hplg : plc nr ns c (some a) I2 its = (c, some its, pw nr ns (goI I2 its (c - 1) (I 21 its)) a its (c - 1)) := by rw [← e21]; exact (if_neg hdb).trans (if_pos hgo)
                          have hap : I 20 a = nI plate := hap0 a rfl
                          have hfar9 : fD I (tn (I 19 a)) (tn (I 19 its)) < 1000000 := by have z := Int32.lt_iff_toInt_lt.mp hfar; have z2 : (nI 1000000).toInt = 1000000 := (by decide); show (I (35 + tn (I 19 a)) (tn (I 19 its))).toInt < 1000000; omega
                          refine g_iconst (v := nI 1) hC dX7_goes_199 (by decide) ?_
                          refine g_goto hC 204 dX7_goes_200 (by decide) ?_
                          refine g_istore hC [(6, .int (nI 1)), (5, .int (I (35 + tn (I 19 a)) (tn (I 19 its)))), (4, .int ((I 21 its) - (I 21 a))), (3, .int (nI its)), (2, .int (nI a)), (0, .ref (G.2.1 7)), (1, .int (nI plate))] dX7_goes_204 (by decide) rfl ?_
                          refine g_iload hC dX7_goes_206 0 rfl ?_
                          refine g_if_eq hC 227 dX7_goes_208 (by decide) (fun c_208 => ?_) (fun c_208 => ?_)
                          · exact absurd c_208 (by decide)
                          · refine g_aload_n hC dX7_goes_211 rfl 5 rfl ?_
                            refine g_aload_n hC dX7_goes_212 rfl 5 rfl ?_
                            refine gf_X7_159 hC dX7_goes_213 ?_
                            refine g_eqI (x' := nI c) (by rw [pk_us]) ?_
                            refine g_iconst (v := nI 1) hC dX7_goes_216 (by decide) ?_
                            refine g_isub hC dX7_goes_217 ?_
                            refine g_eqI (x' := nI (c - 1)) (nI_s1 (by omega)) ?_
                            refine g_iload_n hC dX7_goes_218 rfl 6 rfl ?_
                            refine g_iload_n hC dX7_goes_219 rfl 4 rfl ?_
                            refine g_iload_n hC dX7_goes_220 rfl 3 rfl ?_
                            have hK9S : gK I (uI (uI I9 73 (upd (I9 73) its (nI 1))) 71 (upd ((uI I9 73 (upd (I9 73) its (nI 1))) 71) its (nI 0))) := gK_s (gK_s hK9 (by omega)) (by omega)
                            have hPg : pR (goI I2 its (c - 1) (I 21 its)) (c - 1) ((uJ J 77 f) 77) (180000 * p) := by rw [uJ_s]; exact pR_o (hJ9 (c - 1) (by omega)).2.2.2 (Nat.le_refl _) (fun o ho => by rcases (show o = 0 ∨ o = 1 ∨ o = 2 ∨ o = 3 by omega) with rfl | rfl | rfl | rfl <;> rfl) (fun _ _ => rfl)
                            have hfarS : fD (uI (uI I9 73 (upd (I9 73) its (nI 1))) 71 (upd ((uI I9 73 (upd (I9 73) its (nI 1))) 71) its (nI 0))) (tn ((uI (uI I9 73 (upd (I9 73) its (nI 1))) 71 (upd ((uI I9 73 (upd (I9 73) its (nI 1))) 71) its (nI 0))) 19 a)) (tn ((uI (uI I9 73 (upd (I9 73) its (nI 1))) 71 (upd ((uI I9 73 (upd (I9 73) its (nI 1))) 71) its (nI 0))) 19 its)) = fD I (tn (I 19 a)) (tn (I 19 its)) := by unfold fD; rw [hK9S 19 (by omega), hK9S (35 + tn (I 19 a)) (by omega)]
                            refine g_cVr hC [.int (nI (c - 1)), .int (nI plate), .int (nI a), .int (nI its)] 7 (m_X7_pays hl hG (upd V 14 (nI c)) (uI (uI I9 73 (upd (I9 73) its (nI 1))) 71 (upd ((uI I9 73 (upd (I9 73) its (nI 1))) 71) its (nI 0))) (uJ J 77 f) nr n ns (c - 1) plate a its (180000 * p) (goI I2 its (c - 1) (I 21 its)) ((pk_un (by decide)).trans v10) ((pk_un (by decide)).trans v12) (hyS0 hy2 hK9S) (mI_x hmI (fun b hb => (hK9S b (by omega)))) (mF_x (hmF (by omega)) (fun b hb => (hK9S b (by omega)))) (dK_x hK (fun b hb => (hK9S b (by omega)))) (wfC_y hw (fun b hb => (hK9S b (by omega)))) (wT_x hW (fun b hb => (hK9S b (by omega)))) hah1 (by omega) (by omega) ((congrFun (hK9S 20 (by omega)) a).trans hap) hp10 (by omega) hPg (by rw [hfarS]; exact hfar9)) rfl (by decide) rfl rfl rfl tw_885 tw_887 tw_22 tw_38 tw_888 pd_X7_pays ⟨rfl, rfl⟩ (by rw [hRm]; exact ⟨Nat.le_of_ble_eq_true rfl, Nat.le_of_ble_eq_true rfl, Nat.le_of_ble_eq_true rfl, Nat.le_of_ble_eq_true rfl⟩) (Nat.le_of_ble_eq_true rfl) dX7_goes_221 (fun r9 V9 I9 J9 hp9 => ?_)
                            obtain ⟨rfl, hV9, hI9, f7, rfl, hP7, hO7⟩ := hp9
                            have hV9 := hV9.symm
                            have hI9 := hI9.symm
                            subst hV9 hI9
                            rw [uJ_s] at hO7
                            refine g_at rfl rfl (st2 := []) rfl ?_
                            refine g_goto hC 232 dX7_goes_224 (by decide) ?_
                            refine g_aload_n hC dX7_goes_232 rfl 5 rfl ?_
                            refine gf_X7_88 hC dX7_goes_233 ?_
                            refine g_aload_n hC dX7_goes_236 rfl 5 rfl ?_
                            refine gf_X7_159 hC dX7_goes_237 ?_
                            refine g_eqI (x' := nI c) (by rw [pk_us]) ?_
                            refine g_iconst (v := nI 1) hC dX7_goes_240 (by decide) ?_
                            refine g_isub hC dX7_goes_241 ?_
                            refine g_eqI (x' := nI (c - 1)) (nI_s1 (by omega)) ?_
                            refine g_aload_n hC dX7_goes_242 rfl 5 rfl ?_
                            refine gf_X7_69 hC dX7_goes_243 ?_
                            refine g_iload_n hC dX7_goes_246 rfl 3 rfl ?_
                            refine n_iald hC 69 aa_69 its (show its < 100 by omega) dX7_goes_247 ?_
                            refine g_eqI (x' := I 21 its) (by rw [uI_n (by decide), uI_n (by decide), hK9 69 (by omega), m69]) ?_
                            refine n_iast hC 75 aa_75 (c - 1) (show c - 1 < 100 by omega) dX7_goes_248 ?_
                            refine g_aload_n hC dX7_goes_249 rfl 5 rfl ?_
                            refine gf_X7_91 hC dX7_goes_250 ?_
                            refine g_aload_n hC dX7_goes_253 rfl 5 rfl ?_
                            refine gf_X7_159 hC dX7_goes_254 ?_
                            refine g_eqI (x' := nI c) (by rw [pk_us]) ?_
                            refine g_iconst (v := nI 1) hC dX7_goes_257 (by decide) ?_
                            refine g_isub hC dX7_goes_258 ?_
                            refine g_eqI (x' := nI (c - 1)) (nI_s1 (by omega)) ?_
                            refine g_dup2 hC dX7_goes_259 rfl rfl ?_
                            refine n_iald hC 76 aa_76 (c - 1) (show c - 1 < 100 by omega) dX7_goes_260 ?_
                            refine g_eqI (x' := I9 76 (c - 1)) (by rw [uI_n (by decide), uI_n (by decide), uI_n (by decide)]) ?_
                            refine g_iconst (v := nI 1) hC dX7_goes_261 (by decide) ?_
                            refine g_iadd hC dX7_goes_262 ?_
                            refine n_iast hC 76 aa_76 (c - 1) (show c - 1 < 100 by omega) dX7_goes_263 ?_
                            refine g_iload_n hC dX7_goes_264 rfl 3 rfl ?_
                            refine g_istore_n hC [(2, .int (nI its)), (6, .int (nI 1)), (5, .int (I (35 + tn (I 19 a)) (tn (I 19 its)))), (4, .int ((I 21 its) - (I 21 a))), (3, .int (nI its)), (0, .ref (G.2.1 7)), (1, .int (nI plate))] dX7_goes_265 rfl (by decide) rfl ?_
                            refine g_aload_n hC dX7_goes_266 rfl 5 rfl ?_
                            refine gf_X7_79 hC dX7_goes_267 ?_
                            refine g_iload_n hC dX7_goes_270 rfl 4 rfl ?_
                            refine g_aload_n hC dX7_goes_271 rfl 5 rfl ?_
                            refine gf_X7_159 hC dX7_goes_272 ?_
                            refine g_eqI (x' := nI c) (by rw [pk_us]) ?_
                            refine g_iconst (v := nI 1) hC dX7_goes_275 (by decide) ?_
                            refine g_isub hC dX7_goes_276 ?_
                            refine g_eqI (x' := nI (c - 1)) (nI_s1 (by omega)) ?_
                            refine n_iast hC 72 aa_72 its (show its < 100 by omega) dX7_goes_277 ?_
                            refine g_st (V1 := (upd V 14 (nI c))) (I1 := (mgI I9 its (c - 1) (I 21 its))) (J1 := (uJ J 77 f7)) rfl rfl (uJ_uJ _ _ _ _) ?_
                            refine g_aload_n hC dX7_goes_278 rfl 5 rfl ?_
                            refine g_iload_n hC dX7_goes_279 rfl 6 rfl ?_
                            refine g_cVr hC [.int (nI plate)] 7 (m_X7_nextReading hl hG (upd V 14 (nI c)) (mgI I9 its (c - 1) (I 21 its)) (uJ J 77 f7) n plate ((pk_un (by decide)).trans v13) hn (mI_x hmI (fun a ha => gK_g hK9 a (by omega)))) rfl (by decide) rfl rfl rfl tw_877 tw_879 tw_20 tw_38 tw_880 pd_X7_nextReading ⟨rfl, rfl⟩ (by rw [hRm]; exact ⟨Nat.le_of_ble_eq_true rfl, Nat.le_of_ble_eq_true rfl, Nat.le_of_ble_eq_true rfl, Nat.le_of_ble_eq_true rfl⟩) (Nat.le_of_ble_eq_true rfl) dX7_goes_280 (fun r9 V9 I9 J9 hp9 => ?_)
                            obtain ⟨hVq, hIq, hJq, x2, rfl, hN2⟩ := hp9
                            have hVq := hVq.symm
                            have hIq := hIq.symm
                            have hJq := hJq.symm
                            subst hVq hIq hJq
                            refine g_at rfl rfl (st2 := [.int x2]) rfl ?_
                            refine g_istore_n hC [(3, .int x2), (2, .int (nI its)), (6, .int (nI 1)), (5, .int (I (35 + tn (I 19 a)) (tn (I 19 its)))), (4, .int ((I 21 its) - (I 21 a))), (0, .ref (G.2.1 7)), (1, .int (nI plate))] dX7_goes_283 rfl (by decide) rfl ?_
                            refine g_goto hC 60 dX7_goes_284 (by decide) ?_
                            refine g_lv [0, 1, 5, 6] (lv2 := [(3, .int x2), (2, .int (nI its)), (0, .ref (G.2.1 7)), (1, .int (nI plate))]) rfl ?_
                            exact ih (q + 1) c (some its) (pw nr ns (goI I2 its (c - 1) (I 21 its)) a its (c - 1)) (mgI I9 its (c - 1) (I 21 its)) f7 x2 (nI its) (by omega) (by rw [hf1]; exact hplg) rfl (gK_g hK9) (gD_s hD9 hpq hqn hqe hqm hqs rfl) (gJ_g hw2 hJ9 (by omega) (pR_le hP7 (by omega)) hO7) (gA_s hA9 rfl rfl rfl (by rw [pw_27 (by omega) (wfC_x hw2 (eqx_go I2 its (c - 1) (I 21 its)))]; rfl) (by rw [pw_27 (by omega) (wfC_x hw2 (eqx_go I2 its (c - 1) (I 21 its)))]; rfl)) (fun b hb => by cases hb; first | exact hqm.1 | exact hap0 _ rfl) hN2 (by omega)
                · have hdb : isD I2 its a = true := by simp only [isD, e19, e21, Bool.and_eq_true, decide_eq_true_eq]; exact ⟨c_146.symm, c_152⟩
                  have hpld : plc nr ns c (some a) I2 its = (c, some a, pdI I2 its (c - 1)) := if_pos hdb
                  refine g_iconst (v := nI 1) hC dX7_goes_155 (by decide) ?_
                  refine g_goto hC 160 dX7_goes_156 (by decide) ?_
                  refine n_zast hC 71 aa_71 its (show its < 100 by omega) rfl dX7_goes_160 ?_
                  refine g_aload_n hC dX7_goes_161 rfl 4 rfl ?_
                  refine gf_X7_76 hC dX7_goes_162 ?_
                  refine g_iload_n hC dX7_goes_165 rfl 2 rfl ?_
                  refine n_zald hC 71 aa_71 its (show its < 100 by omega) dX7_goes_166 ?_
                  refine g_eqI (x' := nI 1) (by rw [uI_s, pk_us]) ?_
                  refine g_if_ne hC 266 dX7_goes_167 (by decide) (fun c_167 => ?_) (fun c_167 => ?_)
                  · refine g_aload_n hC dX7_goes_266 rfl 4 rfl ?_
                    refine gf_X7_79 hC dX7_goes_267 ?_
                    refine g_iload_n hC dX7_goes_270 rfl 2 rfl ?_
                    refine g_aload_n hC dX7_goes_271 rfl 4 rfl ?_
                    refine gf_X7_159 hC dX7_goes_272 ?_
                    refine g_eqI (x' := nI c) (by rw [pk_us]) ?_
                    refine g_iconst (v := nI 1) hC dX7_goes_275 (by decide) ?_
                    refine g_isub hC dX7_goes_276 ?_
                    refine g_eqI (x' := nI (c - 1)) (nI_s1 (by omega)) ?_
                    refine n_iast hC 72 aa_72 its (show its < 100 by omega) dX7_goes_277 ?_
                    refine g_st (V1 := (upd V 14 (nI c))) (I1 := (mdI I9 its (c - 1))) (J1 := (uJ J 77 f)) rfl rfl rfl ?_
                    refine g_aload_n hC dX7_goes_278 rfl 4 rfl ?_
                    refine g_iload_n hC dX7_goes_279 rfl 5 rfl ?_
                    refine g_cVr hC [.int (nI plate)] 7 (m_X7_nextReading hl hG (upd V 14 (nI c)) (mdI I9 its (c - 1)) (uJ J 77 f) n plate ((pk_un (by decide)).trans v13) hn (mI_x hmI (fun a ha => gK_d hK9 a (by omega)))) rfl (by decide) rfl rfl rfl tw_877 tw_879 tw_20 tw_38 tw_880 pd_X7_nextReading ⟨rfl, rfl⟩ (by rw [hRm]; exact ⟨Nat.le_of_ble_eq_true rfl, Nat.le_of_ble_eq_true rfl, Nat.le_of_ble_eq_true rfl, Nat.le_of_ble_eq_true rfl⟩) (Nat.le_of_ble_eq_true rfl) dX7_goes_280 (fun r9 V9 I9 J9 hp9 => ?_)
                    obtain ⟨hVq, hIq, hJq, x2, rfl, hN2⟩ := hp9
                    have hVq := hVq.symm
                    have hIq := hIq.symm
                    have hJq := hJq.symm
                    subst hVq hIq hJq
                    refine g_at rfl rfl (st2 := [.int x2]) rfl ?_
                    refine g_istore_n hC [(3, .int x2), (5, .int (I (35 + tn (I 19 a)) (tn (I 19 its)))), (4, .int ((I 21 its) - (I 21 a))), (2, .int (nI a)), (0, .ref (G.2.1 7)), (1, .int (nI plate))] dX7_goes_283 rfl (by decide) rfl ?_
                    refine g_goto hC 60 dX7_goes_284 (by decide) ?_
                    refine g_lv [0, 3, 4, 5] (lv2 := [(3, .int x2), (2, .int (nI a)), (0, .ref (G.2.1 7)), (1, .int (nI plate))]) rfl ?_
                    exact ih (q + 1) c (some a) (pdI I2 its (c - 1)) (mdI I9 its (c - 1)) f x2 (nI a) (by omega) (by rw [hf1]; exact hpld) rfl (gK_d hK9) (gD_s hD9 hpq hqn hqe hqm hqs rfl) (gJ_d hJ9 (by omega)) (gA_s hA9 rfl rfl rfl rfl rfl) (fun b hb => by cases hb; first | exact hqm.1 | exact hap0 _ rfl) hN2 (by omega)
                  · exact absurd c_167 (by decide)
          · exact absurd c_98 (nI_m1 (by omega))
        · have hn0 : ah = none := by cases ah with | none => rfl | some a => exact absurd (hy.symm.trans c_74) (nI_m1 (by have := (hah a rfl).1; omega))
          subst hn0
          have hplb : plc nr ns c none I2 its = (c + 1, some its, bgI I2 c its (I 21 its)) := by rw [← e21]; rfl
          have hyv : y = -1 := c_74
          subst hyv
          refine g_iconst (v := nI 0) hC dX7_goes_77 (by decide) ?_
          refine g_goto hC 94 dX7_goes_78 (by decide) ?_
          refine g_istore hC [(4, .int (nI 0)), (3, .int (nI its)), (2, .int ((-1))), (0, .ref (G.2.1 7)), (1, .int (nI plate))] dX7_goes_94 (by decide) rfl ?_
          refine g_iload_n hC dX7_goes_96 rfl 2 rfl ?_
          refine g_iconst (v := (-1)) hC dX7_goes_97 (by decide) ?_
          refine g_icmp_ne hC 106 dX7_goes_98 (by decide) (fun c_98 => ?_) (fun c_98 => ?_)
          · exact absurd c_98 (by decide)
          · refine g_ldc (v := nI 1000000) hC tw_810 dX7_goes_101 ?_
            refine g_goto hC 122 dX7_goes_103 (by decide) ?_
            refine g_istore hC [(5, .int (nI 1000000)), (4, .int (nI 0)), (3, .int (nI its)), (2, .int ((-1))), (0, .ref (G.2.1 7)), (1, .int (nI plate))] dX7_goes_122 (by decide) rfl ?_
            refine g_aload_n hC dX7_goes_124 rfl 4 rfl ?_
            refine gf_X7_76 hC dX7_goes_125 ?_
            refine g_iload_n hC dX7_goes_128 rfl 2 rfl ?_
            refine g_iload_n hC dX7_goes_129 rfl 3 rfl ?_
            refine g_iconst (v := (-1)) hC dX7_goes_130 (by decide) ?_
            refine g_icmp_eq hC 159 dX7_goes_131 (by decide) (fun c_131 => ?_) (fun c_131 => ?_)
            · refine g_iconst (v := nI 0) hC dX7_goes_159 (by decide) ?_
              refine n_zast hC 71 aa_71 its (show its < 100 by omega) rfl dX7_goes_160 ?_
              refine g_aload_n hC dX7_goes_161 rfl 4 rfl ?_
              refine gf_X7_76 hC dX7_goes_162 ?_
              refine g_iload_n hC dX7_goes_165 rfl 2 rfl ?_
              refine n_zald hC 71 aa_71 its (show its < 100 by omega) dX7_goes_166 ?_
              refine g_eqI (x' := nI 0) (by rw [uI_s, pk_us]) ?_
              refine g_if_ne hC 266 dX7_goes_167 (by decide) (fun c_167 => ?_) (fun c_167 => ?_)
              · exact absurd c_167 (by decide)
              · refine g_iload_n hC dX7_goes_170 rfl 3 rfl ?_
                refine g_iconst (v := (-1)) hC dX7_goes_171 (by decide) ?_
                refine g_icmp_eq hC 203 dX7_goes_172 (by decide) (fun c_172 => ?_) (fun c_172 => ?_)
                · refine g_iconst (v := nI 0) hC dX7_goes_203 (by decide) ?_
                  refine g_istore hC [(6, .int (nI 0)), (5, .int (nI 1000000)), (4, .int (nI 0)), (3, .int (nI its)), (2, .int ((-1))), (0, .ref (G.2.1 7)), (1, .int (nI plate))] dX7_goes_204 (by decide) rfl ?_
                  refine g_iload hC dX7_goes_206 0 rfl ?_
                  refine g_if_eq hC 227 dX7_goes_208 (by decide) (fun c_208 => ?_) (fun c_208 => ?_)
                  · refine g_aload_n hC dX7_goes_227 rfl 5 rfl ?_
                    refine g_iload_n hC dX7_goes_228 rfl 3 rfl ?_
                    refine g_cV hC [.int (nI its)] 7 (m_X7_begins hl hG (upd V 14 (nI c)) (uI (uI I9 73 (upd (I9 73) its (nI 1))) 71 (upd ((uI I9 73 (upd (I9 73) its (nI 1))) 71) its (nI 0))) (uJ J 77 f) c its pk_us (by omega) (by omega)) rfl (st2 := []) rfl (by decide) rfl rfl rfl tw_902 tw_904 tw_26 tw_38 tw_905 pd_X7_begins ⟨rfl, rfl⟩ (by rw [hRm]; exact ⟨Nat.le_of_ble_eq_true rfl, Nat.le_of_ble_eq_true rfl, Nat.le_of_ble_eq_true rfl, Nat.le_of_ble_eq_true rfl⟩) (Nat.le_of_ble_eq_true rfl) dX7_goes_229 ?_
                    refine g_st (V1 := (upd (upd V 14 (nI c)) 14 (nI (c + 1)))) (I1 := (uI (uI (uI (uI I9 73 (upd (I9 73) its (nI 1))) 71 (upd ((uI I9 73 (upd (I9 73) its (nI 1))) 71) its (nI 0))) 74 (upd ((uI (uI I9 73 (upd (I9 73) its (nI 1))) 71 (upd ((uI I9 73 (upd (I9 73) its (nI 1))) 71) its (nI 0))) 74) c (I 21 its))) 76 (upd ((uI (uI (uI I9 73 (upd (I9 73) its (nI 1))) 71 (upd ((uI I9 73 (upd (I9 73) its (nI 1))) 71) its (nI 0))) 74 (upd ((uI (uI I9 73 (upd (I9 73) its (nI 1))) 71 (upd ((uI I9 73 (upd (I9 73) its (nI 1))) 71) its (nI 0))) 74) c (I 21 its))) 76) c (nI 0)))) (J1 := (sJ (sJ (sJ (sJ (uJ J 77 f) 77 (4 * c + 0) 0) 77 (4 * c + 1) 0) 77 (4 * c + 2) 0) 77 (4 * c + 3) 0)) rfl (by rw [show (uI (uI I9 73 (upd (I9 73) its (nI 1))) 71 (upd ((uI I9 73 (upd (I9 73) its (nI 1))) 71) its (nI 0))) 69 its = I 21 its from congrFun ((hK9 69 (by omega)).trans m69) its]) rfl ?_
                    refine g_aload_n hC dX7_goes_232 rfl 5 rfl ?_
                    refine gf_X7_88 hC dX7_goes_233 ?_
                    refine g_aload_n hC dX7_goes_236 rfl 5 rfl ?_
                    refine gf_X7_159 hC dX7_goes_237 ?_
                    refine g_eqI (x' := nI (c + 1)) (by rw [pk_us]) ?_
                    refine g_iconst (v := nI 1) hC dX7_goes_240 (by decide) ?_
                    refine g_isub hC dX7_goes_241 ?_
                    refine g_eqI (x' := nI c) (nI_s1 rfl) ?_
                    refine g_aload_n hC dX7_goes_242 rfl 5 rfl ?_
                    refine gf_X7_69 hC dX7_goes_243 ?_
                    refine g_iload_n hC dX7_goes_246 rfl 3 rfl ?_
                    refine n_iald hC 69 aa_69 its (show its < 100 by omega) dX7_goes_247 ?_
                    refine g_eqI (x' := I 21 its) (by rw [uI_n (by decide), uI_n (by decide), uI_n (by decide), uI_n (by decide), hK9 69 (by omega), m69]) ?_
                    refine n_iast hC 75 aa_75 c (show c < 100 by omega) dX7_goes_248 ?_
                    refine g_aload_n hC dX7_goes_249 rfl 5 rfl ?_
                    refine gf_X7_91 hC dX7_goes_250 ?_
                    refine g_aload_n hC dX7_goes_253 rfl 5 rfl ?_
                    refine gf_X7_159 hC dX7_goes_254 ?_
                    refine g_eqI (x' := nI (c + 1)) (by rw [pk_us]) ?_
                    refine g_iconst (v := nI 1) hC dX7_goes_257 (by decide) ?_
                    refine g_isub hC dX7_goes_258 ?_
                    refine g_eqI (x' := nI c) (nI_s1 rfl) ?_
                    refine g_dup2 hC dX7_goes_259 rfl rfl ?_
                    refine n_iald hC 76 aa_76 c (show c < 100 by omega) dX7_goes_260 ?_
                    refine g_eqI (x' := nI 0) (by rw [uI_n (by decide), uI_s, pk_us]) ?_
                    refine g_iconst (v := nI 1) hC dX7_goes_261 (by decide) ?_
                    refine g_iadd hC dX7_goes_262 ?_
                    refine g_eqI (x' := nI (0 + 1)) (nI_add _ _) ?_
                    refine n_iast hC 76 aa_76 c (show c < 100 by omega) dX7_goes_263 ?_
                    refine g_iload_n hC dX7_goes_264 rfl 3 rfl ?_
                    refine g_istore_n hC [(2, .int (nI its)), (6, .int (nI 0)), (5, .int (nI 1000000)), (4, .int (nI 0)), (3, .int (nI its)), (0, .ref (G.2.1 7)), (1, .int (nI plate))] dX7_goes_265 rfl (by decide) rfl ?_
                    refine g_aload_n hC dX7_goes_266 rfl 5 rfl ?_
                    refine gf_X7_79 hC dX7_goes_267 ?_
                    refine g_iload_n hC dX7_goes_270 rfl 4 rfl ?_
                    refine g_aload_n hC dX7_goes_271 rfl 5 rfl ?_
                    refine gf_X7_159 hC dX7_goes_272 ?_
                    refine g_eqI (x' := nI (c + 1)) (by rw [pk_us]) ?_
                    refine g_iconst (v := nI 1) hC dX7_goes_275 (by decide) ?_
                    refine g_isub hC dX7_goes_276 ?_
                    refine g_eqI (x' := nI c) (nI_s1 rfl) ?_
                    refine n_iast hC 72 aa_72 its (show its < 100 by omega) dX7_goes_277 ?_
                    have hJb : (sJ (sJ (sJ (sJ (uJ J 77 f) 77 (4 * c + 0) 0) 77 (4 * c + 1) 0) 77 (4 * c + 2) 0) 77 (4 * c + 3) 0) = uJ J 77 (fB f c) := sJ4 J f
                    refine g_st (V1 := (upd V 14 (nI (c + 1)))) (I1 := (mbI I9 its c (I 21 its))) (J1 := (uJ J 77 (fB f c))) (upd_upd _ _ _ _) rfl hJb ?_
                    refine g_aload_n hC dX7_goes_278 rfl 5 rfl ?_
                    refine g_iload_n hC dX7_goes_279 rfl 6 rfl ?_
                    refine g_cVr hC [.int (nI plate)] 7 (m_X7_nextReading hl hG (upd V 14 (nI (c + 1))) (mbI I9 its c (I 21 its)) (uJ J 77 (fB f c)) n plate ((pk_un (by decide)).trans v13) hn (mI_x hmI (fun a ha => gK_b hK9 a (by omega)))) rfl (by decide) rfl rfl rfl tw_877 tw_879 tw_20 tw_38 tw_880 pd_X7_nextReading ⟨rfl, rfl⟩ (by rw [hRm]; exact ⟨Nat.le_of_ble_eq_true rfl, Nat.le_of_ble_eq_true rfl, Nat.le_of_ble_eq_true rfl, Nat.le_of_ble_eq_true rfl⟩) (Nat.le_of_ble_eq_true rfl) dX7_goes_280 (fun r9 V9 I9 J9 hp9 => ?_)
                    obtain ⟨hVq, hIq, hJq, x2, rfl, hN2⟩ := hp9
                    have hVq := hVq.symm
                    have hIq := hIq.symm
                    have hJq := hJq.symm
                    subst hVq hIq hJq
                    refine g_at rfl rfl (st2 := [.int x2]) rfl ?_
                    refine g_istore_n hC [(3, .int x2), (2, .int (nI its)), (6, .int (nI 0)), (5, .int (nI 1000000)), (4, .int (nI 0)), (0, .ref (G.2.1 7)), (1, .int (nI plate))] dX7_goes_283 rfl (by decide) rfl ?_
                    refine g_goto hC 60 dX7_goes_284 (by decide) ?_
                    refine g_lv [0, 1, 5, 6] (lv2 := [(3, .int x2), (2, .int (nI its)), (0, .ref (G.2.1 7)), (1, .int (nI plate))]) rfl ?_
                    exact ih (q + 1) (c + 1) (some its) (bgI I2 c its (I 21 its)) (mbI I9 its c (I 21 its)) (fB f c) x2 (nI its) (by omega) (by rw [hf1]; exact hplb) rfl (gK_b hK9) (gD_s hD9 hpq hqn hqe hqm hqs rfl) (gJ_b hJ9 (by omega)) (gA_s hA9 rfl rfl rfl rfl rfl) (fun b hb => by cases hb; first | exact hqm.1 | exact hap0 _ rfl) hN2 (by omega)
                  · exact absurd c_208 (by decide)
                · exact absurd c_172 (by decide)
            · exact absurd c_131 (by decide)
  have lp_7 : ∀ (k9 : Nat) (k : Nat) (I9 : wI) (hkn : k ≤ n) (hK9 : gK I I9) (hg0 : g0I n plate I k I9) (hk : n < k + k9), WW K G 0 0 (QM K G { frames := 3, cells := 0, slots := 0, locals := 78 } (fun r9 V9 I9 J9 => r9 = none ∧ V9 = upd V 14 (nI (fj nr ns plate G0 n).1) ∧ gK I I9 ∧ (∀ a, a < 77 ∨ 79 < a → J9 a = J a) ∧ gF n plate I M (fj nr ns plate G0 n) I9 J9) (noX)) (upd V 14 (nI 0)) I9 J 7 [(2, .int (nI k)), (0, .ref (G.2.1 7)), (1, .int (nI plate))] [] := by
    intro k9
    induction k9 with
    | zero =>
      intro k I9 hkn hK9 hg0 hk
      omega
    | succ k9 ih =>
      intro k I9 hkn hK9 hg0 hk
      refine g_iload_n hC dX7_goes_7 rfl 0 rfl ?_
      refine g_aload_n hC dX7_goes_8 rfl 1 rfl ?_
      refine gf_X7_113 hC dX7_goes_9 ?_
      refine g_eqI (x' := nI n) (by rw [pk_un (by decide), v13]) ?_
      refine g_icmp_ge hC 52 dX7_goes_12 (by decide) (fun c_12 => ?_) (fun c_12 => ?_)
      · have d_12 : n ≤ k := (nI_leI (by omega) (by omega)).mp c_12
        refine g_iconst (v := (-1)) hC dX7_goes_52 (by decide) ?_
        refine g_istore_n hC [(2, .int ((-1))), (0, .ref (G.2.1 7)), (1, .int (nI plate))] dX7_goes_53 rfl (by decide) rfl ?_
        refine g_aload_n hC dX7_goes_54 rfl 1 rfl ?_
        refine g_iload_n hC dX7_goes_55 rfl 2 rfl ?_
        refine g_cVr hC [.int (nI plate)] 7 (m_X7_nextReading hl hG (upd V 14 (nI 0)) I9 J n plate ((pk_un (by decide)).trans v13) hn (mI_x hmI (fun a ha => hK9 a (by omega)))) rfl (by decide) rfl rfl rfl tw_877 tw_879 tw_20 tw_38 tw_880 pd_X7_nextReading ⟨rfl, rfl⟩ (by rw [hRm]; exact ⟨Nat.le_of_ble_eq_true rfl, Nat.le_of_ble_eq_true rfl, Nat.le_of_ble_eq_true rfl, Nat.le_of_ble_eq_true rfl⟩) (Nat.le_of_ble_eq_true rfl) dX7_goes_56 (fun r9 V9 I9 J9 hp9 => ?_)
        obtain ⟨hVq, hIq, hJq, x2, rfl, hN2⟩ := hp9
        have hVq := hVq.symm
        have hIq := hIq.symm
        have hJq := hJq.symm
        subst hVq hIq hJq
        refine g_at rfl rfl (st2 := [.int x2]) rfl ?_
        refine g_istore_n hC [(3, .int x2), (2, .int ((-1))), (0, .ref (G.2.1 7)), (1, .int (nI plate))] dX7_goes_59 rfl (by decide) rfl ?_
        refine g_st (V1 := (upd V 14 (nI 0))) (I1 := I9) (J1 := (uJ J 77 (J 77))) rfl rfl (uJ_self J 77).symm ?_
        have h0e := g0_e (I2 := G0) (show g0I n plate I n I9 by rw [show n = k by omega] at hg0 ⊢; exact hg0)
        exact lp_60 (n + 1) 0 0 none G0 I9 (J 77) x2 (-1) (by omega) rfl rfl hK9 h0e.1 (fun j hj => absurd hj (Nat.not_lt_zero _)) h0e.2 (fun a ha => by cases ha) hN2 (by omega)
      · have d_12 : ¬ n ≤ k := fun q => c_12 ((nI_leI (by omega) (by omega)).mpr q)
        refine g_aload_n hC dX7_goes_15 rfl 1 rfl ?_
        refine gf_X7_82 hC dX7_goes_16 ?_
        refine g_iload_n hC dX7_goes_19 rfl 0 rfl ?_
        refine g_iconst (v := nI 0) hC dX7_goes_20 (by decide) ?_
        refine n_zast hC 73 aa_73 k (show k < 100 by omega) rfl dX7_goes_21 ?_
        refine g_aload_n hC dX7_goes_22 rfl 1 rfl ?_
        refine gf_X7_66 hC dX7_goes_23 ?_
        refine g_iload_n hC dX7_goes_26 rfl 0 rfl ?_
        refine n_iald hC 68 aa_68 k (show k < 100 by omega) dX7_goes_27 ?_
        refine g_eqI (x' := I 20 k) (by rw [uI_n (by decide), hK9 68 (by omega), m68]) ?_
        refine g_iload_n hC dX7_goes_28 rfl 2 rfl ?_
        refine g_icmp_ne hC 46 dX7_goes_29 (by decide) (fun c_29 => ?_) (fun c_29 => ?_)
        · refine g_iinc (v := nI (k + 1)) hC [(2, .int (nI (k + 1))), (0, .ref (G.2.1 7)), (1, .int (nI plate))] dX7_goes_46 0 rfl (nI_i1 _) (by decide) rfl ?_
          refine g_goto hC 7 dX7_goes_49 (by decide) ?_
          exact ih (k + 1) (uI I9 73 (upd (I9 73) k (nI 0))) (by omega) (by first | exact gK_s (gK_s (gK_s hK9 (by omega)) (by omega)) (by omega) | exact gK_s hK9 (by omega)) (by first | exact g0_y hg0 | exact g0_n hg0 c_29) (by omega)
        · refine g_aload_n hC dX7_goes_32 rfl 1 rfl ?_
          refine gf_X7_76 hC dX7_goes_33 ?_
          refine g_iload_n hC dX7_goes_36 rfl 0 rfl ?_
          refine g_iconst (v := nI 0) hC dX7_goes_37 (by decide) ?_
          refine n_zast hC 71 aa_71 k (show k < 100 by omega) rfl dX7_goes_38 ?_
          refine g_aload_n hC dX7_goes_39 rfl 1 rfl ?_
          refine gf_X7_79 hC dX7_goes_40 ?_
          refine g_iload_n hC dX7_goes_43 rfl 0 rfl ?_
          refine g_iconst (v := (-1)) hC dX7_goes_44 (by decide) ?_
          refine n_iast hC 72 aa_72 k (show k < 100 by omega) dX7_goes_45 ?_
          refine g_iinc (v := nI (k + 1)) hC [(2, .int (nI (k + 1))), (0, .ref (G.2.1 7)), (1, .int (nI plate))] dX7_goes_46 0 rfl (nI_i1 _) (by decide) rfl ?_
          refine g_goto hC 7 dX7_goes_49 (by decide) ?_
          exact ih (k + 1) (uI (uI (uI I9 73 (upd (I9 73) k (nI 0))) 71 (upd ((uI I9 73 (upd (I9 73) k (nI 0))) 71) k (nI 0))) 72 (upd ((uI (uI I9 73 (upd (I9 73) k (nI 0))) 71 (upd ((uI I9 73 (upd (I9 73) k (nI 0))) 71) k (nI 0))) 72) k ((-1)))) (by omega) (by first | exact gK_s (gK_s (gK_s hK9 (by omega)) (by omega)) (by omega) | exact gK_s hK9 (by omega)) (by first | exact g0_y hg0 | exact g0_n hg0 c_29) (by omega)
  refine g_aload_n hC dX7_goes_0 rfl 0 rfl ?_
  refine g_iconst (v := nI 0) hC dX7_goes_1 (by decide) ?_
  refine gp_X7_159 hC dX7_goes_2 ?_
  refine g_iconst (v := nI 0) hC dX7_goes_5 (by decide) ?_
  refine g_istore_n hC [(2, .int (nI 0)), (0, .ref (G.2.1 7)), (1, .int (nI plate))] dX7_goes_6 rfl (by decide) rfl ?_
  exact lp_7 (n + 1) 0 I (by omega) (fun _ _ => rfl) (fun r hr => absurd hr (Nat.not_lt_zero _)) (by omega)
