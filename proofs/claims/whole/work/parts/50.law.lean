/-! the law's body: one theorem a case of its switch -/
/-- what holds of the law's walk from the loop's head on -/
def LX (K : wK) (G : wG) (b L : Nat) (xs : Nat → Int32) : Prop := Cx K G RL cL_law 8 ∧ kR K = room_1 ∧ va_X b L xs (ks K) (ks K).heap ∧ b < (ks K).heap.size ∧ G.2.2.1 = (ks K).heap.size ∧ L ≤ 2560
/-- place i + k of the script -/
theorem g_arg {K : wK} {G : wG} {b L : Nat} {xs : Nat → Int32} (X : LX K G b L xs) {cells slots : Nat} {Q : State → Prop} {V : wV} {I : wI} {J : wJ} {pc : Nat} {lv : List (Nat × Value)} {st : List Value} {n : Int} {i k : Nat} (hk : Int32.ofInt n = nI k) (hi : i + k < L) (d0 : decode cL_law pc = .ok (.aload_n 0, 1)) (d1 : decode cL_law (pc + 1) = .ok (.iload 4, 2)) (d2 : decode cL_law (pc + 3) = .ok (.iconst n, 1)) (d3 : decode cL_law (pc + 4) = .ok (.iadd, 1)) (d4 : decode cL_law (pc + 5) = .ok (.iaload, 1)) (p0 : Nat) (h0 : lv[p0]? = some (0, .ref b)) (p4 : Nat) (h4 : lv[p4]? = some (4, .int (nI i))) (kk : WW K G cells slots Q V I J (pc + 6) lv (.int (xs (i + k)) :: st)) : WW K G cells slots Q V I J pc lv st := by
  obtain ⟨C, -, hX, hb, hG, hL⟩ := X
  refine g_aload_n C d0 rfl p0 h0 ?_
  refine g_iload C d1 p4 h4 ?_
  refine g_iconst C d2 hk ?_
  refine g_iadd C d3 ?_
  refine g_eqI (x' := nI (i + k)) (nI_add _ _) ?_
  intro H locs ls hP hS hl
  refine va_sld C.1.1 C.1.2.1 hX hb (show ¬ G.2.2.1 ≤ b by omega) hS (vp_in_nI hi (by omega)) d4 ?_
  rw [nI_clamp (by omega)]
  exact kk H locs ls hP hS hl
theorem g_wd {K : wK} {G : wG} {cells slots c2 s2 : Nat} {Q : State → Prop} {V : wV} {I : wI} {J : wJ} {pc : Nat} {lv : List (Nat × Value)} {st : List Value} (h1 : cells ≤ c2) (h2 : slots ≤ s2) (k : WW K G c2 s2 Q V I J pc lv st) : WW K G cells slots Q V I J pc lv st := fun H locs ls hP hS hl => W.widen h1 h2 (k H locs ls hP hS hl)

theorem bl_j0 {nr ns n : Nat} {V : wV} {I : wI} {J : wJ} (h : mJ J) : jE (blS nr ns n V I J 10).2.2.2 (blS nr ns n V I J 0).2.2.2 := by
  obtain ⟨⟨h1, h2, h3⟩, -⟩ := h
  have b0 : ∀ a, a ≠ 32 → (blS nr ns n V I J 0).2.2.2 a = J a := fun a ha => by
    show uJ (uJ (uJ (uJ J 32 _) 32 _) 32 _) 32 _ a = J a
    rw [uJ_n ha, uJ_n ha, uJ_n ha, uJ_n ha]
  refine ⟨?_, ?_, ?_⟩
  · exact (bl_o (by omega) 10).trans (h1.trans (b0 31 (by decide)).symm)
  · exact (bl_o (by omega) 10).trans (h2.trans (b0 30 (by decide)).symm)
  · exact (bl_o (by omega) 10).trans (h3.trans (b0 29 (by decide)).symm)

set_option maxRecDepth 100000 in
theorem lc_gate {K : wK} {G : wG} {b L : Nat} {xs : Nat → Int32} (X : LX K G b L xs) {Q : State → Prop} {cells slots : Nat} {V : wV} {I : wI} {J : wJ} {i : Nat} (hi : i + 5 ≤ L) (hI : Inv V I J) (hc1 : cells + 6 ≤ room_1.cells) (hs1 : slots + 36 ≤ room_1.slots) (kk : ∀ V9 I9 J9, Inv V9 I9 J9 → WW K G (cells + 6) (slots + 36) Q V9 I9 J9 1436 [(0, .ref b), (1, .ref (G.2.1 0)), (2, .ref (G.2.1 7)), (3, .ref (G.2.1 80)), (4, .int (nI i))] []) : WW K G cells slots Q V I J 136 [(0, .ref b), (1, .ref (G.2.1 0)), (2, .ref (G.2.1 7)), (3, .ref (G.2.1 80)), (4, .int (nI i))] [] := by
  obtain ⟨ng, nr, ns, n, M, hc, hz, hmV, hmI, hmF, hmJ⟩ := hI
  obtain ⟨⟨v1, v2, v3, v4, v5, hng, hM⟩, hK, hw, hT9, hS9, hends, hhold, h22, h22n⟩ := id hc
  have w24 := hw.1.1
  have C := X.1
  have hRm := X.2.1
  have hl := C.2.2.2.2.2.2
  have hG := C.2.2.1
  refine g_aload_n C dL_law_136 rfl 1 rfl ?_
  refine g_aload_n C dL_law_137 rfl 3 rfl ?_
  refine g_callX C [.ref (G.2.1 0), .ref (G.2.1 80)] (m_L_gate hl hG V I J ng v1 hng) rfl tw_366 tw_367 tw_30 tw_368 pd_L_gate (by rw [hRm]; exact ⟨Nat.le_of_ble_eq_true rfl, Nat.le_of_ble_eq_true rfl⟩) (Nat.le_of_ble_eq_true rfl) (by rw [hRm]; exact ⟨hc1, hs1⟩) dL_law_138 (fun E9 V9 I9 J9 hx9 => hx9.elim) (fun r1 V1 I1 J1 hA => ?_)
  obtain ⟨t, rfl, ht4, hpre, hB⟩ := st_gate hc hz hmV hmI hmF hmJ hA
  obtain ⟨a1, a2, a3, a4, a5, a6⟩ := hpre
  refine g_cs (c2 := cells + 6) (s2 := slots + 36) rfl rfl ?_
  refine g_at rfl rfl (st2 := [.int (nI t)]) rfl ?_
  refine g_istore C [(5, .int (nI t)), (0, .ref b), (1, .ref (G.2.1 0)), (2, .ref (G.2.1 7)), (3, .ref (G.2.1 80)), (4, .int (nI i))] dL_law_141 (by decide) rfl ?_
  refine g_aload_n C dL_law_143 rfl 3 rfl ?_
  refine g_cVr C [] 7 (m_X7_gate hl hG V1 I1 J1 ng nr a1 a2 hng a3 a4 a5 a6) rfl (by decide) rfl rfl rfl tw_802 tw_803 tw_804 tw_38 tw_805 pd_X7_gate ⟨rfl, rfl⟩ (by rw [hRm]; exact ⟨Nat.le_of_ble_eq_true rfl, Nat.le_of_ble_eq_true rfl, hc1, hs1⟩) (Nat.le_of_ble_eq_true rfl) dL_law_144 (fun r2 V2 I2 J2 hp => ?_)
  obtain ⟨y, rfl, h7, h80, hI2⟩ := hB _ _ _ _ hp
  refine g_at rfl rfl (st2 := [.int y]) rfl ?_
  refine g_istore C [(6, .int y), (5, .int (nI t)), (0, .ref b), (1, .ref (G.2.1 0)), (2, .ref (G.2.1 7)), (3, .ref (G.2.1 80)), (4, .int (nI i))] dL_law_147 (by decide) rfl ?_
  refine g_aload_n C dL_law_149 rfl 4 rfl ?_
  refine g_cV C [] 7 (m_X7_thrown hl hG V2 I2 J2) rfl (st2 := [.int (V2 7)]) rfl (by decide) rfl rfl rfl tw_798 tw_799 tw_800 tw_38 tw_801 pd_X7_thrown ⟨rfl, rfl⟩ (by rw [hRm]; exact ⟨Nat.le_of_ble_eq_true rfl, Nat.le_of_ble_eq_true rfl, hc1, hs1⟩) (Nat.le_of_ble_eq_true rfl) dL_law_150 ?_
  refine g_iload C dL_law_153 1 rfl ?_
  refine g_icmp_eq C 160 dL_law_155 (by decide) (fun _ => ?_) (fun z => absurd h7 z)
  refine g_iload C dL_law_160 1 rfl ?_
  have hend : WW K G (cells + 6) (slots + 36) Q V2 I2 J2 177 [(6, .int y), (5, .int (nI t)), (0, .ref b), (1, .ref (G.2.1 0)), (2, .ref (G.2.1 7)), (3, .ref (G.2.1 80)), (4, .int (nI i))] [] := by
    refine g_goto C 1436 dL_law_177 (by decide) ?_
    exact g_lv [2, 3, 4, 5, 6] rfl (kk _ _ _ hI2)
  refine g_if_ne C 177 dL_law_162 (by decide) (fun _ => hend) (fun z0 => ?_)
  have t0 : t = 0 := (nI_eq (by omega) (by omega)).mp (z0.trans nI_0.symm)
  have e80 := h80 t0
  refine g_aload_n C dL_law_165 rfl 5 rfl ?_
  refine g_iconst (v := nI 0) C dL_law_166 (by decide) ?_
  refine n_lald C 80 aa_80 0 (by decide) dL_law_167 ?_
  refine g_iload C dL_law_168 0 rfl ?_
  refine g_i2l C dL_law_170 ?_
  refine g_lcmp C dL_law_171 ?_
  exact g_if_eq C 177 dL_law_172 (by decide) (fun _ => hend) (fun z => absurd (lE e80) z)

set_option maxRecDepth 100000 in
theorem lc_road {K : wK} {G : wG} {b L : Nat} {xs : Nat → Int32} (X : LX K G b L xs) {Q : State → Prop} {cells slots : Nat} {V : wV} {I : wI} {J : wJ} {i : Nat} (hi : i + 5 ≤ L) (hI : Inv V I J) (hc1 : cells + 6 ≤ room_1.cells) (hs1 : slots + 36 ≤ room_1.slots) (kk : ∀ V9 I9 J9, Inv V9 I9 J9 → WW K G (cells + 6) (slots + 36) Q V9 I9 J9 1436 [(0, .ref b), (1, .ref (G.2.1 0)), (2, .ref (G.2.1 7)), (3, .ref (G.2.1 80)), (4, .int (nI i))] []) : WW K G cells slots Q V I J 180 [(0, .ref b), (1, .ref (G.2.1 0)), (2, .ref (G.2.1 7)), (3, .ref (G.2.1 80)), (4, .int (nI i))] [] := by
  obtain ⟨ng, nr, ns, n, M, hc, hz, hmV, hmI, hmF, hmJ⟩ := hI
  obtain ⟨⟨v1, v2, v3, v4, v5, hng, hM⟩, hK, hw, hT9, hS9, hends, hhold, h22, h22n⟩ := id hc
  have w24 := hw.1.1
  have C := X.1
  have hRm := X.2.1
  have hl := C.2.2.2.2.2.2
  have hG := C.2.2.1
  refine g_aload_n C dL_law_180 rfl 1 rfl ?_
  refine g_arg X (k := 1) (by decide) (by omega) dL_law_181 dL_law_182 dL_law_184 dL_law_185 dL_law_186 0 rfl 4 rfl ?_
  refine g_arg X (k := 2) (by decide) (by omega) dL_law_187 dL_law_188 dL_law_190 dL_law_191 dL_law_192 0 rfl 4 rfl ?_
  refine g_arg X (k := 3) (by decide) (by omega) dL_law_193 dL_law_194 dL_law_196 dL_law_197 dL_law_198 0 rfl 4 rfl ?_
  refine g_arg X (k := 4) (by decide) (by omega) dL_law_199 dL_law_200 dL_law_202 dL_law_203 dL_law_204 0 rfl 4 rfl ?_
  refine g_aload_n C dL_law_205 rfl 3 rfl ?_
  refine g_callX C [.ref (G.2.1 0), .int (xs (i + 1)), .int (xs (i + 2)), .int (xs (i + 3)), .int (xs (i + 4)), .ref (G.2.1 80)] (m_L_road hl hG V I J ng nr (xs (i + 1)) (xs (i + 2)) (xs (i + 3)) (xs (i + 4)) v1 v2 hng w24) rfl tw_446 tw_447 tw_30 tw_448 pd_L_road (by rw [hRm]; exact ⟨Nat.le_of_ble_eq_true rfl, Nat.le_of_ble_eq_true rfl⟩) (Nat.le_of_ble_eq_true rfl) (by rw [hRm]; exact ⟨hc1, hs1⟩) dL_law_206 (fun E9 V9 I9 J9 hx9 => hx9.elim) (fun r1 V1 I1 J1 hA => ?_)
  obtain ⟨t, rfl, ht4, hpre, hB⟩ := st_road hc hz hmV hmI hmF hmJ hA
  obtain ⟨a1, a2, a3⟩ := hpre
  refine g_cs (c2 := cells + 6) (s2 := slots + 36) rfl rfl ?_
  refine g_at rfl rfl (st2 := [.int (nI t)]) rfl ?_
  refine g_istore C [(5, .int (nI t)), (0, .ref b), (1, .ref (G.2.1 0)), (2, .ref (G.2.1 7)), (3, .ref (G.2.1 80)), (4, .int (nI i))] dL_law_209 (by decide) rfl ?_
  refine g_aload_n C dL_law_211 rfl 3 rfl ?_
  refine g_arg X (k := 1) (by decide) (by omega) dL_law_212 dL_law_213 dL_law_215 dL_law_216 dL_law_217 1 rfl 5 rfl ?_
  refine g_arg X (k := 2) (by decide) (by omega) dL_law_218 dL_law_219 dL_law_221 dL_law_222 dL_law_223 1 rfl 5 rfl ?_
  refine g_arg X (k := 3) (by decide) (by omega) dL_law_224 dL_law_225 dL_law_227 dL_law_228 dL_law_229 1 rfl 5 rfl ?_
  refine g_arg X (k := 4) (by decide) (by omega) dL_law_230 dL_law_231 dL_law_233 dL_law_234 dL_law_235 1 rfl 5 rfl ?_
  refine g_cVr C [.int (xs (i + 1)), .int (xs (i + 2)), .int (xs (i + 3)), .int (xs (i + 4))] 7 (m_X7_road hl hG V1 I1 J1 ng nr (xs (i + 1)) (xs (i + 2)) (xs (i + 3)) (xs (i + 4)) a1 a2 hng w24 a3) rfl (by decide) rfl rfl rfl tw_811 tw_812 tw_813 tw_38 tw_814 pd_X7_road ⟨rfl, rfl⟩ (by rw [hRm]; exact ⟨Nat.le_of_ble_eq_true rfl, Nat.le_of_ble_eq_true rfl, hc1, hs1⟩) (Nat.le_of_ble_eq_true rfl) dL_law_236 (fun r2 V2 I2 J2 hp => ?_)
  obtain ⟨y, rfl, h7, h80, hI2⟩ := hB _ _ _ _ hp
  refine g_at rfl rfl (st2 := [.int y]) rfl ?_
  refine g_istore C [(6, .int y), (5, .int (nI t)), (0, .ref b), (1, .ref (G.2.1 0)), (2, .ref (G.2.1 7)), (3, .ref (G.2.1 80)), (4, .int (nI i))] dL_law_239 (by decide) rfl ?_
  refine g_aload_n C dL_law_241 rfl 4 rfl ?_
  refine g_cV C [] 7 (m_X7_thrown hl hG V2 I2 J2) rfl (st2 := [.int (V2 7)]) rfl (by decide) rfl rfl rfl tw_798 tw_799 tw_800 tw_38 tw_801 pd_X7_thrown ⟨rfl, rfl⟩ (by rw [hRm]; exact ⟨Nat.le_of_ble_eq_true rfl, Nat.le_of_ble_eq_true rfl, hc1, hs1⟩) (Nat.le_of_ble_eq_true rfl) dL_law_242 ?_
  refine g_iload C dL_law_245 1 rfl ?_
  refine g_icmp_eq C 252 dL_law_247 (by decide) (fun _ => ?_) (fun z => absurd h7 z)
  refine g_iload C dL_law_252 1 rfl ?_
  have hend : WW K G (cells + 6) (slots + 36) Q V2 I2 J2 269 [(6, .int y), (5, .int (nI t)), (0, .ref b), (1, .ref (G.2.1 0)), (2, .ref (G.2.1 7)), (3, .ref (G.2.1 80)), (4, .int (nI i))] [] := by
    refine g_goto C 1436 dL_law_269 (by decide) ?_
    exact g_lv [2, 3, 4, 5, 6] rfl (kk _ _ _ hI2)
  refine g_if_ne C 269 dL_law_254 (by decide) (fun _ => hend) (fun z0 => ?_)
  have t0 : t = 0 := (nI_eq (by omega) (by omega)).mp (z0.trans nI_0.symm)
  have e80 := h80 t0
  refine g_aload_n C dL_law_257 rfl 5 rfl ?_
  refine g_iconst (v := nI 0) C dL_law_258 (by decide) ?_
  refine n_lald C 80 aa_80 0 (by decide) dL_law_259 ?_
  refine g_iload C dL_law_260 0 rfl ?_
  refine g_i2l C dL_law_262 ?_
  refine g_lcmp C dL_law_263 ?_
  exact g_if_eq C 269 dL_law_264 (by decide) (fun _ => hend) (fun z => absurd (lE e80) z)

set_option maxRecDepth 100000 in
theorem lc_rate {K : wK} {G : wG} {b L : Nat} {xs : Nat → Int32} (X : LX K G b L xs) {Q : State → Prop} {cells slots : Nat} {V : wV} {I : wI} {J : wJ} {i : Nat} (hi : i + 5 ≤ L) (hI : Inv V I J) (hc1 : cells + 6 ≤ room_1.cells) (hs1 : slots + 36 ≤ room_1.slots) (kk : ∀ V9 I9 J9, Inv V9 I9 J9 → WW K G (cells + 6) (slots + 36) Q V9 I9 J9 1436 [(0, .ref b), (1, .ref (G.2.1 0)), (2, .ref (G.2.1 7)), (3, .ref (G.2.1 80)), (4, .int (nI i))] []) : WW K G cells slots Q V I J 272 [(0, .ref b), (1, .ref (G.2.1 0)), (2, .ref (G.2.1 7)), (3, .ref (G.2.1 80)), (4, .int (nI i))] [] := by
  obtain ⟨ng, nr, ns, n, M, hc, hz, hmV, hmI, hmF, hmJ⟩ := hI
  obtain ⟨⟨v1, v2, v3, v4, v5, hng, hM⟩, hK, hw, hT9, hS9, hends, hhold, h22, h22n⟩ := id hc
  have w24 := hw.1.1
  have C := X.1
  have hRm := X.2.1
  have hl := C.2.2.2.2.2.2
  have hG := C.2.2.1
  refine g_aload_n C dL_law_272 rfl 1 rfl ?_
  refine g_arg X (k := 1) (by decide) (by omega) dL_law_273 dL_law_274 dL_law_276 dL_law_277 dL_law_278 0 rfl 4 rfl ?_
  refine g_arg X (k := 2) (by decide) (by omega) dL_law_279 dL_law_280 dL_law_282 dL_law_283 dL_law_284 0 rfl 4 rfl ?_
  refine g_arg X (k := 3) (by decide) (by omega) dL_law_285 dL_law_286 dL_law_288 dL_law_289 dL_law_290 0 rfl 4 rfl ?_
  refine g_callX C [.ref (G.2.1 0), .int (xs (i + 1)), .int (xs (i + 2)), .int (xs (i + 3))] (m_L_rate hl hG V I J (xs (i + 1)) (xs (i + 2)) (xs (i + 3))) rfl tw_505 tw_506 tw_30 tw_507 pd_L_rate (by rw [hRm]; exact ⟨Nat.le_of_ble_eq_true rfl, Nat.le_of_ble_eq_true rfl⟩) (Nat.le_of_ble_eq_true rfl) (by rw [hRm]; exact ⟨hc1, hs1⟩) dL_law_291 (fun E9 V9 I9 J9 hx9 => hx9.elim) (fun r1 V1 I1 J1 hA => ?_)
  obtain ⟨t, rfl, ht4, hpre, hB⟩ := st_rate hc hz hmV hmI hmF hmJ hA
  refine g_cs (c2 := cells + 6) (s2 := slots + 36) rfl rfl ?_
  refine g_at rfl rfl (st2 := [.int (nI t)]) rfl ?_
  refine g_istore C [(5, .int (nI t)), (0, .ref b), (1, .ref (G.2.1 0)), (2, .ref (G.2.1 7)), (3, .ref (G.2.1 80)), (4, .int (nI i))] dL_law_294 (by decide) rfl ?_
  refine g_aload_n C dL_law_296 rfl 3 rfl ?_
  refine g_arg X (k := 1) (by decide) (by omega) dL_law_297 dL_law_298 dL_law_300 dL_law_301 dL_law_302 1 rfl 5 rfl ?_
  refine g_arg X (k := 2) (by decide) (by omega) dL_law_303 dL_law_304 dL_law_306 dL_law_307 dL_law_308 1 rfl 5 rfl ?_
  refine g_arg X (k := 3) (by decide) (by omega) dL_law_309 dL_law_310 dL_law_312 dL_law_313 dL_law_314 1 rfl 5 rfl ?_
  refine g_cVr C [.int (xs (i + 1)), .int (xs (i + 2)), .int (xs (i + 3))] 7 (m_X7_rate hl hG V1 I1 J1 (xs (i + 1)) (xs (i + 2)) (xs (i + 3))) rfl (by decide) rfl rfl rfl tw_822 tw_823 tw_824 tw_38 tw_825 pd_X7_rate ⟨rfl, rfl⟩ (by rw [hRm]; exact ⟨Nat.le_of_ble_eq_true rfl, Nat.le_of_ble_eq_true rfl, hc1, hs1⟩) (Nat.le_of_ble_eq_true rfl) dL_law_315 (fun r2 V2 I2 J2 hp => ?_)
  obtain ⟨rfl, h7, hI2⟩ := hB _ _ _ _ hp
  refine g_at rfl rfl (st2 := []) rfl ?_
  refine g_aload_n C dL_law_318 rfl 3 rfl ?_
  refine g_cV C [] 7 (m_X7_thrown hl hG V2 I2 J2) rfl (st2 := [.int (V2 7)]) rfl (by decide) rfl rfl rfl tw_798 tw_799 tw_800 tw_38 tw_801 pd_X7_thrown ⟨rfl, rfl⟩ (by rw [hRm]; exact ⟨Nat.le_of_ble_eq_true rfl, Nat.le_of_ble_eq_true rfl, hc1, hs1⟩) (Nat.le_of_ble_eq_true rfl) dL_law_319 ?_
  refine g_iload C dL_law_322 0 rfl ?_
  refine g_icmp_eq C 329 dL_law_324 (by decide) (fun _ => ?_) (fun z => absurd h7 z)
  refine g_goto C 1436 dL_law_329 (by decide) ?_
  exact g_lv [1, 2, 3, 4, 5] rfl (kk _ _ _ hI2)

set_option maxRecDepth 100000 in
theorem lc_most {K : wK} {G : wG} {b L : Nat} {xs : Nat → Int32} (X : LX K G b L xs) {Q : State → Prop} {cells slots : Nat} {V : wV} {I : wI} {J : wJ} {i : Nat} (hi : i + 5 ≤ L) (hI : Inv V I J) (hc1 : cells + 6 ≤ room_1.cells) (hs1 : slots + 36 ≤ room_1.slots) (kk : ∀ V9 I9 J9, Inv V9 I9 J9 → WW K G (cells + 6) (slots + 36) Q V9 I9 J9 1436 [(0, .ref b), (1, .ref (G.2.1 0)), (2, .ref (G.2.1 7)), (3, .ref (G.2.1 80)), (4, .int (nI i))] []) : WW K G cells slots Q V I J 332 [(0, .ref b), (1, .ref (G.2.1 0)), (2, .ref (G.2.1 7)), (3, .ref (G.2.1 80)), (4, .int (nI i))] [] := by
  obtain ⟨ng, nr, ns, n, M, hc, hz, hmV, hmI, hmF, hmJ⟩ := hI
  obtain ⟨⟨v1, v2, v3, v4, v5, hng, hM⟩, hK, hw, hT9, hS9, hends, hhold, h22, h22n⟩ := id hc
  have w24 := hw.1.1
  have C := X.1
  have hRm := X.2.1
  have hl := C.2.2.2.2.2.2
  have hG := C.2.2.1
  refine g_aload_n C dL_law_332 rfl 1 rfl ?_
  refine g_arg X (k := 1) (by decide) (by omega) dL_law_333 dL_law_334 dL_law_336 dL_law_337 dL_law_338 0 rfl 4 rfl ?_
  refine g_aload_n C dL_law_339 rfl 3 rfl ?_
  refine g_callX C [.ref (G.2.1 0), .int (xs (i + 1)), .ref (G.2.1 80)] (m_L_most hl hG V I J (xs (i + 1))) rfl tw_512 tw_513 tw_30 tw_514 pd_L_most (by rw [hRm]; exact ⟨Nat.le_of_ble_eq_true rfl, Nat.le_of_ble_eq_true rfl⟩) (Nat.le_of_ble_eq_true rfl) (by rw [hRm]; exact ⟨hc1, hs1⟩) dL_law_340 (fun E9 V9 I9 J9 hx9 => hx9.elim) (fun r1 V1 I1 J1 hA => ?_)
  obtain ⟨t, rfl, ht4, hpre, hB⟩ := st_most hc hz hmV hmI hmF hmJ hA
  refine g_cs (c2 := cells + 6) (s2 := slots + 36) rfl rfl ?_
  refine g_at rfl rfl (st2 := [.int (nI t)]) rfl ?_
  refine g_istore C [(5, .int (nI t)), (0, .ref b), (1, .ref (G.2.1 0)), (2, .ref (G.2.1 7)), (3, .ref (G.2.1 80)), (4, .int (nI i))] dL_law_343 (by decide) rfl ?_
  refine g_aload_n C dL_law_345 rfl 3 rfl ?_
  refine g_arg X (k := 1) (by decide) (by omega) dL_law_346 dL_law_347 dL_law_349 dL_law_350 dL_law_351 1 rfl 5 rfl ?_
  refine g_cVr C [.int (xs (i + 1))] 7 (m_X7_most hl hG V1 I1 J1 (xs (i + 1))) rfl (by decide) rfl rfl rfl tw_826 tw_827 tw_828 tw_38 tw_829 pd_X7_most ⟨rfl, rfl⟩ (by rw [hRm]; exact ⟨Nat.le_of_ble_eq_true rfl, Nat.le_of_ble_eq_true rfl, hc1, hs1⟩) (Nat.le_of_ble_eq_true rfl) dL_law_352 (fun r2 V2 I2 J2 hp => ?_)
  obtain ⟨y, rfl, h7, h80, hI2⟩ := hB _ _ _ _ hp
  refine g_at rfl rfl (st2 := [.int y]) rfl ?_
  refine g_istore C [(6, .int y), (5, .int (nI t)), (0, .ref b), (1, .ref (G.2.1 0)), (2, .ref (G.2.1 7)), (3, .ref (G.2.1 80)), (4, .int (nI i))] dL_law_355 (by decide) rfl ?_
  refine g_aload_n C dL_law_357 rfl 4 rfl ?_
  refine g_cV C [] 7 (m_X7_thrown hl hG V2 I2 J2) rfl (st2 := [.int (V2 7)]) rfl (by decide) rfl rfl rfl tw_798 tw_799 tw_800 tw_38 tw_801 pd_X7_thrown ⟨rfl, rfl⟩ (by rw [hRm]; exact ⟨Nat.le_of_ble_eq_true rfl, Nat.le_of_ble_eq_true rfl, hc1, hs1⟩) (Nat.le_of_ble_eq_true rfl) dL_law_358 ?_
  refine g_iload C dL_law_361 1 rfl ?_
  refine g_icmp_eq C 368 dL_law_363 (by decide) (fun _ => ?_) (fun z => absurd h7 z)
  refine g_iload C dL_law_368 1 rfl ?_
  have hend : WW K G (cells + 6) (slots + 36) Q V2 I2 J2 385 [(6, .int y), (5, .int (nI t)), (0, .ref b), (1, .ref (G.2.1 0)), (2, .ref (G.2.1 7)), (3, .ref (G.2.1 80)), (4, .int (nI i))] [] := by
    refine g_goto C 1436 dL_law_385 (by decide) ?_
    exact g_lv [2, 3, 4, 5, 6] rfl (kk _ _ _ hI2)
  refine g_if_ne C 385 dL_law_370 (by decide) (fun _ => hend) (fun z0 => ?_)
  have t0 : t = 0 := (nI_eq (by omega) (by omega)).mp (z0.trans nI_0.symm)
  have e80 := h80 t0
  refine g_aload_n C dL_law_373 rfl 5 rfl ?_
  refine g_iconst (v := nI 0) C dL_law_374 (by decide) ?_
  refine n_lald C 80 aa_80 0 (by decide) dL_law_375 ?_
  refine g_iload C dL_law_376 0 rfl ?_
  refine g_i2l C dL_law_378 ?_
  refine g_lcmp C dL_law_379 ?_
  exact g_if_eq C 385 dL_law_380 (by decide) (fun _ => hend) (fun z => absurd (lE e80) z)

set_option maxRecDepth 100000 in
theorem lc_plate {K : wK} {G : wG} {b L : Nat} {xs : Nat → Int32} (X : LX K G b L xs) {Q : State → Prop} {cells slots : Nat} {V : wV} {I : wI} {J : wJ} {i : Nat} (hi : i + 5 ≤ L) (hI : Inv V I J) (hc1 : cells + 6 ≤ room_1.cells) (hs1 : slots + 36 ≤ room_1.slots) (kk : ∀ V9 I9 J9, Inv V9 I9 J9 → WW K G (cells + 6) (slots + 36) Q V9 I9 J9 1436 [(0, .ref b), (1, .ref (G.2.1 0)), (2, .ref (G.2.1 7)), (3, .ref (G.2.1 80)), (4, .int (nI i))] []) : WW K G cells slots Q V I J 388 [(0, .ref b), (1, .ref (G.2.1 0)), (2, .ref (G.2.1 7)), (3, .ref (G.2.1 80)), (4, .int (nI i))] [] := by
  obtain ⟨ng, nr, ns, n, M, hc, hz, hmV, hmI, hmF, hmJ⟩ := hI
  obtain ⟨⟨v1, v2, v3, v4, v5, hng, hM⟩, hK, hw, hT9, hS9, hends, hhold, h22, h22n⟩ := id hc
  have w24 := hw.1.1
  have C := X.1
  have hRm := X.2.1
  have hl := C.2.2.2.2.2.2
  have hG := C.2.2.1
  refine g_aload_n C dL_law_388 rfl 1 rfl ?_
  refine g_arg X (k := 1) (by decide) (by omega) dL_law_389 dL_law_390 dL_law_392 dL_law_393 dL_law_394 0 rfl 4 rfl ?_
  refine g_arg X (k := 2) (by decide) (by omega) dL_law_395 dL_law_396 dL_law_398 dL_law_399 dL_law_400 0 rfl 4 rfl ?_
  refine g_arg X (k := 3) (by decide) (by omega) dL_law_401 dL_law_402 dL_law_404 dL_law_405 dL_law_406 0 rfl 4 rfl ?_
  refine g_callX C [.ref (G.2.1 0), .int (xs (i + 1)), .int (xs (i + 2)), .int (xs (i + 3))] (m_L_plate hl hG V I J (xs (i + 1)) (xs (i + 2)) (xs (i + 3))) rfl tw_520 tw_521 tw_30 tw_522 pd_L_plate (by rw [hRm]; exact ⟨Nat.le_of_ble_eq_true rfl, Nat.le_of_ble_eq_true rfl⟩) (Nat.le_of_ble_eq_true rfl) (by rw [hRm]; exact ⟨hc1, hs1⟩) dL_law_407 (fun E9 V9 I9 J9 hx9 => hx9.elim) (fun r1 V1 I1 J1 hA => ?_)
  obtain ⟨t, rfl, ht4, hpre, hB⟩ := st_plate hc hz hmV hmI hmF hmJ hA
  refine g_cs (c2 := cells + 6) (s2 := slots + 36) rfl rfl ?_
  refine g_at rfl rfl (st2 := [.int (nI t)]) rfl ?_
  refine g_istore C [(5, .int (nI t)), (0, .ref b), (1, .ref (G.2.1 0)), (2, .ref (G.2.1 7)), (3, .ref (G.2.1 80)), (4, .int (nI i))] dL_law_410 (by decide) rfl ?_
  refine g_aload_n C dL_law_412 rfl 3 rfl ?_
  refine g_arg X (k := 1) (by decide) (by omega) dL_law_413 dL_law_414 dL_law_416 dL_law_417 dL_law_418 1 rfl 5 rfl ?_
  refine g_arg X (k := 2) (by decide) (by omega) dL_law_419 dL_law_420 dL_law_422 dL_law_423 dL_law_424 1 rfl 5 rfl ?_
  refine g_arg X (k := 3) (by decide) (by omega) dL_law_425 dL_law_426 dL_law_428 dL_law_429 dL_law_430 1 rfl 5 rfl ?_
  refine g_cVr C [.int (xs (i + 1)), .int (xs (i + 2)), .int (xs (i + 3))] 7 (m_X7_plate hl hG V1 I1 J1 (xs (i + 1)) (xs (i + 2)) (xs (i + 3))) rfl (by decide) rfl rfl rfl tw_831 tw_832 tw_833 tw_38 tw_834 pd_X7_plate ⟨rfl, rfl⟩ (by rw [hRm]; exact ⟨Nat.le_of_ble_eq_true rfl, Nat.le_of_ble_eq_true rfl, hc1, hs1⟩) (Nat.le_of_ble_eq_true rfl) dL_law_431 (fun r2 V2 I2 J2 hp => ?_)
  obtain ⟨rfl, h7, hI2⟩ := hB _ _ _ _ hp
  refine g_at rfl rfl (st2 := []) rfl ?_
  refine g_aload_n C dL_law_434 rfl 3 rfl ?_
  refine g_cV C [] 7 (m_X7_thrown hl hG V2 I2 J2) rfl (st2 := [.int (V2 7)]) rfl (by decide) rfl rfl rfl tw_798 tw_799 tw_800 tw_38 tw_801 pd_X7_thrown ⟨rfl, rfl⟩ (by rw [hRm]; exact ⟨Nat.le_of_ble_eq_true rfl, Nat.le_of_ble_eq_true rfl, hc1, hs1⟩) (Nat.le_of_ble_eq_true rfl) dL_law_435 ?_
  refine g_iload C dL_law_438 0 rfl ?_
  refine g_icmp_eq C 445 dL_law_440 (by decide) (fun _ => ?_) (fun z => absurd h7 z)
  refine g_goto C 1436 dL_law_445 (by decide) ?_
  exact g_lv [1, 2, 3, 4, 5] rfl (kk _ _ _ hI2)

set_option maxRecDepth 100000 in
theorem lc_top {K : wK} {G : wG} {b L : Nat} {xs : Nat → Int32} (X : LX K G b L xs) {Q : State → Prop} {cells slots : Nat} {V : wV} {I : wI} {J : wJ} {i : Nat} (hi : i + 5 ≤ L) (hI : Inv V I J) (hc1 : cells + 6 ≤ room_1.cells) (hs1 : slots + 36 ≤ room_1.slots) (kk : ∀ V9 I9 J9, Inv V9 I9 J9 → WW K G (cells + 6) (slots + 36) Q V9 I9 J9 1436 [(0, .ref b), (1, .ref (G.2.1 0)), (2, .ref (G.2.1 7)), (3, .ref (G.2.1 80)), (4, .int (nI i))] []) : WW K G cells slots Q V I J 448 [(0, .ref b), (1, .ref (G.2.1 0)), (2, .ref (G.2.1 7)), (3, .ref (G.2.1 80)), (4, .int (nI i))] [] := by
  obtain ⟨ng, nr, ns, n, M, hc, hz, hmV, hmI, hmF, hmJ⟩ := hI
  obtain ⟨⟨v1, v2, v3, v4, v5, hng, hM⟩, hK, hw, hT9, hS9, hends, hhold, h22, h22n⟩ := id hc
  have w24 := hw.1.1
  have C := X.1
  have hRm := X.2.1
  have hl := C.2.2.2.2.2.2
  have hG := C.2.2.1
  refine g_aload_n C dL_law_448 rfl 1 rfl ?_
  refine g_arg X (k := 1) (by decide) (by omega) dL_law_449 dL_law_450 dL_law_452 dL_law_453 dL_law_454 0 rfl 4 rfl ?_
  refine g_arg X (k := 2) (by decide) (by omega) dL_law_455 dL_law_456 dL_law_458 dL_law_459 dL_law_460 0 rfl 4 rfl ?_
  refine g_aload_n C dL_law_461 rfl 3 rfl ?_
  refine g_callX C [.ref (G.2.1 0), .int (xs (i + 1)), .int (xs (i + 2)), .ref (G.2.1 80)] (m_L_top hl hG V I J (xs (i + 1)) (xs (i + 2))) rfl tw_531 tw_532 tw_30 tw_533 pd_L_top (by rw [hRm]; exact ⟨Nat.le_of_ble_eq_true rfl, Nat.le_of_ble_eq_true rfl⟩) (Nat.le_of_ble_eq_true rfl) (by rw [hRm]; exact ⟨hc1, hs1⟩) dL_law_462 (fun E9 V9 I9 J9 hx9 => hx9.elim) (fun r1 V1 I1 J1 hA => ?_)
  obtain ⟨t, rfl, ht4, hpre, hB⟩ := st_top hc hz hmV hmI hmF hmJ hA
  refine g_cs (c2 := cells + 6) (s2 := slots + 36) rfl rfl ?_
  refine g_at rfl rfl (st2 := [.int (nI t)]) rfl ?_
  refine g_istore C [(5, .int (nI t)), (0, .ref b), (1, .ref (G.2.1 0)), (2, .ref (G.2.1 7)), (3, .ref (G.2.1 80)), (4, .int (nI i))] dL_law_465 (by decide) rfl ?_
  refine g_aload_n C dL_law_467 rfl 3 rfl ?_
  refine g_arg X (k := 1) (by decide) (by omega) dL_law_468 dL_law_469 dL_law_471 dL_law_472 dL_law_473 1 rfl 5 rfl ?_
  refine g_arg X (k := 2) (by decide) (by omega) dL_law_474 dL_law_475 dL_law_477 dL_law_478 dL_law_479 1 rfl 5 rfl ?_
  refine g_cVr C [.int (xs (i + 1)), .int (xs (i + 2))] 7 (m_X7_top hl hG V1 I1 J1 (xs (i + 1)) (xs (i + 2))) rfl (by decide) rfl rfl rfl tw_841 tw_842 tw_843 tw_38 tw_844 pd_X7_top ⟨rfl, rfl⟩ (by rw [hRm]; exact ⟨Nat.le_of_ble_eq_true rfl, Nat.le_of_ble_eq_true rfl, hc1, hs1⟩) (Nat.le_of_ble_eq_true rfl) dL_law_480 (fun r2 V2 I2 J2 hp => ?_)
  obtain ⟨y, rfl, h7, h80, hI2⟩ := hB _ _ _ _ hp
  refine g_at rfl rfl (st2 := [.long y]) rfl ?_
  refine g_lstore C [(6, .long y), (5, .int (nI t)), (0, .ref b), (1, .ref (G.2.1 0)), (2, .ref (G.2.1 7)), (3, .ref (G.2.1 80)), (4, .int (nI i))] dL_law_483 (by decide) rfl ?_
  refine g_aload_n C dL_law_485 rfl 4 rfl ?_
  refine g_cV C [] 7 (m_X7_thrown hl hG V2 I2 J2) rfl (st2 := [.int (V2 7)]) rfl (by decide) rfl rfl rfl tw_798 tw_799 tw_800 tw_38 tw_801 pd_X7_thrown ⟨rfl, rfl⟩ (by rw [hRm]; exact ⟨Nat.le_of_ble_eq_true rfl, Nat.le_of_ble_eq_true rfl, hc1, hs1⟩) (Nat.le_of_ble_eq_true rfl) dL_law_486 ?_
  refine g_iload C dL_law_489 1 rfl ?_
  refine g_icmp_eq C 496 dL_law_491 (by decide) (fun _ => ?_) (fun z => absurd h7 z)
  refine g_iload C dL_law_496 1 rfl ?_
  have hend : WW K G (cells + 6) (slots + 36) Q V2 I2 J2 512 [(6, .long y), (5, .int (nI t)), (0, .ref b), (1, .ref (G.2.1 0)), (2, .ref (G.2.1 7)), (3, .ref (G.2.1 80)), (4, .int (nI i))] [] := by
    refine g_goto C 1436 dL_law_512 (by decide) ?_
    exact g_lv [2, 3, 4, 5, 6] rfl (kk _ _ _ hI2)
  refine g_if_ne C 512 dL_law_498 (by decide) (fun _ => hend) (fun z0 => ?_)
  have t0 : t = 0 := (nI_eq (by omega) (by omega)).mp (z0.trans nI_0.symm)
  have e80 := h80 t0
  refine g_aload_n C dL_law_501 rfl 5 rfl ?_
  refine g_iconst (v := nI 0) C dL_law_502 (by decide) ?_
  refine n_lald C 80 aa_80 0 (by decide) dL_law_503 ?_
  refine g_lload C dL_law_504 0 rfl ?_
  refine g_lcmp C dL_law_506 ?_
  exact g_if_eq C 512 dL_law_507 (by decide) (fun _ => hend) (fun z => absurd (lE e80) z)

set_option maxRecDepth 100000 in
theorem lc_exempt {K : wK} {G : wG} {b L : Nat} {xs : Nat → Int32} (X : LX K G b L xs) {Q : State → Prop} {cells slots : Nat} {V : wV} {I : wI} {J : wJ} {i : Nat} (hi : i + 5 ≤ L) (hI : Inv V I J) (hc1 : cells + 6 ≤ room_1.cells) (hs1 : slots + 36 ≤ room_1.slots) (kk : ∀ V9 I9 J9, Inv V9 I9 J9 → WW K G (cells + 6) (slots + 36) Q V9 I9 J9 1436 [(0, .ref b), (1, .ref (G.2.1 0)), (2, .ref (G.2.1 7)), (3, .ref (G.2.1 80)), (4, .int (nI i))] []) : WW K G cells slots Q V I J 515 [(0, .ref b), (1, .ref (G.2.1 0)), (2, .ref (G.2.1 7)), (3, .ref (G.2.1 80)), (4, .int (nI i))] [] := by
  obtain ⟨ng, nr, ns, n, M, hc, hz, hmV, hmI, hmF, hmJ⟩ := hI
  obtain ⟨⟨v1, v2, v3, v4, v5, hng, hM⟩, hK, hw, hT9, hS9, hends, hhold, h22, h22n⟩ := id hc
  have w24 := hw.1.1
  have C := X.1
  have hRm := X.2.1
  have hl := C.2.2.2.2.2.2
  have hG := C.2.2.1
  refine g_aload_n C dL_law_515 rfl 1 rfl ?_
  refine g_arg X (k := 1) (by decide) (by omega) dL_law_516 dL_law_517 dL_law_519 dL_law_520 dL_law_521 0 rfl 4 rfl ?_
  refine g_arg X (k := 2) (by decide) (by omega) dL_law_522 dL_law_523 dL_law_525 dL_law_526 dL_law_527 0 rfl 4 rfl ?_
  refine g_arg X (k := 3) (by decide) (by omega) dL_law_528 dL_law_529 dL_law_531 dL_law_532 dL_law_533 0 rfl 4 rfl ?_
  refine g_aload_n C dL_law_534 rfl 3 rfl ?_
  refine g_callX C [.ref (G.2.1 0), .int (xs (i + 1)), .int (xs (i + 2)), .int (xs (i + 3)), .ref (G.2.1 80)] (m_L_exempt hl hG V I J ns (xs (i + 1)) (xs (i + 2)) (xs (i + 3)) v4 hw.2.2.1) rfl tw_542 tw_543 tw_30 tw_544 pd_L_exempt (by rw [hRm]; exact ⟨Nat.le_of_ble_eq_true rfl, Nat.le_of_ble_eq_true rfl⟩) (Nat.le_of_ble_eq_true rfl) (by rw [hRm]; exact ⟨hc1, hs1⟩) dL_law_535 (fun E9 V9 I9 J9 hx9 => hx9.elim) (fun r1 V1 I1 J1 hA => ?_)
  obtain ⟨t, rfl, ht4, hpre, hB⟩ := st_exempt hc hz hmV hmI hmF hmJ hA
  have a1 := hpre
  refine g_cs (c2 := cells + 6) (s2 := slots + 36) rfl rfl ?_
  refine g_at rfl rfl (st2 := [.int (nI t)]) rfl ?_
  refine g_istore C [(5, .int (nI t)), (0, .ref b), (1, .ref (G.2.1 0)), (2, .ref (G.2.1 7)), (3, .ref (G.2.1 80)), (4, .int (nI i))] dL_law_538 (by decide) rfl ?_
  refine g_aload_n C dL_law_540 rfl 3 rfl ?_
  refine g_arg X (k := 1) (by decide) (by omega) dL_law_541 dL_law_542 dL_law_544 dL_law_545 dL_law_546 1 rfl 5 rfl ?_
  refine g_arg X (k := 2) (by decide) (by omega) dL_law_547 dL_law_548 dL_law_550 dL_law_551 dL_law_552 1 rfl 5 rfl ?_
  refine g_arg X (k := 3) (by decide) (by omega) dL_law_553 dL_law_554 dL_law_556 dL_law_557 dL_law_558 1 rfl 5 rfl ?_
  refine g_cVr C [.int (xs (i + 1)), .int (xs (i + 2)), .int (xs (i + 3))] 7 (m_X7_exempt hl hG V1 I1 J1 ns (xs (i + 1)) (xs (i + 2)) (xs (i + 3)) a1 hw.2.2.1) rfl (by decide) rfl rfl rfl tw_845 tw_846 tw_847 tw_38 tw_848 pd_X7_exempt ⟨rfl, rfl⟩ (by rw [hRm]; exact ⟨Nat.le_of_ble_eq_true rfl, Nat.le_of_ble_eq_true rfl, hc1, hs1⟩) (Nat.le_of_ble_eq_true rfl) dL_law_559 (fun r2 V2 I2 J2 hp => ?_)
  obtain ⟨y, rfl, h7, h80, hI2⟩ := hB _ _ _ _ hp
  refine g_at rfl rfl (st2 := [.int y]) rfl ?_
  refine g_istore C [(6, .int y), (5, .int (nI t)), (0, .ref b), (1, .ref (G.2.1 0)), (2, .ref (G.2.1 7)), (3, .ref (G.2.1 80)), (4, .int (nI i))] dL_law_562 (by decide) rfl ?_
  refine g_aload_n C dL_law_564 rfl 4 rfl ?_
  refine g_cV C [] 7 (m_X7_thrown hl hG V2 I2 J2) rfl (st2 := [.int (V2 7)]) rfl (by decide) rfl rfl rfl tw_798 tw_799 tw_800 tw_38 tw_801 pd_X7_thrown ⟨rfl, rfl⟩ (by rw [hRm]; exact ⟨Nat.le_of_ble_eq_true rfl, Nat.le_of_ble_eq_true rfl, hc1, hs1⟩) (Nat.le_of_ble_eq_true rfl) dL_law_565 ?_
  refine g_iload C dL_law_568 1 rfl ?_
  refine g_icmp_eq C 575 dL_law_570 (by decide) (fun _ => ?_) (fun z => absurd h7 z)
  refine g_iload C dL_law_575 1 rfl ?_
  have hend : WW K G (cells + 6) (slots + 36) Q V2 I2 J2 592 [(6, .int y), (5, .int (nI t)), (0, .ref b), (1, .ref (G.2.1 0)), (2, .ref (G.2.1 7)), (3, .ref (G.2.1 80)), (4, .int (nI i))] [] := by
    refine g_goto C 1436 dL_law_592 (by decide) ?_
    exact g_lv [2, 3, 4, 5, 6] rfl (kk _ _ _ hI2)
  refine g_if_ne C 592 dL_law_577 (by decide) (fun _ => hend) (fun z0 => ?_)
  have t0 : t = 0 := (nI_eq (by omega) (by omega)).mp (z0.trans nI_0.symm)
  have e80 := h80 t0
  refine g_aload_n C dL_law_580 rfl 5 rfl ?_
  refine g_iconst (v := nI 0) C dL_law_581 (by decide) ?_
  refine n_lald C 80 aa_80 0 (by decide) dL_law_582 ?_
  refine g_iload C dL_law_583 0 rfl ?_
  refine g_i2l C dL_law_585 ?_
  refine g_lcmp C dL_law_586 ?_
  exact g_if_eq C 592 dL_law_587 (by decide) (fun _ => hend) (fun z => absurd (lE e80) z)

set_option maxRecDepth 100000 in
theorem lc_read {K : wK} {G : wG} {b L : Nat} {xs : Nat → Int32} (X : LX K G b L xs) {Q : State → Prop} {cells slots : Nat} {V : wV} {I : wI} {J : wJ} {i : Nat} (hi : i + 5 ≤ L) (hI : Inv V I J) (hc1 : cells + 6 ≤ room_1.cells) (hs1 : slots + 36 ≤ room_1.slots) (kk : ∀ V9 I9 J9, Inv V9 I9 J9 → WW K G (cells + 6) (slots + 36) Q V9 I9 J9 1436 [(0, .ref b), (1, .ref (G.2.1 0)), (2, .ref (G.2.1 7)), (3, .ref (G.2.1 80)), (4, .int (nI i))] []) : WW K G cells slots Q V I J 595 [(0, .ref b), (1, .ref (G.2.1 0)), (2, .ref (G.2.1 7)), (3, .ref (G.2.1 80)), (4, .int (nI i))] [] := by
  obtain ⟨ng, nr, ns, n, M, hc, hz, hmV, hmI, hmF, hmJ⟩ := hI
  obtain ⟨⟨v1, v2, v3, v4, v5, hng, hM⟩, hK, hw, hT9, hS9, hends, hhold, h22, h22n⟩ := id hc
  have w24 := hw.1.1
  have C := X.1
  have hRm := X.2.1
  have hl := C.2.2.2.2.2.2
  have hG := C.2.2.1
  refine g_aload_n C dL_law_595 rfl 1 rfl ?_
  refine g_arg X (k := 1) (by decide) (by omega) dL_law_596 dL_law_597 dL_law_599 dL_law_600 dL_law_601 0 rfl 4 rfl ?_
  refine g_arg X (k := 2) (by decide) (by omega) dL_law_602 dL_law_603 dL_law_605 dL_law_606 dL_law_607 0 rfl 4 rfl ?_
  refine g_arg X (k := 3) (by decide) (by omega) dL_law_608 dL_law_609 dL_law_611 dL_law_612 dL_law_613 0 rfl 4 rfl ?_
  refine g_aload_n C dL_law_614 rfl 3 rfl ?_
  refine g_callX C [.ref (G.2.1 0), .int (xs (i + 1)), .int (xs (i + 2)), .int (xs (i + 3)), .ref (G.2.1 80)] (m_L_read hl hG V I J ng n (xs (i + 1)) (xs (i + 2)) (xs (i + 3)) v1 v5 hng hw.2.2.2.1 hw.2.2.2.2.1) rfl tw_554 tw_555 tw_30 tw_556 pd_L_read (by rw [hRm]; exact ⟨Nat.le_of_ble_eq_true rfl, Nat.le_of_ble_eq_true rfl⟩) (Nat.le_of_ble_eq_true rfl) (by rw [hRm]; exact ⟨hc1, hs1⟩) dL_law_615 (fun E9 V9 I9 J9 hx9 => hx9.elim) (fun r1 V1 I1 J1 hA => ?_)
  obtain ⟨t, rfl, ht4, hpre, hB⟩ := st_read hc hz hmV hmI hmF hmJ hA
  obtain ⟨a1, a2⟩ := hpre
  refine g_cs (c2 := cells + 6) (s2 := slots + 36) rfl rfl ?_
  refine g_at rfl rfl (st2 := [.int (nI t)]) rfl ?_
  refine g_istore C [(5, .int (nI t)), (0, .ref b), (1, .ref (G.2.1 0)), (2, .ref (G.2.1 7)), (3, .ref (G.2.1 80)), (4, .int (nI i))] dL_law_618 (by decide) rfl ?_
  refine g_aload_n C dL_law_620 rfl 3 rfl ?_
  refine g_arg X (k := 1) (by decide) (by omega) dL_law_621 dL_law_622 dL_law_624 dL_law_625 dL_law_626 1 rfl 5 rfl ?_
  refine g_arg X (k := 2) (by decide) (by omega) dL_law_627 dL_law_628 dL_law_630 dL_law_631 dL_law_632 1 rfl 5 rfl ?_
  refine g_arg X (k := 3) (by decide) (by omega) dL_law_633 dL_law_634 dL_law_636 dL_law_637 dL_law_638 1 rfl 5 rfl ?_
  refine g_cVr C [.int (xs (i + 1)), .int (xs (i + 2)), .int (xs (i + 3))] 7 (m_X7_read hl hG V1 I1 J1 ng n (xs (i + 1)) (xs (i + 2)) (xs (i + 3)) a1 a2 hng hw.2.2.2.1) rfl (by decide) rfl rfl rfl tw_849 tw_850 tw_851 tw_38 tw_852 pd_X7_read ⟨rfl, rfl⟩ (by rw [hRm]; exact ⟨Nat.le_of_ble_eq_true rfl, Nat.le_of_ble_eq_true rfl, hc1, hs1⟩) (Nat.le_of_ble_eq_true rfl) dL_law_639 (fun r2 V2 I2 J2 hp => ?_)
  obtain ⟨y, rfl, h7, h80, hI2⟩ := hB _ _ _ _ hp
  refine g_at rfl rfl (st2 := [.int y]) rfl ?_
  refine g_istore C [(6, .int y), (5, .int (nI t)), (0, .ref b), (1, .ref (G.2.1 0)), (2, .ref (G.2.1 7)), (3, .ref (G.2.1 80)), (4, .int (nI i))] dL_law_642 (by decide) rfl ?_
  refine g_aload_n C dL_law_644 rfl 4 rfl ?_
  refine g_cV C [] 7 (m_X7_thrown hl hG V2 I2 J2) rfl (st2 := [.int (V2 7)]) rfl (by decide) rfl rfl rfl tw_798 tw_799 tw_800 tw_38 tw_801 pd_X7_thrown ⟨rfl, rfl⟩ (by rw [hRm]; exact ⟨Nat.le_of_ble_eq_true rfl, Nat.le_of_ble_eq_true rfl, hc1, hs1⟩) (Nat.le_of_ble_eq_true rfl) dL_law_645 ?_
  refine g_iload C dL_law_648 1 rfl ?_
  refine g_icmp_eq C 655 dL_law_650 (by decide) (fun _ => ?_) (fun z => absurd h7 z)
  refine g_iload C dL_law_655 1 rfl ?_
  have hend : WW K G (cells + 6) (slots + 36) Q V2 I2 J2 672 [(6, .int y), (5, .int (nI t)), (0, .ref b), (1, .ref (G.2.1 0)), (2, .ref (G.2.1 7)), (3, .ref (G.2.1 80)), (4, .int (nI i))] [] := by
    refine g_goto C 1436 dL_law_672 (by decide) ?_
    exact g_lv [2, 3, 4, 5, 6] rfl (kk _ _ _ hI2)
  refine g_if_ne C 672 dL_law_657 (by decide) (fun _ => hend) (fun z0 => ?_)
  have t0 : t = 0 := (nI_eq (by omega) (by omega)).mp (z0.trans nI_0.symm)
  have e80 := h80 t0
  refine g_aload_n C dL_law_660 rfl 5 rfl ?_
  refine g_iconst (v := nI 0) C dL_law_661 (by decide) ?_
  refine n_lald C 80 aa_80 0 (by decide) dL_law_662 ?_
  refine g_iload C dL_law_663 0 rfl ?_
  refine g_i2l C dL_law_665 ?_
  refine g_lcmp C dL_law_666 ?_
  exact g_if_eq C 672 dL_law_667 (by decide) (fun _ => hend) (fun z => absurd (lE e80) z)

set_option maxRecDepth 100000 in
theorem lc_strike {K : wK} {G : wG} {b L : Nat} {xs : Nat → Int32} (X : LX K G b L xs) {Q : State → Prop} {cells slots : Nat} {V : wV} {I : wI} {J : wJ} {i : Nat} (hi : i + 5 ≤ L) (hI : Inv V I J) (hc1 : cells + 6 ≤ room_1.cells) (hs1 : slots + 36 ≤ room_1.slots) (kk : ∀ V9 I9 J9, Inv V9 I9 J9 → WW K G (cells + 6) (slots + 36) Q V9 I9 J9 1436 [(0, .ref b), (1, .ref (G.2.1 0)), (2, .ref (G.2.1 7)), (3, .ref (G.2.1 80)), (4, .int (nI i))] []) : WW K G cells slots Q V I J 675 [(0, .ref b), (1, .ref (G.2.1 0)), (2, .ref (G.2.1 7)), (3, .ref (G.2.1 80)), (4, .int (nI i))] [] := by
  obtain ⟨ng, nr, ns, n, M, hc, hz, hmV, hmI, hmF, hmJ⟩ := hI
  obtain ⟨⟨v1, v2, v3, v4, v5, hng, hM⟩, hK, hw, hT9, hS9, hends, hhold, h22, h22n⟩ := id hc
  have w24 := hw.1.1
  have C := X.1
  have hRm := X.2.1
  have hl := C.2.2.2.2.2.2
  have hG := C.2.2.1
  refine g_aload_n C dL_law_675 rfl 1 rfl ?_
  refine g_arg X (k := 1) (by decide) (by omega) dL_law_676 dL_law_677 dL_law_679 dL_law_680 dL_law_681 0 rfl 4 rfl ?_
  refine g_callX C [.ref (G.2.1 0), .int (xs (i + 1))] (m_L_strike hl hG V I J n (xs (i + 1)) v5 hw.2.2.2.1) rfl tw_566 tw_567 tw_30 tw_568 pd_L_strike (by rw [hRm]; exact ⟨Nat.le_of_ble_eq_true rfl, Nat.le_of_ble_eq_true rfl⟩) (Nat.le_of_ble_eq_true rfl) (by rw [hRm]; exact ⟨hc1, hs1⟩) dL_law_682 (fun E9 V9 I9 J9 hx9 => hx9.elim) (fun r1 V1 I1 J1 hA => ?_)
  obtain ⟨t, rfl, ht4, hpre, hB⟩ := st_strike hc hz hmV hmI hmF hmJ hA
  have a1 := hpre
  refine g_cs (c2 := cells + 6) (s2 := slots + 36) rfl rfl ?_
  refine g_at rfl rfl (st2 := [.int (nI t)]) rfl ?_
  refine g_istore C [(5, .int (nI t)), (0, .ref b), (1, .ref (G.2.1 0)), (2, .ref (G.2.1 7)), (3, .ref (G.2.1 80)), (4, .int (nI i))] dL_law_685 (by decide) rfl ?_
  refine g_aload_n C dL_law_687 rfl 3 rfl ?_
  refine g_arg X (k := 1) (by decide) (by omega) dL_law_688 dL_law_689 dL_law_691 dL_law_692 dL_law_693 1 rfl 5 rfl ?_
  refine g_cVr C [.int (xs (i + 1))] 7 (m_X7_strike hl hG V1 I1 J1 n (xs (i + 1)) a1 hw.2.2.2.1) rfl (by decide) rfl rfl rfl tw_853 tw_854 tw_855 tw_38 tw_856 pd_X7_strike ⟨rfl, rfl⟩ (by rw [hRm]; exact ⟨Nat.le_of_ble_eq_true rfl, Nat.le_of_ble_eq_true rfl, hc1, hs1⟩) (Nat.le_of_ble_eq_true rfl) dL_law_694 (fun r2 V2 I2 J2 hp => ?_)
  obtain ⟨rfl, h7, hI2⟩ := hB _ _ _ _ hp
  refine g_at rfl rfl (st2 := []) rfl ?_
  refine g_aload_n C dL_law_697 rfl 3 rfl ?_
  refine g_cV C [] 7 (m_X7_thrown hl hG V2 I2 J2) rfl (st2 := [.int (V2 7)]) rfl (by decide) rfl rfl rfl tw_798 tw_799 tw_800 tw_38 tw_801 pd_X7_thrown ⟨rfl, rfl⟩ (by rw [hRm]; exact ⟨Nat.le_of_ble_eq_true rfl, Nat.le_of_ble_eq_true rfl, hc1, hs1⟩) (Nat.le_of_ble_eq_true rfl) dL_law_698 ?_
  refine g_iload C dL_law_701 0 rfl ?_
  refine g_icmp_eq C 708 dL_law_703 (by decide) (fun _ => ?_) (fun z => absurd h7 z)
  refine g_goto C 1436 dL_law_708 (by decide) ?_
  exact g_lv [1, 2, 3, 4, 5] rfl (kk _ _ _ hI2)

set_option maxRecDepth 100000 in
theorem lc_pass {K : wK} {G : wG} {b L : Nat} {xs : Nat → Int32} (X : LX K G b L xs) {Q : State → Prop} {cells slots : Nat} {V : wV} {I : wI} {J : wJ} {i : Nat} (hi : i + 5 ≤ L) (hI : Inv V I J) (hc1 : cells + 6 ≤ room_1.cells) (hs1 : slots + 36 ≤ room_1.slots) (kk : ∀ V9 I9 J9, Inv V9 I9 J9 → WW K G (cells + 6) (slots + 36) Q V9 I9 J9 1436 [(0, .ref b), (1, .ref (G.2.1 0)), (2, .ref (G.2.1 7)), (3, .ref (G.2.1 80)), (4, .int (nI i))] []) : WW K G cells slots Q V I J 711 [(0, .ref b), (1, .ref (G.2.1 0)), (2, .ref (G.2.1 7)), (3, .ref (G.2.1 80)), (4, .int (nI i))] [] := by
  obtain ⟨ng, nr, ns, n, M, hc, hz, hmV, hmI, hmF, hmJ⟩ := hI
  obtain ⟨⟨v1, v2, v3, v4, v5, hng, hM⟩, hK, hw, hT9, hS9, hends, hhold, h22, h22n⟩ := id hc
  have w24 := hw.1.1
  have C := X.1
  have hRm := X.2.1
  have hl := C.2.2.2.2.2.2
  have hG := C.2.2.1
  refine g_aload_n C dL_law_711 rfl 1 rfl ?_
  refine g_arg X (k := 1) (by decide) (by omega) dL_law_712 dL_law_713 dL_law_715 dL_law_716 dL_law_717 0 rfl 4 rfl ?_
  refine g_aload_n C dL_law_718 rfl 3 rfl ?_
  refine g_callX C [.ref (G.2.1 0), .int (xs (i + 1)), .ref (G.2.1 80)] (m_L_pass hl hG V I J (xs (i + 1))) rfl tw_579 tw_580 tw_30 tw_581 pd_L_pass (by rw [hRm]; exact ⟨Nat.le_of_ble_eq_true rfl, Nat.le_of_ble_eq_true rfl⟩) (Nat.le_of_ble_eq_true rfl) (by rw [hRm]; exact ⟨hc1, hs1⟩) dL_law_719 (fun E9 V9 I9 J9 hx9 => hx9.elim) (fun r1 V1 I1 J1 hA => ?_)
  obtain ⟨t, rfl, ht4, hpre, hB⟩ := st_pass hc hz hmV hmI hmF hmJ hA
  refine g_cs (c2 := cells + 6) (s2 := slots + 36) rfl rfl ?_
  refine g_at rfl rfl (st2 := [.int (nI t)]) rfl ?_
  refine g_istore C [(5, .int (nI t)), (0, .ref b), (1, .ref (G.2.1 0)), (2, .ref (G.2.1 7)), (3, .ref (G.2.1 80)), (4, .int (nI i))] dL_law_722 (by decide) rfl ?_
  refine g_aload_n C dL_law_724 rfl 3 rfl ?_
  refine g_arg X (k := 1) (by decide) (by omega) dL_law_725 dL_law_726 dL_law_728 dL_law_729 dL_law_730 1 rfl 5 rfl ?_
  refine g_cVr C [.int (xs (i + 1))] 7 (m_X7_pass hl hG V1 I1 J1 (xs (i + 1))) rfl (by decide) rfl rfl rfl tw_861 tw_862 tw_863 tw_38 tw_864 pd_X7_pass ⟨rfl, rfl⟩ (by rw [hRm]; exact ⟨Nat.le_of_ble_eq_true rfl, Nat.le_of_ble_eq_true rfl, hc1, hs1⟩) (Nat.le_of_ble_eq_true rfl) dL_law_731 (fun r2 V2 I2 J2 hp => ?_)
  obtain ⟨y, rfl, h7, h80, hI2⟩ := hB _ _ _ _ hp
  refine g_at rfl rfl (st2 := [.int y]) rfl ?_
  refine g_istore C [(6, .int y), (5, .int (nI t)), (0, .ref b), (1, .ref (G.2.1 0)), (2, .ref (G.2.1 7)), (3, .ref (G.2.1 80)), (4, .int (nI i))] dL_law_734 (by decide) rfl ?_
  refine g_aload_n C dL_law_736 rfl 4 rfl ?_
  refine g_cV C [] 7 (m_X7_thrown hl hG V2 I2 J2) rfl (st2 := [.int (V2 7)]) rfl (by decide) rfl rfl rfl tw_798 tw_799 tw_800 tw_38 tw_801 pd_X7_thrown ⟨rfl, rfl⟩ (by rw [hRm]; exact ⟨Nat.le_of_ble_eq_true rfl, Nat.le_of_ble_eq_true rfl, hc1, hs1⟩) (Nat.le_of_ble_eq_true rfl) dL_law_737 ?_
  refine g_iload C dL_law_740 1 rfl ?_
  refine g_icmp_eq C 747 dL_law_742 (by decide) (fun _ => ?_) (fun z => absurd h7 z)
  refine g_iload C dL_law_747 1 rfl ?_
  have hend : WW K G (cells + 6) (slots + 36) Q V2 I2 J2 764 [(6, .int y), (5, .int (nI t)), (0, .ref b), (1, .ref (G.2.1 0)), (2, .ref (G.2.1 7)), (3, .ref (G.2.1 80)), (4, .int (nI i))] [] := by
    refine g_goto C 1436 dL_law_764 (by decide) ?_
    exact g_lv [2, 3, 4, 5, 6] rfl (kk _ _ _ hI2)
  refine g_if_ne C 764 dL_law_749 (by decide) (fun _ => hend) (fun z0 => ?_)
  have t0 : t = 0 := (nI_eq (by omega) (by omega)).mp (z0.trans nI_0.symm)
  have e80 := h80 t0
  refine g_aload_n C dL_law_752 rfl 5 rfl ?_
  refine g_iconst (v := nI 0) C dL_law_753 (by decide) ?_
  refine n_lald C 80 aa_80 0 (by decide) dL_law_754 ?_
  refine g_iload C dL_law_755 0 rfl ?_
  refine g_i2l C dL_law_757 ?_
  refine g_lcmp C dL_law_758 ?_
  exact g_if_eq C 764 dL_law_759 (by decide) (fun _ => hend) (fun z => absurd (lE e80) z)

set_option maxRecDepth 100000 in
theorem lc_bill {K : wK} {G : wG} {b L : Nat} {xs : Nat → Int32} (X : LX K G b L xs) {Q : State → Prop} {cells slots : Nat} {V : wV} {I : wI} {J : wJ} {i : Nat} (hi : i + 5 ≤ L) (hI : Inv V I J) (hc1 : cells + 6 ≤ room_1.cells) (hs1 : slots + 36 ≤ room_1.slots) (kk : ∀ V9 I9 J9, Inv V9 I9 J9 → WW K G (cells + 6) (slots + 36) Q V9 I9 J9 1436 [(0, .ref b), (1, .ref (G.2.1 0)), (2, .ref (G.2.1 7)), (3, .ref (G.2.1 80)), (4, .int (nI i))] []) : WW K G cells slots Q V I J 767 [(0, .ref b), (1, .ref (G.2.1 0)), (2, .ref (G.2.1 7)), (3, .ref (G.2.1 80)), (4, .int (nI i))] [] := by
  obtain ⟨ng, nr, ns, n, M, hc, hz, hmV, hmI, hmF, hmJ⟩ := hI
  obtain ⟨⟨v1, v2, v3, v4, v5, hng, hM⟩, hK, hw, hT9, hS9, hends, hhold, h22, h22n⟩ := id hc
  have w24 := hw.1.1
  have C := X.1
  have hRm := X.2.1
  have hl := C.2.2.2.2.2.2
  have hG := C.2.2.1
  refine g_aload_n C dL_law_767 rfl 1 rfl ?_
  refine g_wd (c2 := cells + 6) (s2 := slots + 36) (by omega) (by omega) ?_
  refine g_cVr C [] 0 (m_X6_bill hl hG V I J nr n ns v2 v4 v5 hw hz hhold) rfl (by decide) rfl rfl rfl tw_251 tw_252 tw_253 tw_31 tw_254 pd_X6_bill ⟨rfl, rfl⟩ (by rw [hRm]; exact ⟨Nat.le_of_ble_eq_true rfl, Nat.le_of_ble_eq_true rfl, hc1, hs1⟩) (Nat.le_of_ble_eq_true rfl) dL_law_768 (fun r1 V1 I1 J1 hA => ?_)
  obtain ⟨rfl, rfl, rfl, rfl⟩ := hA
  refine g_at rfl rfl (st2 := [.long (blS nr ns n V I J 10).1]) rfl ?_
  refine g_aload_n C dL_law_771 rfl 2 rfl ?_
  have hb := blS_ok (V := V) (J := J) hw hz 10
  have hv1 : vs V (blS nr ns n V I J 10).2.1 := vs_c hb
  have hi1 : es I (blS nr ns n V I J 10).2.2.1 := es_x hb.2.1
  have hcg := cGd_of hc hmV hmI hmF hv1 hi1
  refine g_cVr C [] 7 (m_X7_bill hl hG _ _ _ nr n ns M hcg V I J (fun p _ => eqy_b (eqy_x (blS_ok (V := V) (J := J) hw hz p).2.1) hi1) ((hv1 8 (by decide) (by decide) (by decide)).trans hmV.1) v3.symm (by rw [hi1 15 (by omega)]; exact hhold) (bl_j0 hmJ)) rfl (by decide) rfl rfl rfl tw_865 tw_866 tw_867 tw_38 tw_868 pd_X7_bill ⟨rfl, rfl⟩ (by rw [hRm]; exact ⟨Nat.le_of_ble_eq_true rfl, Nat.le_of_ble_eq_true rfl, hc1, hs1⟩) (Nat.le_of_ble_eq_true rfl) dL_law_772 (fun r2 V2 I2 J2 hB => ?_)
  obtain ⟨rfl, hV, h7, hI9, hE, h63, hO⟩ := hB
  refine g_at rfl rfl (st2 := [.long (blS nr ns n V I J 10).1, .long (blS nr ns n V I J 10).1]) rfl ?_
  refine g_lcmp C dL_law_775 ?_
  exact g_if_eq C 1436 dL_law_776 (by decide) (fun _ => kk _ _ _ (fin_bill hc hz hmV hmI hmF hmJ hV hI9 hE h63 hO)) (fun z => absurd (lE rfl) z)

set_option maxRecDepth 100000 in
theorem lc_distance {K : wK} {G : wG} {b L : Nat} {xs : Nat → Int32} (X : LX K G b L xs) {Q : State → Prop} {cells slots : Nat} {V : wV} {I : wI} {J : wJ} {i : Nat} (hi : i + 5 ≤ L) (hI : Inv V I J) (hc1 : cells + 6 ≤ room_1.cells) (hs1 : slots + 36 ≤ room_1.slots) (kk : ∀ V9 I9 J9, Inv V9 I9 J9 → WW K G (cells + 6) (slots + 36) Q V9 I9 J9 1436 [(0, .ref b), (1, .ref (G.2.1 0)), (2, .ref (G.2.1 7)), (3, .ref (G.2.1 80)), (4, .int (nI i))] []) : WW K G cells slots Q V I J 781 [(0, .ref b), (1, .ref (G.2.1 0)), (2, .ref (G.2.1 7)), (3, .ref (G.2.1 80)), (4, .int (nI i))] [] := by
  obtain ⟨ng, nr, ns, n, M, hc, hz, hmV, hmI, hmF, hmJ⟩ := hI
  obtain ⟨⟨v1, v2, v3, v4, v5, hng, hM⟩, hK, hw, hT9, hS9, hends, hhold, h22, h22n⟩ := id hc
  have w24 := hw.1.1
  have C := X.1
  have hRm := X.2.1
  have hl := C.2.2.2.2.2.2
  have hG := C.2.2.1
  refine g_aload_n C dL_law_781 rfl 1 rfl ?_
  refine g_arg X (k := 1) (by decide) (by omega) dL_law_782 dL_law_783 dL_law_785 dL_law_786 dL_law_787 0 rfl 4 rfl ?_
  refine g_arg X (k := 2) (by decide) (by omega) dL_law_788 dL_law_789 dL_law_791 dL_law_792 dL_law_793 0 rfl 4 rfl ?_
  refine g_aload_n C dL_law_794 rfl 3 rfl ?_
  refine g_callX C [.ref (G.2.1 0), .int (xs (i + 1)), .int (xs (i + 2)), .ref (G.2.1 80)] (m_L_distance hl hG V I J ng (xs (i + 1)) (xs (i + 2)) v1 hng) rfl tw_587 tw_588 tw_30 tw_589 pd_L_distance (by rw [hRm]; exact ⟨Nat.le_of_ble_eq_true rfl, Nat.le_of_ble_eq_true rfl⟩) (Nat.le_of_ble_eq_true rfl) (by rw [hRm]; exact ⟨hc1, hs1⟩) dL_law_795 (fun E9 V9 I9 J9 hx9 => hx9.elim) (fun r1 V1 I1 J1 hA => ?_)
  obtain ⟨t, rfl, ht4, hpre, hB⟩ := st_distance hc hz hmV hmI hmF hmJ hA
  obtain ⟨a1, a2⟩ := hpre
  refine g_cs (c2 := cells + 6) (s2 := slots + 36) rfl rfl ?_
  refine g_at rfl rfl (st2 := [.int (nI t)]) rfl ?_
  refine g_istore C [(5, .int (nI t)), (0, .ref b), (1, .ref (G.2.1 0)), (2, .ref (G.2.1 7)), (3, .ref (G.2.1 80)), (4, .int (nI i))] dL_law_798 (by decide) rfl ?_
  refine g_aload_n C dL_law_800 rfl 3 rfl ?_
  refine g_arg X (k := 1) (by decide) (by omega) dL_law_801 dL_law_802 dL_law_804 dL_law_805 dL_law_806 1 rfl 5 rfl ?_
  refine g_arg X (k := 2) (by decide) (by omega) dL_law_807 dL_law_808 dL_law_810 dL_law_811 dL_law_812 1 rfl 5 rfl ?_
  refine g_cVr C [.int (xs (i + 1)), .int (xs (i + 2))] 7 (m_X7_distance hl hG V1 I1 J1 ng (xs (i + 1)) (xs (i + 2)) a1 hng a2) rfl (by decide) rfl rfl rfl tw_918 tw_919 tw_920 tw_38 tw_921 pd_X7_distance ⟨rfl, rfl⟩ (by rw [hRm]; exact ⟨Nat.le_of_ble_eq_true rfl, Nat.le_of_ble_eq_true rfl, hc1, hs1⟩) (Nat.le_of_ble_eq_true rfl) dL_law_813 (fun r2 V2 I2 J2 hp => ?_)
  obtain ⟨y, rfl, h7, h80, hI2⟩ := hB _ _ _ _ hp
  refine g_at rfl rfl (st2 := [.int y]) rfl ?_
  refine g_istore C [(6, .int y), (5, .int (nI t)), (0, .ref b), (1, .ref (G.2.1 0)), (2, .ref (G.2.1 7)), (3, .ref (G.2.1 80)), (4, .int (nI i))] dL_law_816 (by decide) rfl ?_
  refine g_aload_n C dL_law_818 rfl 4 rfl ?_
  refine g_cV C [] 7 (m_X7_thrown hl hG V2 I2 J2) rfl (st2 := [.int (V2 7)]) rfl (by decide) rfl rfl rfl tw_798 tw_799 tw_800 tw_38 tw_801 pd_X7_thrown ⟨rfl, rfl⟩ (by rw [hRm]; exact ⟨Nat.le_of_ble_eq_true rfl, Nat.le_of_ble_eq_true rfl, hc1, hs1⟩) (Nat.le_of_ble_eq_true rfl) dL_law_819 ?_
  refine g_iload C dL_law_822 1 rfl ?_
  refine g_icmp_eq C 829 dL_law_824 (by decide) (fun _ => ?_) (fun z => absurd h7 z)
  refine g_iload C dL_law_829 1 rfl ?_
  have hend : WW K G (cells + 6) (slots + 36) Q V2 I2 J2 846 [(6, .int y), (5, .int (nI t)), (0, .ref b), (1, .ref (G.2.1 0)), (2, .ref (G.2.1 7)), (3, .ref (G.2.1 80)), (4, .int (nI i))] [] := by
    refine g_goto C 1436 dL_law_846 (by decide) ?_
    exact g_lv [2, 3, 4, 5, 6] rfl (kk _ _ _ hI2)
  refine g_if_ne C 846 dL_law_831 (by decide) (fun _ => hend) (fun z0 => ?_)
  have t0 : t = 0 := (nI_eq (by omega) (by omega)).mp (z0.trans nI_0.symm)
  have e80 := h80 t0
  refine g_aload_n C dL_law_834 rfl 5 rfl ?_
  refine g_iconst (v := nI 0) C dL_law_835 (by decide) ?_
  refine n_lald C 80 aa_80 0 (by decide) dL_law_836 ?_
  refine g_iload C dL_law_837 0 rfl ?_
  refine g_i2l C dL_law_839 ?_
  refine g_lcmp C dL_law_840 ?_
  exact g_if_eq C 846 dL_law_841 (by decide) (fun _ => hend) (fun z => absurd (lE e80) z)

set_option maxRecDepth 100000 in
theorem lc_way {K : wK} {G : wG} {b L : Nat} {xs : Nat → Int32} (X : LX K G b L xs) {Q : State → Prop} {cells slots : Nat} {V : wV} {I : wI} {J : wJ} {i : Nat} (hi : i + 5 ≤ L) (hI : Inv V I J) (hc1 : cells + 6 ≤ room_1.cells) (hs1 : slots + 36 ≤ room_1.slots) (kk : ∀ V9 I9 J9, Inv V9 I9 J9 → WW K G (cells + 6) (slots + 36) Q V9 I9 J9 1436 [(0, .ref b), (1, .ref (G.2.1 0)), (2, .ref (G.2.1 7)), (3, .ref (G.2.1 80)), (4, .int (nI i))] []) : WW K G cells slots Q V I J 849 [(0, .ref b), (1, .ref (G.2.1 0)), (2, .ref (G.2.1 7)), (3, .ref (G.2.1 80)), (4, .int (nI i))] [] := by
  obtain ⟨ng, nr, ns, n, M, hc, hz, hmV, hmI, hmF, hmJ⟩ := hI
  obtain ⟨⟨v1, v2, v3, v4, v5, hng, hM⟩, hK, hw, hT9, hS9, hends, hhold, h22, h22n⟩ := id hc
  have w24 := hw.1.1
  have C := X.1
  have hRm := X.2.1
  have hl := C.2.2.2.2.2.2
  have hG := C.2.2.1
  refine g_aload_n C dL_law_849 rfl 1 rfl ?_
  refine g_arg X (k := 1) (by decide) (by omega) dL_law_850 dL_law_851 dL_law_853 dL_law_854 dL_law_855 0 rfl 4 rfl ?_
  refine g_arg X (k := 2) (by decide) (by omega) dL_law_856 dL_law_857 dL_law_859 dL_law_860 dL_law_861 0 rfl 4 rfl ?_
  refine g_arg X (k := 3) (by decide) (by omega) dL_law_862 dL_law_863 dL_law_865 dL_law_866 dL_law_867 0 rfl 4 rfl ?_
  refine g_aload_n C dL_law_868 rfl 3 rfl ?_
  refine g_callX C [.ref (G.2.1 0), .int (xs (i + 1)), .int (xs (i + 2)), .int (xs (i + 3)), .ref (G.2.1 80)] (m_L_way hl hG V I J ng nr (xs (i + 1)) (xs (i + 2)) (xs (i + 3)) v1 v2 hng hw.1) rfl tw_594 tw_595 tw_30 tw_596 pd_L_way (by rw [hRm]; exact ⟨Nat.le_of_ble_eq_true rfl, Nat.le_of_ble_eq_true rfl⟩) (Nat.le_of_ble_eq_true rfl) (by rw [hRm]; exact ⟨hc1, hs1⟩) dL_law_869 (fun E9 V9 I9 J9 hx9 => hx9.elim) (fun r1 V1 I1 J1 hA => ?_)
  obtain ⟨t, rfl, ht4, hpre, hB⟩ := st_way hc hz hmV hmI hmF hmJ hA
  obtain ⟨a1, a2, a3, a4, a5⟩ := hpre
  refine g_cs (c2 := cells + 6) (s2 := slots + 36) rfl rfl ?_
  refine g_at rfl rfl (st2 := [.int (nI t)]) rfl ?_
  refine g_istore C [(5, .int (nI t)), (0, .ref b), (1, .ref (G.2.1 0)), (2, .ref (G.2.1 7)), (3, .ref (G.2.1 80)), (4, .int (nI i))] dL_law_872 (by decide) rfl ?_
  refine g_aload_n C dL_law_874 rfl 3 rfl ?_
  refine g_arg X (k := 1) (by decide) (by omega) dL_law_875 dL_law_876 dL_law_878 dL_law_879 dL_law_880 1 rfl 5 rfl ?_
  refine g_arg X (k := 2) (by decide) (by omega) dL_law_881 dL_law_882 dL_law_884 dL_law_885 dL_law_886 1 rfl 5 rfl ?_
  refine g_arg X (k := 3) (by decide) (by omega) dL_law_887 dL_law_888 dL_law_890 dL_law_891 dL_law_892 1 rfl 5 rfl ?_
  refine g_cVr C [.int (xs (i + 1)), .int (xs (i + 2)), .int (xs (i + 3))] 7 (m_X7_way hl hG V1 I1 J1 ng nr (xs (i + 1)) (xs (i + 2)) (xs (i + 3)) a1 a2 hng a3 a4 a5) rfl (by decide) rfl rfl rfl tw_922 tw_923 tw_924 tw_38 tw_925 pd_X7_way ⟨rfl, rfl⟩ (by rw [hRm]; exact ⟨Nat.le_of_ble_eq_true rfl, Nat.le_of_ble_eq_true rfl, hc1, hs1⟩) (Nat.le_of_ble_eq_true rfl) dL_law_893 (fun r2 V2 I2 J2 hp => ?_)
  obtain ⟨y, rfl, h7, h80, hI2⟩ := hB _ _ _ _ hp
  refine g_at rfl rfl (st2 := [.int y]) rfl ?_
  refine g_istore C [(6, .int y), (5, .int (nI t)), (0, .ref b), (1, .ref (G.2.1 0)), (2, .ref (G.2.1 7)), (3, .ref (G.2.1 80)), (4, .int (nI i))] dL_law_896 (by decide) rfl ?_
  refine g_aload_n C dL_law_898 rfl 4 rfl ?_
  refine g_cV C [] 7 (m_X7_thrown hl hG V2 I2 J2) rfl (st2 := [.int (V2 7)]) rfl (by decide) rfl rfl rfl tw_798 tw_799 tw_800 tw_38 tw_801 pd_X7_thrown ⟨rfl, rfl⟩ (by rw [hRm]; exact ⟨Nat.le_of_ble_eq_true rfl, Nat.le_of_ble_eq_true rfl, hc1, hs1⟩) (Nat.le_of_ble_eq_true rfl) dL_law_899 ?_
  refine g_iload C dL_law_902 1 rfl ?_
  refine g_icmp_eq C 909 dL_law_904 (by decide) (fun _ => ?_) (fun z => absurd h7 z)
  refine g_iload C dL_law_909 1 rfl ?_
  have hend : WW K G (cells + 6) (slots + 36) Q V2 I2 J2 926 [(6, .int y), (5, .int (nI t)), (0, .ref b), (1, .ref (G.2.1 0)), (2, .ref (G.2.1 7)), (3, .ref (G.2.1 80)), (4, .int (nI i))] [] := by
    refine g_goto C 1436 dL_law_926 (by decide) ?_
    exact g_lv [2, 3, 4, 5, 6] rfl (kk _ _ _ hI2)
  refine g_if_ne C 926 dL_law_911 (by decide) (fun _ => hend) (fun z0 => ?_)
  have t0 : t = 0 := (nI_eq (by omega) (by omega)).mp (z0.trans nI_0.symm)
  have e80 := h80 t0
  refine g_aload_n C dL_law_914 rfl 5 rfl ?_
  refine g_iconst (v := nI 0) C dL_law_915 (by decide) ?_
  refine n_lald C 80 aa_80 0 (by decide) dL_law_916 ?_
  refine g_iload C dL_law_917 0 rfl ?_
  refine g_i2l C dL_law_919 ?_
  refine g_lcmp C dL_law_920 ?_
  exact g_if_eq C 926 dL_law_921 (by decide) (fun _ => hend) (fun z => absurd (lE e80) z)

set_option maxRecDepth 100000 in
theorem lc_journeys {K : wK} {G : wG} {b L : Nat} {xs : Nat → Int32} (X : LX K G b L xs) {Q : State → Prop} {cells slots : Nat} {V : wV} {I : wI} {J : wJ} {i : Nat} (hi : i + 5 ≤ L) (hI : Inv V I J) (hc1 : cells + 6 ≤ room_1.cells) (hs1 : slots + 36 ≤ room_1.slots) (kk : ∀ V9 I9 J9, Inv V9 I9 J9 → WW K G (cells + 6) (slots + 36) Q V9 I9 J9 1436 [(0, .ref b), (1, .ref (G.2.1 0)), (2, .ref (G.2.1 7)), (3, .ref (G.2.1 80)), (4, .int (nI i))] []) : WW K G cells slots Q V I J 929 [(0, .ref b), (1, .ref (G.2.1 0)), (2, .ref (G.2.1 7)), (3, .ref (G.2.1 80)), (4, .int (nI i))] [] := by
  obtain ⟨ng, nr, ns, n, M, hc, hz, hmV, hmI, hmF, hmJ⟩ := hI
  obtain ⟨⟨v1, v2, v3, v4, v5, hng, hM⟩, hK, hw, hT9, hS9, hends, hhold, h22, h22n⟩ := id hc
  have w24 := hw.1.1
  have C := X.1
  have hRm := X.2.1
  have hl := C.2.2.2.2.2.2
  have hG := C.2.2.1
  refine g_aload_n C dL_law_929 rfl 1 rfl ?_
  refine g_arg X (k := 1) (by decide) (by omega) dL_law_930 dL_law_931 dL_law_933 dL_law_934 dL_law_935 0 rfl 4 rfl ?_
  refine g_aload_n C dL_law_936 rfl 3 rfl ?_
  refine g_callX C [.ref (G.2.1 0), .int (xs (i + 1)), .ref (G.2.1 80)] (m_L_journeys hl hG V I J nr n ns v2 v4 v5 hw hz (xs (i + 1))) rfl tw_607 tw_608 tw_30 tw_609 pd_L_journeys (by rw [hRm]; exact ⟨Nat.le_of_ble_eq_true rfl, Nat.le_of_ble_eq_true rfl⟩) (Nat.le_of_ble_eq_true rfl) (by rw [hRm]; exact ⟨hc1, hs1⟩) dL_law_937 (fun E9 V9 I9 J9 hx9 => hx9.elim) (fun r1 V1 I1 J1 hA => ?_)
  obtain ⟨t, rfl, ht4, hpre, hB⟩ := st_journeys hc hz hmV hmI hmF hmJ hA
  obtain ⟨a1, a2⟩ := hpre
  refine g_cs (c2 := cells + 6) (s2 := slots + 36) rfl rfl ?_
  refine g_at rfl rfl (st2 := [.int (nI t)]) rfl ?_
  refine g_istore C [(5, .int (nI t)), (0, .ref b), (1, .ref (G.2.1 0)), (2, .ref (G.2.1 7)), (3, .ref (G.2.1 80)), (4, .int (nI i))] dL_law_940 (by decide) rfl ?_
  refine g_aload_n C dL_law_942 rfl 3 rfl ?_
  refine g_arg X (k := 1) (by decide) (by omega) dL_law_943 dL_law_944 dL_law_946 dL_law_947 dL_law_948 1 rfl 5 rfl ?_
  refine g_cVr C [.int (xs (i + 1))] 7 (m_X7_journeys hl hG V1 I1 J1 nr n ns M a1 I a2 (xs (i + 1))) rfl (by decide) rfl rfl rfl tw_926 tw_927 tw_928 tw_38 tw_929 pd_X7_journeys ⟨rfl, rfl⟩ (by rw [hRm]; exact ⟨Nat.le_of_ble_eq_true rfl, Nat.le_of_ble_eq_true rfl, hc1, hs1⟩) (Nat.le_of_ble_eq_true rfl) dL_law_949 (fun r2 V2 I2 J2 hp => ?_)
  obtain ⟨y, rfl, h7, h80, hI2⟩ := hB _ _ _ _ hp
  refine g_at rfl rfl (st2 := [.int y]) rfl ?_
  refine g_istore C [(6, .int y), (5, .int (nI t)), (0, .ref b), (1, .ref (G.2.1 0)), (2, .ref (G.2.1 7)), (3, .ref (G.2.1 80)), (4, .int (nI i))] dL_law_952 (by decide) rfl ?_
  refine g_aload_n C dL_law_954 rfl 4 rfl ?_
  refine g_cV C [] 7 (m_X7_thrown hl hG V2 I2 J2) rfl (st2 := [.int (V2 7)]) rfl (by decide) rfl rfl rfl tw_798 tw_799 tw_800 tw_38 tw_801 pd_X7_thrown ⟨rfl, rfl⟩ (by rw [hRm]; exact ⟨Nat.le_of_ble_eq_true rfl, Nat.le_of_ble_eq_true rfl, hc1, hs1⟩) (Nat.le_of_ble_eq_true rfl) dL_law_955 ?_
  refine g_iload C dL_law_958 1 rfl ?_
  refine g_icmp_eq C 965 dL_law_960 (by decide) (fun _ => ?_) (fun z => absurd h7 z)
  refine g_iload C dL_law_965 1 rfl ?_
  have hend : WW K G (cells + 6) (slots + 36) Q V2 I2 J2 982 [(6, .int y), (5, .int (nI t)), (0, .ref b), (1, .ref (G.2.1 0)), (2, .ref (G.2.1 7)), (3, .ref (G.2.1 80)), (4, .int (nI i))] [] := by
    refine g_goto C 1436 dL_law_982 (by decide) ?_
    exact g_lv [2, 3, 4, 5, 6] rfl (kk _ _ _ hI2)
  refine g_if_ne C 982 dL_law_967 (by decide) (fun _ => hend) (fun z0 => ?_)
  have t0 : t = 0 := (nI_eq (by omega) (by omega)).mp (z0.trans nI_0.symm)
  have e80 := h80 t0
  refine g_aload_n C dL_law_970 rfl 5 rfl ?_
  refine g_iconst (v := nI 0) C dL_law_971 (by decide) ?_
  refine n_lald C 80 aa_80 0 (by decide) dL_law_972 ?_
  refine g_iload C dL_law_973 0 rfl ?_
  refine g_i2l C dL_law_975 ?_
  refine g_lcmp C dL_law_976 ?_
  exact g_if_eq C 982 dL_law_977 (by decide) (fun _ => hend) (fun z => absurd (lE e80) z)

set_option maxRecDepth 100000 in
theorem lc_journey {K : wK} {G : wG} {b L : Nat} {xs : Nat → Int32} (X : LX K G b L xs) {Q : State → Prop} {cells slots : Nat} {V : wV} {I : wI} {J : wJ} {i : Nat} (hi : i + 5 ≤ L) (hI : Inv V I J) (hc1 : cells + 6 ≤ room_1.cells) (hs1 : slots + 36 ≤ room_1.slots) (kk : ∀ V9 I9 J9, Inv V9 I9 J9 → WW K G (cells + 6) (slots + 36) Q V9 I9 J9 1436 [(0, .ref b), (1, .ref (G.2.1 0)), (2, .ref (G.2.1 7)), (3, .ref (G.2.1 80)), (4, .int (nI i))] []) : WW K G cells slots Q V I J 985 [(0, .ref b), (1, .ref (G.2.1 0)), (2, .ref (G.2.1 7)), (3, .ref (G.2.1 80)), (4, .int (nI i))] [] := by
  obtain ⟨ng, nr, ns, n, M, hc, hz, hmV, hmI, hmF, hmJ⟩ := hI
  obtain ⟨⟨v1, v2, v3, v4, v5, hng, hM⟩, hK, hw, hT9, hS9, hends, hhold, h22, h22n⟩ := id hc
  have w24 := hw.1.1
  have C := X.1
  have hRm := X.2.1
  have hl := C.2.2.2.2.2.2
  have hG := C.2.2.1
  refine g_aload_n C dL_law_985 rfl 1 rfl ?_
  refine g_arg X (k := 1) (by decide) (by omega) dL_law_986 dL_law_987 dL_law_989 dL_law_990 dL_law_991 0 rfl 4 rfl ?_
  refine g_arg X (k := 2) (by decide) (by omega) dL_law_992 dL_law_993 dL_law_995 dL_law_996 dL_law_997 0 rfl 4 rfl ?_
  refine g_arg X (k := 3) (by decide) (by omega) dL_law_998 dL_law_999 dL_law_1001 dL_law_1002 dL_law_1003 0 rfl 4 rfl ?_
  refine g_aload_n C dL_law_1004 rfl 3 rfl ?_
  refine g_callX C [.ref (G.2.1 0), .int (xs (i + 1)), .int (xs (i + 2)), .int (xs (i + 3)), .ref (G.2.1 80)] (m_L_journey hl hG V I J nr n ns v2 v4 v5 hw hz (xs (i + 1)) (xs (i + 2)) (xs (i + 3))) rfl tw_614 tw_615 tw_30 tw_616 pd_L_journey (by rw [hRm]; exact ⟨Nat.le_of_ble_eq_true rfl, Nat.le_of_ble_eq_true rfl⟩) (Nat.le_of_ble_eq_true rfl) (by rw [hRm]; exact ⟨hc1, hs1⟩) dL_law_1005 (fun E9 V9 I9 J9 hx9 => hx9.elim) (fun r1 V1 I1 J1 hA => ?_)
  obtain ⟨t, rfl, ht4, hpre, hB⟩ := st_journey hc hz hmV hmI hmF hmJ hA
  obtain ⟨a1, a2⟩ := hpre
  refine g_cs (c2 := cells + 6) (s2 := slots + 36) rfl rfl ?_
  refine g_at rfl rfl (st2 := [.int (nI t)]) rfl ?_
  refine g_istore C [(5, .int (nI t)), (0, .ref b), (1, .ref (G.2.1 0)), (2, .ref (G.2.1 7)), (3, .ref (G.2.1 80)), (4, .int (nI i))] dL_law_1008 (by decide) rfl ?_
  refine g_aload_n C dL_law_1010 rfl 3 rfl ?_
  refine g_arg X (k := 1) (by decide) (by omega) dL_law_1011 dL_law_1012 dL_law_1014 dL_law_1015 dL_law_1016 1 rfl 5 rfl ?_
  refine g_arg X (k := 2) (by decide) (by omega) dL_law_1017 dL_law_1018 dL_law_1020 dL_law_1021 dL_law_1022 1 rfl 5 rfl ?_
  refine g_arg X (k := 3) (by decide) (by omega) dL_law_1023 dL_law_1024 dL_law_1026 dL_law_1027 dL_law_1028 1 rfl 5 rfl ?_
  refine g_cVr C [.int (xs (i + 1)), .int (xs (i + 2)), .int (xs (i + 3))] 7 (m_X7_journey hl hG V1 I1 J1 nr n ns M a1 I a2 (xs (i + 1)) (xs (i + 2)) (xs (i + 3))) rfl (by decide) rfl rfl rfl tw_930 tw_931 tw_932 tw_38 tw_933 pd_X7_journey ⟨rfl, rfl⟩ (by rw [hRm]; exact ⟨Nat.le_of_ble_eq_true rfl, Nat.le_of_ble_eq_true rfl, hc1, hs1⟩) (Nat.le_of_ble_eq_true rfl) dL_law_1029 (fun r2 V2 I2 J2 hp => ?_)
  obtain ⟨y, rfl, h7, h80, hI2⟩ := hB _ _ _ _ hp
  refine g_at rfl rfl (st2 := [.int y]) rfl ?_
  refine g_istore C [(6, .int y), (5, .int (nI t)), (0, .ref b), (1, .ref (G.2.1 0)), (2, .ref (G.2.1 7)), (3, .ref (G.2.1 80)), (4, .int (nI i))] dL_law_1032 (by decide) rfl ?_
  refine g_aload_n C dL_law_1034 rfl 4 rfl ?_
  refine g_cV C [] 7 (m_X7_thrown hl hG V2 I2 J2) rfl (st2 := [.int (V2 7)]) rfl (by decide) rfl rfl rfl tw_798 tw_799 tw_800 tw_38 tw_801 pd_X7_thrown ⟨rfl, rfl⟩ (by rw [hRm]; exact ⟨Nat.le_of_ble_eq_true rfl, Nat.le_of_ble_eq_true rfl, hc1, hs1⟩) (Nat.le_of_ble_eq_true rfl) dL_law_1035 ?_
  refine g_iload C dL_law_1038 1 rfl ?_
  refine g_icmp_eq C 1045 dL_law_1040 (by decide) (fun _ => ?_) (fun z => absurd h7 z)
  refine g_iload C dL_law_1045 1 rfl ?_
  have hend : WW K G (cells + 6) (slots + 36) Q V2 I2 J2 1062 [(6, .int y), (5, .int (nI t)), (0, .ref b), (1, .ref (G.2.1 0)), (2, .ref (G.2.1 7)), (3, .ref (G.2.1 80)), (4, .int (nI i))] [] := by
    refine g_goto C 1436 dL_law_1062 (by decide) ?_
    exact g_lv [2, 3, 4, 5, 6] rfl (kk _ _ _ hI2)
  refine g_if_ne C 1062 dL_law_1047 (by decide) (fun _ => hend) (fun z0 => ?_)
  have t0 : t = 0 := (nI_eq (by omega) (by omega)).mp (z0.trans nI_0.symm)
  have e80 := h80 t0
  refine g_aload_n C dL_law_1050 rfl 5 rfl ?_
  refine g_iconst (v := nI 0) C dL_law_1051 (by decide) ?_
  refine n_lald C 80 aa_80 0 (by decide) dL_law_1052 ?_
  refine g_iload C dL_law_1053 0 rfl ?_
  refine g_i2l C dL_law_1055 ?_
  refine g_lcmp C dL_law_1056 ?_
  exact g_if_eq C 1062 dL_law_1057 (by decide) (fun _ => hend) (fun z => absurd (lE e80) z)

set_option maxRecDepth 100000 in
theorem lc_ofReading {K : wK} {G : wG} {b L : Nat} {xs : Nat → Int32} (X : LX K G b L xs) {Q : State → Prop} {cells slots : Nat} {V : wV} {I : wI} {J : wJ} {i : Nat} (hi : i + 5 ≤ L) (hI : Inv V I J) (hc1 : cells + 6 ≤ room_1.cells) (hs1 : slots + 36 ≤ room_1.slots) (kk : ∀ V9 I9 J9, Inv V9 I9 J9 → WW K G (cells + 6) (slots + 36) Q V9 I9 J9 1436 [(0, .ref b), (1, .ref (G.2.1 0)), (2, .ref (G.2.1 7)), (3, .ref (G.2.1 80)), (4, .int (nI i))] []) : WW K G cells slots Q V I J 1065 [(0, .ref b), (1, .ref (G.2.1 0)), (2, .ref (G.2.1 7)), (3, .ref (G.2.1 80)), (4, .int (nI i))] [] := by
  obtain ⟨ng, nr, ns, n, M, hc, hz, hmV, hmI, hmF, hmJ⟩ := hI
  obtain ⟨⟨v1, v2, v3, v4, v5, hng, hM⟩, hK, hw, hT9, hS9, hends, hhold, h22, h22n⟩ := id hc
  have w24 := hw.1.1
  have C := X.1
  have hRm := X.2.1
  have hl := C.2.2.2.2.2.2
  have hG := C.2.2.1
  refine g_aload_n C dL_law_1065 rfl 1 rfl ?_
  refine g_arg X (k := 1) (by decide) (by omega) dL_law_1066 dL_law_1067 dL_law_1069 dL_law_1070 dL_law_1071 0 rfl 4 rfl ?_
  refine g_arg X (k := 2) (by decide) (by omega) dL_law_1072 dL_law_1073 dL_law_1075 dL_law_1076 dL_law_1077 0 rfl 4 rfl ?_
  refine g_aload_n C dL_law_1078 rfl 3 rfl ?_
  refine g_callX C [.ref (G.2.1 0), .int (xs (i + 1)), .int (xs (i + 2)), .ref (G.2.1 80)] (m_L_ofReading hl hG V I J nr n ns v2 v4 v5 hw hz h22 (xs (i + 1)) (xs (i + 2))) rfl tw_625 tw_626 tw_30 tw_627 pd_L_ofReading (by rw [hRm]; exact ⟨Nat.le_of_ble_eq_true rfl, Nat.le_of_ble_eq_true rfl⟩) (Nat.le_of_ble_eq_true rfl) (by rw [hRm]; exact ⟨hc1, hs1⟩) dL_law_1079 (fun E9 V9 I9 J9 hx9 => hx9.elim) (fun r1 V1 I1 J1 hA => ?_)
  obtain ⟨t, rfl, ht4, hpre, hB⟩ := st_ofReading hc hz hmV hmI hmF hmJ hA
  obtain ⟨a1, a2, a3⟩ := hpre
  refine g_cs (c2 := cells + 6) (s2 := slots + 36) rfl rfl ?_
  refine g_at rfl rfl (st2 := [.int (nI t)]) rfl ?_
  refine g_istore C [(5, .int (nI t)), (0, .ref b), (1, .ref (G.2.1 0)), (2, .ref (G.2.1 7)), (3, .ref (G.2.1 80)), (4, .int (nI i))] dL_law_1082 (by decide) rfl ?_
  refine g_aload_n C dL_law_1084 rfl 3 rfl ?_
  refine g_arg X (k := 1) (by decide) (by omega) dL_law_1085 dL_law_1086 dL_law_1088 dL_law_1089 dL_law_1090 1 rfl 5 rfl ?_
  refine g_arg X (k := 2) (by decide) (by omega) dL_law_1091 dL_law_1092 dL_law_1094 dL_law_1095 dL_law_1096 1 rfl 5 rfl ?_
  refine g_cVr C [.int (xs (i + 1)), .int (xs (i + 2))] 7 (m_X7_ofReading hl hG V1 I1 J1 nr n ns M a1 I a2 hz a3 (xs (i + 1)) (xs (i + 2))) rfl (by decide) rfl rfl rfl tw_934 tw_935 tw_936 tw_38 tw_937 pd_X7_ofReading ⟨rfl, rfl⟩ (by rw [hRm]; exact ⟨Nat.le_of_ble_eq_true rfl, Nat.le_of_ble_eq_true rfl, hc1, hs1⟩) (Nat.le_of_ble_eq_true rfl) dL_law_1097 (fun r2 V2 I2 J2 hp => ?_)
  obtain ⟨y, rfl, h7, h80, hI2⟩ := hB _ _ _ _ hp
  refine g_at rfl rfl (st2 := [.int y]) rfl ?_
  refine g_istore C [(6, .int y), (5, .int (nI t)), (0, .ref b), (1, .ref (G.2.1 0)), (2, .ref (G.2.1 7)), (3, .ref (G.2.1 80)), (4, .int (nI i))] dL_law_1100 (by decide) rfl ?_
  refine g_aload_n C dL_law_1102 rfl 4 rfl ?_
  refine g_cV C [] 7 (m_X7_thrown hl hG V2 I2 J2) rfl (st2 := [.int (V2 7)]) rfl (by decide) rfl rfl rfl tw_798 tw_799 tw_800 tw_38 tw_801 pd_X7_thrown ⟨rfl, rfl⟩ (by rw [hRm]; exact ⟨Nat.le_of_ble_eq_true rfl, Nat.le_of_ble_eq_true rfl, hc1, hs1⟩) (Nat.le_of_ble_eq_true rfl) dL_law_1103 ?_
  refine g_iload C dL_law_1106 1 rfl ?_
  refine g_icmp_eq C 1113 dL_law_1108 (by decide) (fun _ => ?_) (fun z => absurd h7 z)
  refine g_iload C dL_law_1113 1 rfl ?_
  have hend : WW K G (cells + 6) (slots + 36) Q V2 I2 J2 1130 [(6, .int y), (5, .int (nI t)), (0, .ref b), (1, .ref (G.2.1 0)), (2, .ref (G.2.1 7)), (3, .ref (G.2.1 80)), (4, .int (nI i))] [] := by
    refine g_goto C 1436 dL_law_1130 (by decide) ?_
    exact g_lv [2, 3, 4, 5, 6] rfl (kk _ _ _ hI2)
  refine g_if_ne C 1130 dL_law_1115 (by decide) (fun _ => hend) (fun z0 => ?_)
  have t0 : t = 0 := (nI_eq (by omega) (by omega)).mp (z0.trans nI_0.symm)
  have e80 := h80 t0
  refine g_aload_n C dL_law_1118 rfl 5 rfl ?_
  refine g_iconst (v := nI 0) C dL_law_1119 (by decide) ?_
  refine n_lald C 80 aa_80 0 (by decide) dL_law_1120 ?_
  refine g_iload C dL_law_1121 0 rfl ?_
  refine g_i2l C dL_law_1123 ?_
  refine g_lcmp C dL_law_1124 ?_
  exact g_if_eq C 1130 dL_law_1125 (by decide) (fun _ => hend) (fun z => absurd (lE e80) z)

set_option maxRecDepth 100000 in
theorem lc_due {K : wK} {G : wG} {b L : Nat} {xs : Nat → Int32} (X : LX K G b L xs) {Q : State → Prop} {cells slots : Nat} {V : wV} {I : wI} {J : wJ} {i : Nat} (hi : i + 5 ≤ L) (hI : Inv V I J) (hc1 : cells + 6 ≤ room_1.cells) (hs1 : slots + 36 ≤ room_1.slots) (kk : ∀ V9 I9 J9, Inv V9 I9 J9 → WW K G (cells + 6) (slots + 36) Q V9 I9 J9 1436 [(0, .ref b), (1, .ref (G.2.1 0)), (2, .ref (G.2.1 7)), (3, .ref (G.2.1 80)), (4, .int (nI i))] []) : WW K G cells slots Q V I J 1133 [(0, .ref b), (1, .ref (G.2.1 0)), (2, .ref (G.2.1 7)), (3, .ref (G.2.1 80)), (4, .int (nI i))] [] := by
  obtain ⟨ng, nr, ns, n, M, hc, hz, hmV, hmI, hmF, hmJ⟩ := hI
  obtain ⟨⟨v1, v2, v3, v4, v5, hng, hM⟩, hK, hw, hT9, hS9, hends, hhold, h22, h22n⟩ := id hc
  have w24 := hw.1.1
  have C := X.1
  have hRm := X.2.1
  have hl := C.2.2.2.2.2.2
  have hG := C.2.2.1
  refine g_aload_n C dL_law_1133 rfl 1 rfl ?_
  refine g_arg X (k := 1) (by decide) (by omega) dL_law_1134 dL_law_1135 dL_law_1137 dL_law_1138 dL_law_1139 0 rfl 4 rfl ?_
  refine g_aload_n C dL_law_1140 rfl 3 rfl ?_
  refine g_callX C [.ref (G.2.1 0), .int (xs (i + 1)), .ref (G.2.1 80)] (m_L_due hl hG V I J nr n ns v2 v4 v5 hw hz (xs (i + 1))) rfl tw_640 tw_641 tw_30 tw_642 pd_L_due (by rw [hRm]; exact ⟨Nat.le_of_ble_eq_true rfl, Nat.le_of_ble_eq_true rfl⟩) (Nat.le_of_ble_eq_true rfl) (by rw [hRm]; exact ⟨hc1, hs1⟩) dL_law_1141 (fun E9 V9 I9 J9 hx9 => hx9.elim) (fun r1 V1 I1 J1 hA => ?_)
  obtain ⟨t, rfl, ht4, hpre, hB⟩ := st_due hc hz hmV hmI hmF hmJ hA
  obtain ⟨a1, a2⟩ := hpre
  refine g_cs (c2 := cells + 6) (s2 := slots + 36) rfl rfl ?_
  refine g_at rfl rfl (st2 := [.int (nI t)]) rfl ?_
  refine g_istore C [(5, .int (nI t)), (0, .ref b), (1, .ref (G.2.1 0)), (2, .ref (G.2.1 7)), (3, .ref (G.2.1 80)), (4, .int (nI i))] dL_law_1144 (by decide) rfl ?_
  refine g_aload_n C dL_law_1146 rfl 3 rfl ?_
  refine g_arg X (k := 1) (by decide) (by omega) dL_law_1147 dL_law_1148 dL_law_1150 dL_law_1151 dL_law_1152 1 rfl 5 rfl ?_
  refine g_cVr C [.int (xs (i + 1))] 7 (m_X7_due hl hG V1 I1 J1 nr n ns M a1 I a2 (xs (i + 1))) rfl (by decide) rfl rfl rfl tw_938 tw_939 tw_940 tw_38 tw_941 pd_X7_due ⟨rfl, rfl⟩ (by rw [hRm]; exact ⟨Nat.le_of_ble_eq_true rfl, Nat.le_of_ble_eq_true rfl, hc1, hs1⟩) (Nat.le_of_ble_eq_true rfl) dL_law_1153 (fun r2 V2 I2 J2 hp => ?_)
  obtain ⟨y, rfl, h7, h80, hI2⟩ := hB _ _ _ _ hp
  refine g_at rfl rfl (st2 := [.long y]) rfl ?_
  refine g_lstore C [(6, .long y), (5, .int (nI t)), (0, .ref b), (1, .ref (G.2.1 0)), (2, .ref (G.2.1 7)), (3, .ref (G.2.1 80)), (4, .int (nI i))] dL_law_1156 (by decide) rfl ?_
  refine g_aload_n C dL_law_1158 rfl 4 rfl ?_
  refine g_cV C [] 7 (m_X7_thrown hl hG V2 I2 J2) rfl (st2 := [.int (V2 7)]) rfl (by decide) rfl rfl rfl tw_798 tw_799 tw_800 tw_38 tw_801 pd_X7_thrown ⟨rfl, rfl⟩ (by rw [hRm]; exact ⟨Nat.le_of_ble_eq_true rfl, Nat.le_of_ble_eq_true rfl, hc1, hs1⟩) (Nat.le_of_ble_eq_true rfl) dL_law_1159 ?_
  refine g_iload C dL_law_1162 1 rfl ?_
  refine g_icmp_eq C 1169 dL_law_1164 (by decide) (fun _ => ?_) (fun z => absurd h7 z)
  refine g_iload C dL_law_1169 1 rfl ?_
  have hend : WW K G (cells + 6) (slots + 36) Q V2 I2 J2 1185 [(6, .long y), (5, .int (nI t)), (0, .ref b), (1, .ref (G.2.1 0)), (2, .ref (G.2.1 7)), (3, .ref (G.2.1 80)), (4, .int (nI i))] [] := by
    refine g_goto C 1436 dL_law_1185 (by decide) ?_
    exact g_lv [2, 3, 4, 5, 6] rfl (kk _ _ _ hI2)
  refine g_if_ne C 1185 dL_law_1171 (by decide) (fun _ => hend) (fun z0 => ?_)
  have t0 : t = 0 := (nI_eq (by omega) (by omega)).mp (z0.trans nI_0.symm)
  have e80 := h80 t0
  refine g_aload_n C dL_law_1174 rfl 5 rfl ?_
  refine g_iconst (v := nI 0) C dL_law_1175 (by decide) ?_
  refine n_lald C 80 aa_80 0 (by decide) dL_law_1176 ?_
  refine g_lload C dL_law_1177 0 rfl ?_
  refine g_lcmp C dL_law_1179 ?_
  exact g_if_eq C 1185 dL_law_1180 (by decide) (fun _ => hend) (fun z => absurd (lE e80) z)

set_option maxRecDepth 100000 in
theorem lc_billed {K : wK} {G : wG} {b L : Nat} {xs : Nat → Int32} (X : LX K G b L xs) {Q : State → Prop} {cells slots : Nat} {V : wV} {I : wI} {J : wJ} {i : Nat} (hi : i + 5 ≤ L) (hI : Inv V I J) (hc1 : cells + 6 ≤ room_1.cells) (hs1 : slots + 36 ≤ room_1.slots) (kk : ∀ V9 I9 J9, Inv V9 I9 J9 → WW K G (cells + 6) (slots + 36) Q V9 I9 J9 1436 [(0, .ref b), (1, .ref (G.2.1 0)), (2, .ref (G.2.1 7)), (3, .ref (G.2.1 80)), (4, .int (nI i))] []) : WW K G cells slots Q V I J 1188 [(0, .ref b), (1, .ref (G.2.1 0)), (2, .ref (G.2.1 7)), (3, .ref (G.2.1 80)), (4, .int (nI i))] [] := by
  obtain ⟨ng, nr, ns, n, M, hc, hz, hmV, hmI, hmF, hmJ⟩ := hI
  obtain ⟨⟨v1, v2, v3, v4, v5, hng, hM⟩, hK, hw, hT9, hS9, hends, hhold, h22, h22n⟩ := id hc
  have w24 := hw.1.1
  have C := X.1
  have hRm := X.2.1
  have hl := C.2.2.2.2.2.2
  have hG := C.2.2.1
  refine g_aload_n C dL_law_1188 rfl 1 rfl ?_
  refine g_arg X (k := 1) (by decide) (by omega) dL_law_1189 dL_law_1190 dL_law_1192 dL_law_1193 dL_law_1194 0 rfl 4 rfl ?_
  refine g_aload_n C dL_law_1195 rfl 3 rfl ?_
  refine g_callX C [.ref (G.2.1 0), .int (xs (i + 1)), .ref (G.2.1 80)] (m_L_billed hl hG V I J (xs (i + 1))) rfl tw_647 tw_648 tw_30 tw_649 pd_L_billed (by rw [hRm]; exact ⟨Nat.le_of_ble_eq_true rfl, Nat.le_of_ble_eq_true rfl⟩) (Nat.le_of_ble_eq_true rfl) (by rw [hRm]; exact ⟨hc1, hs1⟩) dL_law_1196 (fun E9 V9 I9 J9 hx9 => hx9.elim) (fun r1 V1 I1 J1 hA => ?_)
  obtain ⟨t, rfl, ht4, hpre, hB⟩ := st_billed hc hz hmV hmI hmF hmJ hA
  refine g_cs (c2 := cells + 6) (s2 := slots + 36) rfl rfl ?_
  refine g_at rfl rfl (st2 := [.int (nI t)]) rfl ?_
  refine g_istore C [(5, .int (nI t)), (0, .ref b), (1, .ref (G.2.1 0)), (2, .ref (G.2.1 7)), (3, .ref (G.2.1 80)), (4, .int (nI i))] dL_law_1199 (by decide) rfl ?_
  refine g_aload_n C dL_law_1201 rfl 3 rfl ?_
  refine g_arg X (k := 1) (by decide) (by omega) dL_law_1202 dL_law_1203 dL_law_1205 dL_law_1206 dL_law_1207 1 rfl 5 rfl ?_
  refine g_cVr C [.int (xs (i + 1))] 7 (m_X7_billed hl hG V1 I1 J1 (xs (i + 1))) rfl (by decide) rfl rfl rfl tw_942 tw_943 tw_944 tw_38 tw_945 pd_X7_billed ⟨rfl, rfl⟩ (by rw [hRm]; exact ⟨Nat.le_of_ble_eq_true rfl, Nat.le_of_ble_eq_true rfl, hc1, hs1⟩) (Nat.le_of_ble_eq_true rfl) dL_law_1208 (fun r2 V2 I2 J2 hp => ?_)
  obtain ⟨y, rfl, h7, h80, hI2⟩ := hB _ _ _ _ hp
  refine g_at rfl rfl (st2 := [.long y]) rfl ?_
  refine g_lstore C [(6, .long y), (5, .int (nI t)), (0, .ref b), (1, .ref (G.2.1 0)), (2, .ref (G.2.1 7)), (3, .ref (G.2.1 80)), (4, .int (nI i))] dL_law_1211 (by decide) rfl ?_
  refine g_aload_n C dL_law_1213 rfl 4 rfl ?_
  refine g_cV C [] 7 (m_X7_thrown hl hG V2 I2 J2) rfl (st2 := [.int (V2 7)]) rfl (by decide) rfl rfl rfl tw_798 tw_799 tw_800 tw_38 tw_801 pd_X7_thrown ⟨rfl, rfl⟩ (by rw [hRm]; exact ⟨Nat.le_of_ble_eq_true rfl, Nat.le_of_ble_eq_true rfl, hc1, hs1⟩) (Nat.le_of_ble_eq_true rfl) dL_law_1214 ?_
  refine g_iload C dL_law_1217 1 rfl ?_
  refine g_icmp_eq C 1224 dL_law_1219 (by decide) (fun _ => ?_) (fun z => absurd h7 z)
  refine g_iload C dL_law_1224 1 rfl ?_
  have hend : WW K G (cells + 6) (slots + 36) Q V2 I2 J2 1240 [(6, .long y), (5, .int (nI t)), (0, .ref b), (1, .ref (G.2.1 0)), (2, .ref (G.2.1 7)), (3, .ref (G.2.1 80)), (4, .int (nI i))] [] := by
    refine g_goto C 1436 dL_law_1240 (by decide) ?_
    exact g_lv [2, 3, 4, 5, 6] rfl (kk _ _ _ hI2)
  refine g_if_ne C 1240 dL_law_1226 (by decide) (fun _ => hend) (fun z0 => ?_)
  have t0 : t = 0 := (nI_eq (by omega) (by omega)).mp (z0.trans nI_0.symm)
  have e80 := h80 t0
  refine g_aload_n C dL_law_1229 rfl 5 rfl ?_
  refine g_iconst (v := nI 0) C dL_law_1230 (by decide) ?_
  refine n_lald C 80 aa_80 0 (by decide) dL_law_1231 ?_
  refine g_lload C dL_law_1232 0 rfl ?_
  refine g_lcmp C dL_law_1234 ?_
  exact g_if_eq C 1240 dL_law_1235 (by decide) (fun _ => hend) (fun z => absurd (lE e80) z)

set_option maxRecDepth 100000 in
theorem lc_wallet {K : wK} {G : wG} {b L : Nat} {xs : Nat → Int32} (X : LX K G b L xs) {Q : State → Prop} {cells slots : Nat} {V : wV} {I : wI} {J : wJ} {i : Nat} (hi : i + 5 ≤ L) (hI : Inv V I J) (hc1 : cells + 6 ≤ room_1.cells) (hs1 : slots + 36 ≤ room_1.slots) (kk : ∀ V9 I9 J9, Inv V9 I9 J9 → WW K G (cells + 6) (slots + 36) Q V9 I9 J9 1436 [(0, .ref b), (1, .ref (G.2.1 0)), (2, .ref (G.2.1 7)), (3, .ref (G.2.1 80)), (4, .int (nI i))] []) : WW K G cells slots Q V I J 1243 [(0, .ref b), (1, .ref (G.2.1 0)), (2, .ref (G.2.1 7)), (3, .ref (G.2.1 80)), (4, .int (nI i))] [] := by
  obtain ⟨ng, nr, ns, n, M, hc, hz, hmV, hmI, hmF, hmJ⟩ := hI
  obtain ⟨⟨v1, v2, v3, v4, v5, hng, hM⟩, hK, hw, hT9, hS9, hends, hhold, h22, h22n⟩ := id hc
  have w24 := hw.1.1
  have C := X.1
  have hRm := X.2.1
  have hl := C.2.2.2.2.2.2
  have hG := C.2.2.1
  refine g_aload_n C dL_law_1243 rfl 1 rfl ?_
  refine g_arg X (k := 1) (by decide) (by omega) dL_law_1244 dL_law_1245 dL_law_1247 dL_law_1248 dL_law_1249 0 rfl 4 rfl ?_
  refine g_aload_n C dL_law_1250 rfl 3 rfl ?_
  refine g_callX C [.ref (G.2.1 0), .int (xs (i + 1)), .ref (G.2.1 80)] (m_L_wallet hl hG V I J (xs (i + 1))) rfl tw_654 tw_655 tw_30 tw_656 pd_L_wallet (by rw [hRm]; exact ⟨Nat.le_of_ble_eq_true rfl, Nat.le_of_ble_eq_true rfl⟩) (Nat.le_of_ble_eq_true rfl) (by rw [hRm]; exact ⟨hc1, hs1⟩) dL_law_1251 (fun E9 V9 I9 J9 hx9 => hx9.elim) (fun r1 V1 I1 J1 hA => ?_)
  obtain ⟨t, rfl, ht4, hpre, hB⟩ := st_wallet hc hz hmV hmI hmF hmJ hA
  refine g_cs (c2 := cells + 6) (s2 := slots + 36) rfl rfl ?_
  refine g_at rfl rfl (st2 := [.int (nI t)]) rfl ?_
  refine g_istore C [(5, .int (nI t)), (0, .ref b), (1, .ref (G.2.1 0)), (2, .ref (G.2.1 7)), (3, .ref (G.2.1 80)), (4, .int (nI i))] dL_law_1254 (by decide) rfl ?_
  refine g_aload_n C dL_law_1256 rfl 3 rfl ?_
  refine g_arg X (k := 1) (by decide) (by omega) dL_law_1257 dL_law_1258 dL_law_1260 dL_law_1261 dL_law_1262 1 rfl 5 rfl ?_
  refine g_cVr C [.int (xs (i + 1))] 7 (m_X7_wallet hl hG V1 I1 J1 (xs (i + 1))) rfl (by decide) rfl rfl rfl tw_946 tw_947 tw_948 tw_38 tw_949 pd_X7_wallet ⟨rfl, rfl⟩ (by rw [hRm]; exact ⟨Nat.le_of_ble_eq_true rfl, Nat.le_of_ble_eq_true rfl, hc1, hs1⟩) (Nat.le_of_ble_eq_true rfl) dL_law_1263 (fun r2 V2 I2 J2 hp => ?_)
  obtain ⟨y, rfl, h7, h80, hI2⟩ := hB _ _ _ _ hp
  refine g_at rfl rfl (st2 := [.long y]) rfl ?_
  refine g_lstore C [(6, .long y), (5, .int (nI t)), (0, .ref b), (1, .ref (G.2.1 0)), (2, .ref (G.2.1 7)), (3, .ref (G.2.1 80)), (4, .int (nI i))] dL_law_1266 (by decide) rfl ?_
  refine g_aload_n C dL_law_1268 rfl 4 rfl ?_
  refine g_cV C [] 7 (m_X7_thrown hl hG V2 I2 J2) rfl (st2 := [.int (V2 7)]) rfl (by decide) rfl rfl rfl tw_798 tw_799 tw_800 tw_38 tw_801 pd_X7_thrown ⟨rfl, rfl⟩ (by rw [hRm]; exact ⟨Nat.le_of_ble_eq_true rfl, Nat.le_of_ble_eq_true rfl, hc1, hs1⟩) (Nat.le_of_ble_eq_true rfl) dL_law_1269 ?_
  refine g_iload C dL_law_1272 1 rfl ?_
  refine g_icmp_eq C 1279 dL_law_1274 (by decide) (fun _ => ?_) (fun z => absurd h7 z)
  refine g_iload C dL_law_1279 1 rfl ?_
  have hend : WW K G (cells + 6) (slots + 36) Q V2 I2 J2 1295 [(6, .long y), (5, .int (nI t)), (0, .ref b), (1, .ref (G.2.1 0)), (2, .ref (G.2.1 7)), (3, .ref (G.2.1 80)), (4, .int (nI i))] [] := by
    refine g_goto C 1436 dL_law_1295 (by decide) ?_
    exact g_lv [2, 3, 4, 5, 6] rfl (kk _ _ _ hI2)
  refine g_if_ne C 1295 dL_law_1281 (by decide) (fun _ => hend) (fun z0 => ?_)
  have t0 : t = 0 := (nI_eq (by omega) (by omega)).mp (z0.trans nI_0.symm)
  have e80 := h80 t0
  refine g_aload_n C dL_law_1284 rfl 5 rfl ?_
  refine g_iconst (v := nI 0) C dL_law_1285 (by decide) ?_
  refine n_lald C 80 aa_80 0 (by decide) dL_law_1286 ?_
  refine g_lload C dL_law_1287 0 rfl ?_
  refine g_lcmp C dL_law_1289 ?_
  exact g_if_eq C 1295 dL_law_1290 (by decide) (fun _ => hend) (fun z => absurd (lE e80) z)

set_option maxRecDepth 100000 in
theorem lc_own {K : wK} {G : wG} {b L : Nat} {xs : Nat → Int32} (X : LX K G b L xs) {Q : State → Prop} {cells slots : Nat} {V : wV} {I : wI} {J : wJ} {i : Nat} (hi : i + 5 ≤ L) (hI : Inv V I J) (hc1 : cells + 6 ≤ room_1.cells) (hs1 : slots + 36 ≤ room_1.slots) (kk : ∀ V9 I9 J9, Inv V9 I9 J9 → WW K G (cells + 6) (slots + 36) Q V9 I9 J9 1436 [(0, .ref b), (1, .ref (G.2.1 0)), (2, .ref (G.2.1 7)), (3, .ref (G.2.1 80)), (4, .int (nI i))] []) : WW K G cells slots Q V I J 1298 [(0, .ref b), (1, .ref (G.2.1 0)), (2, .ref (G.2.1 7)), (3, .ref (G.2.1 80)), (4, .int (nI i))] [] := by
  obtain ⟨ng, nr, ns, n, M, hc, hz, hmV, hmI, hmF, hmJ⟩ := hI
  obtain ⟨⟨v1, v2, v3, v4, v5, hng, hM⟩, hK, hw, hT9, hS9, hends, hhold, h22, h22n⟩ := id hc
  have w24 := hw.1.1
  have C := X.1
  have hRm := X.2.1
  have hl := C.2.2.2.2.2.2
  have hG := C.2.2.1
  refine g_aload_n C dL_law_1298 rfl 1 rfl ?_
  refine g_arg X (k := 1) (by decide) (by omega) dL_law_1299 dL_law_1300 dL_law_1302 dL_law_1303 dL_law_1304 0 rfl 4 rfl ?_
  refine g_aload_n C dL_law_1305 rfl 3 rfl ?_
  refine g_callX C [.ref (G.2.1 0), .int (xs (i + 1)), .ref (G.2.1 80)] (m_L_own hl hG V I J (xs (i + 1))) rfl tw_661 tw_662 tw_30 tw_663 pd_L_own (by rw [hRm]; exact ⟨Nat.le_of_ble_eq_true rfl, Nat.le_of_ble_eq_true rfl⟩) (Nat.le_of_ble_eq_true rfl) (by rw [hRm]; exact ⟨hc1, hs1⟩) dL_law_1306 (fun E9 V9 I9 J9 hx9 => hx9.elim) (fun r1 V1 I1 J1 hA => ?_)
  obtain ⟨t, rfl, ht4, hpre, hB⟩ := st_own hc hz hmV hmI hmF hmJ hA
  refine g_cs (c2 := cells + 6) (s2 := slots + 36) rfl rfl ?_
  refine g_at rfl rfl (st2 := [.int (nI t)]) rfl ?_
  refine g_istore C [(5, .int (nI t)), (0, .ref b), (1, .ref (G.2.1 0)), (2, .ref (G.2.1 7)), (3, .ref (G.2.1 80)), (4, .int (nI i))] dL_law_1309 (by decide) rfl ?_
  refine g_aload_n C dL_law_1311 rfl 3 rfl ?_
  refine g_arg X (k := 1) (by decide) (by omega) dL_law_1312 dL_law_1313 dL_law_1315 dL_law_1316 dL_law_1317 1 rfl 5 rfl ?_
  refine g_cVr C [.int (xs (i + 1))] 7 (m_X7_own hl hG V1 I1 J1 (xs (i + 1))) rfl (by decide) rfl rfl rfl tw_950 tw_951 tw_952 tw_38 tw_953 pd_X7_own ⟨rfl, rfl⟩ (by rw [hRm]; exact ⟨Nat.le_of_ble_eq_true rfl, Nat.le_of_ble_eq_true rfl, hc1, hs1⟩) (Nat.le_of_ble_eq_true rfl) dL_law_1318 (fun r2 V2 I2 J2 hp => ?_)
  obtain ⟨y, rfl, h7, h80, hI2⟩ := hB _ _ _ _ hp
  refine g_at rfl rfl (st2 := [.long y]) rfl ?_
  refine g_lstore C [(6, .long y), (5, .int (nI t)), (0, .ref b), (1, .ref (G.2.1 0)), (2, .ref (G.2.1 7)), (3, .ref (G.2.1 80)), (4, .int (nI i))] dL_law_1321 (by decide) rfl ?_
  refine g_aload_n C dL_law_1323 rfl 4 rfl ?_
  refine g_cV C [] 7 (m_X7_thrown hl hG V2 I2 J2) rfl (st2 := [.int (V2 7)]) rfl (by decide) rfl rfl rfl tw_798 tw_799 tw_800 tw_38 tw_801 pd_X7_thrown ⟨rfl, rfl⟩ (by rw [hRm]; exact ⟨Nat.le_of_ble_eq_true rfl, Nat.le_of_ble_eq_true rfl, hc1, hs1⟩) (Nat.le_of_ble_eq_true rfl) dL_law_1324 ?_
  refine g_iload C dL_law_1327 1 rfl ?_
  refine g_icmp_eq C 1334 dL_law_1329 (by decide) (fun _ => ?_) (fun z => absurd h7 z)
  refine g_iload C dL_law_1334 1 rfl ?_
  have hend : WW K G (cells + 6) (slots + 36) Q V2 I2 J2 1350 [(6, .long y), (5, .int (nI t)), (0, .ref b), (1, .ref (G.2.1 0)), (2, .ref (G.2.1 7)), (3, .ref (G.2.1 80)), (4, .int (nI i))] [] := by
    refine g_goto C 1436 dL_law_1350 (by decide) ?_
    exact g_lv [2, 3, 4, 5, 6] rfl (kk _ _ _ hI2)
  refine g_if_ne C 1350 dL_law_1336 (by decide) (fun _ => hend) (fun z0 => ?_)
  have t0 : t = 0 := (nI_eq (by omega) (by omega)).mp (z0.trans nI_0.symm)
  have e80 := h80 t0
  refine g_aload_n C dL_law_1339 rfl 5 rfl ?_
  refine g_iconst (v := nI 0) C dL_law_1340 (by decide) ?_
  refine n_lald C 80 aa_80 0 (by decide) dL_law_1341 ?_
  refine g_lload C dL_law_1342 0 rfl ?_
  refine g_lcmp C dL_law_1344 ?_
  exact g_if_eq C 1350 dL_law_1345 (by decide) (fun _ => hend) (fun z => absurd (lE e80) z)

set_option maxRecDepth 100000 in
theorem lc_share {K : wK} {G : wG} {b L : Nat} {xs : Nat → Int32} (X : LX K G b L xs) {Q : State → Prop} {cells slots : Nat} {V : wV} {I : wI} {J : wJ} {i : Nat} (hi : i + 5 ≤ L) (hI : Inv V I J) (hc1 : cells + 6 ≤ room_1.cells) (hs1 : slots + 36 ≤ room_1.slots) (kk : ∀ V9 I9 J9, Inv V9 I9 J9 → WW K G (cells + 6) (slots + 36) Q V9 I9 J9 1436 [(0, .ref b), (1, .ref (G.2.1 0)), (2, .ref (G.2.1 7)), (3, .ref (G.2.1 80)), (4, .int (nI i))] []) : WW K G cells slots Q V I J 1353 [(0, .ref b), (1, .ref (G.2.1 0)), (2, .ref (G.2.1 7)), (3, .ref (G.2.1 80)), (4, .int (nI i))] [] := by
  obtain ⟨ng, nr, ns, n, M, hc, hz, hmV, hmI, hmF, hmJ⟩ := hI
  obtain ⟨⟨v1, v2, v3, v4, v5, hng, hM⟩, hK, hw, hT9, hS9, hends, hhold, h22, h22n⟩ := id hc
  have w24 := hw.1.1
  have C := X.1
  have hRm := X.2.1
  have hl := C.2.2.2.2.2.2
  have hG := C.2.2.1
  refine g_aload_n C dL_law_1353 rfl 1 rfl ?_
  refine g_arg X (k := 1) (by decide) (by omega) dL_law_1354 dL_law_1355 dL_law_1357 dL_law_1358 dL_law_1359 0 rfl 4 rfl ?_
  refine g_arg X (k := 2) (by decide) (by omega) dL_law_1360 dL_law_1361 dL_law_1363 dL_law_1364 dL_law_1365 0 rfl 4 rfl ?_
  refine g_if_eq C 1373 dL_law_1366 (by decide) (fun c1 => ?_) (fun c1 => ?_)
  · refine g_iconst (v := nI 0) C dL_law_1373 (by decide) ?_
    refine g_aload_n C dL_law_1374 rfl 3 rfl ?_
    refine g_callX C [.ref (G.2.1 0), .int (xs (i + 1)), .int (nI 0), .ref (G.2.1 80)] (m_L_share hl hG V I J nr n ns v2 v4 v5 hw hz (xs (i + 1)) (nI 0)) rfl tw_668 tw_669 tw_30 tw_670 pd_L_share (by rw [hRm]; exact ⟨Nat.le_of_ble_eq_true rfl, Nat.le_of_ble_eq_true rfl⟩) (Nat.le_of_ble_eq_true rfl) (by rw [hRm]; exact ⟨hc1, hs1⟩) dL_law_1375 (fun E9 V9 I9 J9 hx9 => hx9.elim) (fun r1 V1 I1 J1 hA => ?_)
    obtain ⟨t, rfl, ht4, hpre, hB⟩ := st_share hc hz hmV hmI hmF hmJ hA
    obtain ⟨a1, a2⟩ := hpre
    refine g_cs (c2 := cells + 6) (s2 := slots + 36) rfl rfl ?_
    refine g_at rfl rfl (st2 := [.int (nI t)]) rfl ?_
    refine g_istore C [(5, .int (nI t)), (0, .ref b), (1, .ref (G.2.1 0)), (2, .ref (G.2.1 7)), (3, .ref (G.2.1 80)), (4, .int (nI i))] dL_law_1378 (by decide) rfl ?_
    refine g_aload_n C dL_law_1380 rfl 3 rfl ?_
    refine g_arg X (k := 1) (by decide) (by omega) dL_law_1381 dL_law_1382 dL_law_1384 dL_law_1385 dL_law_1386 1 rfl 5 rfl ?_
    refine g_arg X (k := 2) (by decide) (by omega) dL_law_1387 dL_law_1388 dL_law_1390 dL_law_1391 dL_law_1392 1 rfl 5 rfl ?_
    refine g_if_eq C 1400 dL_law_1393 (by decide) (fun _ => ?_) (fun z => absurd c1 z)
    refine g_iconst (v := nI 0) C dL_law_1400 (by decide) ?_
    refine g_cVr C [.int (xs (i + 1)), .int (nI 0)] 7 (m_X7_share hl hG V1 I1 J1 nr n ns M a1 (fun p => (dO nr ns n (tn (xs (i + 1))) V I p).2.2) a2 (xs (i + 1)) (nI 0)) rfl (by decide) rfl rfl rfl tw_954 tw_955 tw_956 tw_38 tw_957 pd_X7_share ⟨rfl, rfl⟩ (by rw [hRm]; exact ⟨Nat.le_of_ble_eq_true rfl, Nat.le_of_ble_eq_true rfl, hc1, hs1⟩) (Nat.le_of_ble_eq_true rfl) dL_law_1401 (fun r2 V2 I2 J2 hp => ?_)
    obtain ⟨y, rfl, h7, h80, hI2⟩ := hB _ _ _ _ hp
    refine g_at rfl rfl (st2 := [.long y]) rfl ?_
    refine g_lstore C [(6, .long y), (5, .int (nI t)), (0, .ref b), (1, .ref (G.2.1 0)), (2, .ref (G.2.1 7)), (3, .ref (G.2.1 80)), (4, .int (nI i))] dL_law_1404 (by decide) rfl ?_
    refine g_aload_n C dL_law_1406 rfl 4 rfl ?_
    refine g_cV C [] 7 (m_X7_thrown hl hG V2 I2 J2) rfl (st2 := [.int (V2 7)]) rfl (by decide) rfl rfl rfl tw_798 tw_799 tw_800 tw_38 tw_801 pd_X7_thrown ⟨rfl, rfl⟩ (by rw [hRm]; exact ⟨Nat.le_of_ble_eq_true rfl, Nat.le_of_ble_eq_true rfl, hc1, hs1⟩) (Nat.le_of_ble_eq_true rfl) dL_law_1407 ?_
    refine g_iload C dL_law_1410 1 rfl ?_
    refine g_icmp_eq C 1417 dL_law_1412 (by decide) (fun _ => ?_) (fun z => absurd h7 z)
    refine g_iload C dL_law_1417 1 rfl ?_
    have hend : WW K G (cells + 6) (slots + 36) Q V2 I2 J2 1433 [(6, .long y), (5, .int (nI t)), (0, .ref b), (1, .ref (G.2.1 0)), (2, .ref (G.2.1 7)), (3, .ref (G.2.1 80)), (4, .int (nI i))] [] := by
      refine g_goto C 1436 dL_law_1433 (by decide) ?_
      exact g_lv [2, 3, 4, 5, 6] rfl (kk _ _ _ hI2)
    refine g_if_ne C 1433 dL_law_1419 (by decide) (fun _ => hend) (fun z0 => ?_)
    have t0 : t = 0 := (nI_eq (by omega) (by omega)).mp (z0.trans nI_0.symm)
    have e80 := h80 t0
    refine g_aload_n C dL_law_1422 rfl 5 rfl ?_
    refine g_iconst (v := nI 0) C dL_law_1423 (by decide) ?_
    refine n_lald C 80 aa_80 0 (by decide) dL_law_1424 ?_
    refine g_lload C dL_law_1425 0 rfl ?_
    refine g_lcmp C dL_law_1427 ?_
    exact g_if_eq C 1433 dL_law_1428 (by decide) (fun _ => hend) (fun z => absurd (lE e80) z)
  · refine g_iconst (v := nI 1) C dL_law_1369 (by decide) ?_
    refine g_goto C 1374 dL_law_1370 (by decide) ?_
    refine g_aload_n C dL_law_1374 rfl 3 rfl ?_
    refine g_callX C [.ref (G.2.1 0), .int (xs (i + 1)), .int (nI 1), .ref (G.2.1 80)] (m_L_share hl hG V I J nr n ns v2 v4 v5 hw hz (xs (i + 1)) (nI 1)) rfl tw_668 tw_669 tw_30 tw_670 pd_L_share (by rw [hRm]; exact ⟨Nat.le_of_ble_eq_true rfl, Nat.le_of_ble_eq_true rfl⟩) (Nat.le_of_ble_eq_true rfl) (by rw [hRm]; exact ⟨hc1, hs1⟩) dL_law_1375 (fun E9 V9 I9 J9 hx9 => hx9.elim) (fun r1 V1 I1 J1 hA => ?_)
    obtain ⟨t, rfl, ht4, hpre, hB⟩ := st_share hc hz hmV hmI hmF hmJ hA
    obtain ⟨a1, a2⟩ := hpre
    refine g_cs (c2 := cells + 6) (s2 := slots + 36) rfl rfl ?_
    refine g_at rfl rfl (st2 := [.int (nI t)]) rfl ?_
    refine g_istore C [(5, .int (nI t)), (0, .ref b), (1, .ref (G.2.1 0)), (2, .ref (G.2.1 7)), (3, .ref (G.2.1 80)), (4, .int (nI i))] dL_law_1378 (by decide) rfl ?_
    refine g_aload_n C dL_law_1380 rfl 3 rfl ?_
    refine g_arg X (k := 1) (by decide) (by omega) dL_law_1381 dL_law_1382 dL_law_1384 dL_law_1385 dL_law_1386 1 rfl 5 rfl ?_
    refine g_arg X (k := 2) (by decide) (by omega) dL_law_1387 dL_law_1388 dL_law_1390 dL_law_1391 dL_law_1392 1 rfl 5 rfl ?_
    refine g_if_eq C 1400 dL_law_1393 (by decide) (fun z => absurd z c1) (fun _ => ?_)
    refine g_iconst (v := nI 1) C dL_law_1396 (by decide) ?_
    refine g_goto C 1401 dL_law_1397 (by decide) ?_
    refine g_cVr C [.int (xs (i + 1)), .int (nI 1)] 7 (m_X7_share hl hG V1 I1 J1 nr n ns M a1 (fun p => (dO nr ns n (tn (xs (i + 1))) V I p).2.2) a2 (xs (i + 1)) (nI 1)) rfl (by decide) rfl rfl rfl tw_954 tw_955 tw_956 tw_38 tw_957 pd_X7_share ⟨rfl, rfl⟩ (by rw [hRm]; exact ⟨Nat.le_of_ble_eq_true rfl, Nat.le_of_ble_eq_true rfl, hc1, hs1⟩) (Nat.le_of_ble_eq_true rfl) dL_law_1401 (fun r2 V2 I2 J2 hp => ?_)
    obtain ⟨y, rfl, h7, h80, hI2⟩ := hB _ _ _ _ hp
    refine g_at rfl rfl (st2 := [.long y]) rfl ?_
    refine g_lstore C [(6, .long y), (5, .int (nI t)), (0, .ref b), (1, .ref (G.2.1 0)), (2, .ref (G.2.1 7)), (3, .ref (G.2.1 80)), (4, .int (nI i))] dL_law_1404 (by decide) rfl ?_
    refine g_aload_n C dL_law_1406 rfl 4 rfl ?_
    refine g_cV C [] 7 (m_X7_thrown hl hG V2 I2 J2) rfl (st2 := [.int (V2 7)]) rfl (by decide) rfl rfl rfl tw_798 tw_799 tw_800 tw_38 tw_801 pd_X7_thrown ⟨rfl, rfl⟩ (by rw [hRm]; exact ⟨Nat.le_of_ble_eq_true rfl, Nat.le_of_ble_eq_true rfl, hc1, hs1⟩) (Nat.le_of_ble_eq_true rfl) dL_law_1407 ?_
    refine g_iload C dL_law_1410 1 rfl ?_
    refine g_icmp_eq C 1417 dL_law_1412 (by decide) (fun _ => ?_) (fun z => absurd h7 z)
    refine g_iload C dL_law_1417 1 rfl ?_
    have hend : WW K G (cells + 6) (slots + 36) Q V2 I2 J2 1433 [(6, .long y), (5, .int (nI t)), (0, .ref b), (1, .ref (G.2.1 0)), (2, .ref (G.2.1 7)), (3, .ref (G.2.1 80)), (4, .int (nI i))] [] := by
      refine g_goto C 1436 dL_law_1433 (by decide) ?_
      exact g_lv [2, 3, 4, 5, 6] rfl (kk _ _ _ hI2)
    refine g_if_ne C 1433 dL_law_1419 (by decide) (fun _ => hend) (fun z0 => ?_)
    have t0 : t = 0 := (nI_eq (by omega) (by omega)).mp (z0.trans nI_0.symm)
    have e80 := h80 t0
    refine g_aload_n C dL_law_1422 rfl 5 rfl ?_
    refine g_iconst (v := nI 0) C dL_law_1423 (by decide) ?_
    refine n_lald C 80 aa_80 0 (by decide) dL_law_1424 ?_
    refine g_lload C dL_law_1425 0 rfl ?_
    refine g_lcmp C dL_law_1427 ?_
    exact g_if_eq C 1433 dL_law_1428 (by decide) (fun _ => hend) (fun z => absurd (lE e80) z)
