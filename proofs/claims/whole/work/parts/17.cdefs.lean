/-! arguments, codes of what is thrown, what a question leaves -/
abbrev xIOB : String := "java/lang/IndexOutOfBoundsException"
abbrev xIAE : String := "java/lang/IllegalArgumentException"
abbrev xISE : String := "java/lang/IllegalStateException"
def inB (x : Int32) (n : Nat) : Bool := decide (¬ x < 0) && decide (x < nI n)
def rgB (x lo hi : Int32) : Bool := decide (¬ x < lo) && decide (x ≤ hi)
theorem inB_t {x : Int32} {n : Nat} (h1 : ¬ x < 0) (h2 : x < nI n) : inB x n = true := by unfold inB; rw [decide_eq_true h1, decide_eq_true h2]; rfl
theorem inB_f {x : Int32} {n : Nat} (h : x < 0 ∨ ¬ x < nI n) : inB x n = false := by
  unfold inB
  rcases h with h | h
  · rw [decide_eq_false (fun q => q h)]; rfl
  · rw [decide_eq_false h, Bool.and_false]
theorem rgB_t {x lo hi : Int32} (h1 : ¬ x < lo) (h2 : x ≤ hi) : rgB x lo hi = true := by unfold rgB; rw [decide_eq_true h1, decide_eq_true h2]; rfl
theorem rgB_f {x lo hi : Int32} (h : x < lo ∨ ¬ x ≤ hi) : rgB x lo hi = false := by
  unfold rgB
  rcases h with h | h
  · rw [decide_eq_false (fun q => q h)]; rfl
  · rw [decide_eq_false h, Bool.and_false]
theorem inB_nI {x : Int32} {n : Nat} (h : inB x n = true) (hn : n < 2 ^ 31) : ∃ j, j < n ∧ x = nI j := by
  unfold inB at h
  rw [Bool.and_eq_true, decide_eq_true_eq, decide_eq_true_eq] at h
  obtain ⟨j, hj, e⟩ := nI_of h.1
  subst e
  exact ⟨j, (nI_ltI hj hn).mp h.2, rfl⟩
theorem rgB_nI {x : Int32} {n : Nat} (h : rgB x (nI 0) (nI n) = true) (hn : n < 2 ^ 31) : ∃ j, j ≤ n ∧ x = nI j := by
  unfold rgB at h
  rw [Bool.and_eq_true, decide_eq_true_eq, decide_eq_true_eq, nI_0] at h
  obtain ⟨j, hj, e⟩ := nI_of h.1
  subst e
  exact ⟨j, (nI_leI hj hn).mp h.2, rfl⟩
/-- a throw of E0, nothing changed -/
def xS (V : wV) (I : wI) (J : wJ) (E0 : String) (c : Prop) : wPx := fun E V9 I9 J9 => E = E0 ∧ V9 = V ∧ I9 = I ∧ J9 = J ∧ c
/-- a throw by code, nothing changed -/
def xC (V : wV) (I : wI) (J : wJ) (tc : Nat) (L : List String) : wPx := fun E V9 I9 J9 => V9 = V ∧ I9 = I ∧ J9 = J ∧ ∃ k, L[k]? = some E ∧ tc = k + 1
def pB (V : wV) (I : wI) (J : wJ) (c : Prop) : wPo := fun r V9 I9 J9 => (r = none ∧ V9 = V ∧ I9 = I ∧ J9 = J) ∧ c
def tcGate (ng : Nat) : Nat := if ng = 12 then 1 else 0
def tcRoad (ng nr : Nat) (p0 p1 p2 p3 : Int32) : Nat := if (inB p0 ng && inB p1 ng) = true then (if (rgB p2 (nI 1) (nI 50) && (rgB p3 (nI 0) (nI 3) && !decide (p0 = p1))) = true then (if nr = 24 then 3 else 0) else 2) else 1
def tcRate (k r p : Int32) : Nat := if (rgB k (nI 0) (nI 2) && (rgB r (nI 0) (nI 100) && rgB p (nI 0) (nI 300))) = true then 0 else 1
def tcMost (x : Int32) : Nat := if rgB x (nI 0) (nI 100000) = true then 0 else 1
def tcPlate (p k h : Int32) : Nat := if inB p 10 = true then (if (rgB k (nI 0) (nI 2) && (decide (h = -1) || rgB h (nI 0) (nI 5))) = true then 0 else 2) else 1
def tcTop (h x : Int32) : Nat := if inB h 6 = true then (if rgB x (nI 1) (nI 100000) = true then 0 else 2) else 1
def tcExempt (ns : Nat) (p a b : Int32) : Nat := if inB p 10 = true then (if (rgB a (nI 0) (nI 100000) && rgB b a (nI 100000)) = true then (if ns = 20 then 3 else 0) else 2) else 1
def tcRead (ng n : Nat) (now g p m : Int32) : Nat := if (inB g ng && inB p 10) = true then (if rgB m (nI 0) now = true then (if n = 100 then 3 else 0) else 2) else 1
def tcStrike (I : wI) (n : Nat) (r : Int32) : Nat := if inB r n = true then (if I 22 (tn r) = 0 then 0 else 2) else 1
def tcPass (now m : Int32) : Nat := if rgB m (nI 1) (nI 1440) = true then (if now + m ≤ nI 100000 then 0 else 2) else 1
def tcDist (ng : Nat) (a b : Int32) : Nat := if (inB a ng && inB b ng) = true then 0 else 1
def tcWay (ng : Nat) (a b p : Int32) : Nat := if (inB a ng && (inB b ng && decide (0 ≤ p))) = true then 0 else 1
def tcIn (p : Int32) (n : Nat) : Nat := if inB p n = true then 0 else 1
def tcJourney (c : Nat) (p j w : Int32) : Nat := if inB p 10 = true then (if inB j c = true then (if rgB w (nI 0) (nI 8) = true then 0 else 2) else 1) else 1
def tcOfR (n : Nat) (r w : Int32) : Nat := if inB r n = true then (if rgB w (nI 0) (nI 5) = true then 0 else 2) else 1
/-- what a question leaves behind: only the journeys' scratch rows are new -/
def scr (V : wV) (I : wI) (J : wJ) (V9 : wV) (I9 : wI) (J9 : wJ) : Prop := (∀ k, k ≠ 6 → V9 k = V k) ∧ eqx I I9 ∧ (∀ r, I9 28 r = 0 ∨ I9 28 r = 1) ∧ J9 = J
def xCs (V : wV) (I : wI) (J : wJ) (tc : Nat) (L : List String) : wPx := fun E V9 I9 J9 => scr V I J V9 I9 J9 ∧ ∃ k, L[k]? = some E ∧ tc = k + 1
theorem z28_s {I : wI} {a j : Nat} {x : Int32} (ha : a ≠ 28) (h : ∀ r, I 28 r = 0 ∨ I 28 r = 1) : ∀ r, sI I a j x 28 r = 0 ∨ sI I a j x 28 r = 1 := fun r => by
  rw [show sI I a j x 28 = I 28 from uI_n (fun q => ha q.symm)]; exact h r
theorem z28_u {I : wI} {j : Nat} {x : Int32} (hx : x = 0 ∨ x = 1) (h : ∀ r, I 28 r = 0 ∨ I 28 r = 1) : ∀ r, sI I 28 j x 28 r = 0 ∨ sI I 28 j x 28 r = 1 := fun r => by
  rw [show sI I 28 j x 28 = upd (I 28) j x from uI_s]
  unfold upd
  by_cases e : r = j
  · rw [if_pos e]; exact hx
  · rw [if_neg e]; exact h r
theorem z28_bg {I : wI} {c r0 : Nat} {m : Int32} (h : ∀ r, I 28 r = 0 ∨ I 28 r = 1) : ∀ r, bgI I c r0 m 28 r = 0 ∨ bgI I c r0 m 28 r = 1 := by
  unfold bgI
  exact z28_u (Or.inl rfl) (z28_s (by decide) (z28_s (by decide) (z28_s (by decide) (z28_s (by decide) (z28_s (by decide) (z28_s (by decide) (z28_s (by decide) (z28_s (by decide) h))))))))
theorem z28_fj {nr n ns plate : Nat} {I : wI} (hw : wfC I nr n ns) (h : ∀ r, I 28 r = 0 ∨ I 28 r = 1) : ∀ p, p ≤ n → ∀ r, (fj nr ns plate I p).2.2 28 r = 0 ∨ (fj nr ns plate I p).2.2 28 r = 1
  | 0, _ => h
  | p + 1, hp => by
    have h1 := z28_fj (plate := plate) hw h p (by omega)
    have h2 := fj_ok (plate := plate) hw p (by omega)
    show ∀ r, (stp nr ns plate (fj nr ns plate I p) p).2.2 28 r = 0 ∨ (stp nr ns plate (fj nr ns plate I p) p).2.2 28 r = 1
    unfold stp
    split
    · unfold plc
      split
      · exact z28_bg h1
      · split
        · unfold pdI
          exact z28_u (Or.inr rfl) (z28_s (by decide) h1)
        · split
          · dsimp only
            rw [pw_27 (by decide) (wfC_x hw (eqx_tr h2.2.1 (eqx_go _ _ _ _)))]
            unfold goI
            exact z28_u (Or.inl rfl) (z28_s (by decide) (z28_s (by decide) (z28_s (by decide) h1)))
          · exact z28_bg h1
    · exact h1
theorem scr_fj {nr n ns plate : Nat} {V : wV} {I : wI} {J : wJ} (hw : wfC I nr n ns) (h : ∀ r, I 28 r = 0 ∨ I 28 r = 1) : scr V I J (upd V 6 (nI (fj nr ns plate I n).1)) (fj nr ns plate I n).2.2 J :=
  ⟨fun k hk => pk_un hk, (fj_ok hw n (Nat.le_refl _)).2.1, z28_fj hw h n (Nat.le_refl _), rfl⟩
theorem scr_rf {V : wV} {I : wI} {J : wJ} (h : ∀ r, I 28 r = 0 ∨ I 28 r = 1) : scr V I J V I J := ⟨fun _ _ => rfl, eqx_rf I, h, rfl⟩
theorem scr_tr {V V2 V3 : wV} {I I2 I3 : wI} {J J2 J3 : wJ} (h : scr V I J V2 I2 J2) (h2 : scr V2 I2 J2 V3 I3 J3) : scr V I J V3 I3 J3 := ⟨fun k hk => (h2.1 k hk).trans (h.1 k hk), eqx_tr h.2.1 h2.2.1, h2.2.2.1, h2.2.2.2.trans h.2.2.2⟩
theorem g_cs {K : wK} {G : wG} {cells slots c2 s2 : Nat} {Q : State → Prop} {V : wV} {I : wI} {J : wJ} {pc : Nat} {lv : List (Nat × Value)} {st : List Value} (h1 : cells = c2) (h2 : slots = s2) (k : WW K G c2 s2 Q V I J pc lv st) : WW K G cells slots Q V I J pc lv st := by subst h1; subst h2; exact k
theorem g_tsI {K : wK} {G : wG} {cells slots : Nat} {Q : State → Prop} {V : wV} {I : wI} {J : wJ} {pc : Nat} {lv : List (Nat × Value)} {st : List Value} {own : String} {cc : ByteArray} {nL : Nat} (C : Cx K G own cc nL) {dflt lo hi : Int} {offs : Array Int} {len : Nat} {x : Int32} {off : Int} (tgt : Nat) (hd : decode cc pc = .ok (.tableswitch dflt lo hi offs, len)) (h1 : ¬ x.toInt < lo) (h2 : ¬ hi < x.toInt) (ho : offs[(x.toInt - lo).toNat]? = some off) (ht : (pc : Int) + off = (tgt : Int)) (k : WW K G cells slots Q V I J tgt lv st) : WW K G cells slots Q V I J pc lv (.int x :: st) := fun H locs ls hP hS hl => lv_tableIn C.1.1 C.1.2.1 hd h1 h2 ho ht (k H locs ls hP hS hl)
theorem g_tsO {K : wK} {G : wG} {cells slots : Nat} {Q : State → Prop} {V : wV} {I : wI} {J : wJ} {pc : Nat} {lv : List (Nat × Value)} {st : List Value} {own : String} {cc : ByteArray} {nL : Nat} (C : Cx K G own cc nL) {dflt lo hi : Int} {offs : Array Int} {len : Nat} {x : Int32} (tgt : Nat) (hd : decode cc pc = .ok (.tableswitch dflt lo hi offs, len)) (h : x.toInt < lo ∨ hi < x.toInt) (ht : (pc : Int) + dflt = (tgt : Int)) (k : WW K G cells slots Q V I J tgt lv st) : WW K G cells slots Q V I J pc lv (.int x :: st) := fun H locs ls hP hS hl => lv_tableOut C.1.1 C.1.2.1 hd h ht (k H locs ls hP hS hl)
/-- what a plate's holder is charged -/
def chJ (J : wJ) (p : Nat) (hv : Int32) (due : Int64) : wJ := if hv = -1 then sJ (sJ J 31 p due) 30 p (J 30 p - (due - J 31 p)) else sJ (sJ J 31 p due) 29 (tn hv) (J 29 (tn hv) - (due - J 31 p))
def gt1 (J : wJ) (o : Nat) (x : Int64) : wJ := sJ J 32 o (J 32 o + x)

/-- what is due to an owner, plate by plate, and what stays behind in the scratch rows -/
def dO (nr ns n o : Nat) (V : wV) (I : wI) : Nat → Int64 × wV × wI
  | 0 => (0, V, I)
  | p + 1 => ((dO nr ns n o V I p).1 + sS (fj nr ns p (dO nr ns n o V I p).2.2 n).2.2 o (V 0) (V 3) (fj nr ns p (dO nr ns n o V I p).2.2 n).1, upd (dO nr ns n o V I p).2.1 6 (nI (fj nr ns p (dO nr ns n o V I p).2.2 n).1), (fj nr ns p (dO nr ns n o V I p).2.2 n).2.2)
theorem dO_ok {nr n ns o : Nat} {V : wV} {I : wI} {J : wJ} (hw : wfC I nr n ns) (h : ∀ r, I 28 r = 0 ∨ I 28 r = 1) : ∀ p, scr V I J (dO nr ns n o V I p).2.1 (dO nr ns n o V I p).2.2 J
  | 0 => scr_rf h
  | p + 1 => by
    have h1 := dO_ok (V := V) (J := J) (o := o) hw h p
    exact scr_tr h1 (scr_fj (wfC_x hw h1.2.1) h1.2.2.1)
/-- a bill, plate by plate -/
abbrev bS : Type := Int64 × wV × wI × wJ
def blF (nr ns n p : Nat) (S : bS) : fS := fj nr ns p S.2.2.1 n
def blD (nr ns n : Nat) (V : wV) (p : Nat) (S : bS) : Int64 := sF (blF nr ns n p S).2.2 (V 0) (V 3) (blF nr ns n p S).1
def blJ (nr ns n : Nat) (V : wV) (p : Nat) (S : bS) : Nat → wJ
  | 0 => chJ S.2.2.2 p (S.2.2.1 15 p) (blD nr ns n V p S)
  | o + 1 => gt1 (blJ nr ns n V p S o) o (sS (blF nr ns n p S).2.2 o (V 0) (V 3) (blF nr ns n p S).1)
def blS (nr ns n : Nat) (V : wV) (I : wI) (J : wJ) : Nat → bS
  | 0 => (0, V, I, sJ (sJ (sJ (sJ J 32 0 0) 32 1 0) 32 2 0) 32 3 0)
  | p + 1 => ((blS nr ns n V I J p).1 + (blD nr ns n V p (blS nr ns n V I J p) - (blS nr ns n V I J p).2.2.2 31 p), upd (blS nr ns n V I J p).2.1 6 (nI (blF nr ns n p (blS nr ns n V I J p)).1), (blF nr ns n p (blS nr ns n V I J p)).2.2, blJ nr ns n V p (blS nr ns n V I J p) 4)
theorem blS_ok {nr n ns : Nat} {V : wV} {I : wI} {J : wJ} (hw : wfC I nr n ns) (h : ∀ r, I 28 r = 0 ∨ I 28 r = 1) : ∀ p, scr V I J (blS nr ns n V I J p).2.1 (blS nr ns n V I J p).2.2.1 J
  | 0 => scr_rf h
  | p + 1 => by
    have h1 := blS_ok (V := V) (J := J) hw h p
    exact scr_tr h1 (scr_fj (J := J) (wfC_x hw h1.2.1) h1.2.2.1)
