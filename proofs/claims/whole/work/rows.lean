section
-- ===== PART A: goes FIRST, ahead of the names: the tables' words, and 'selects' of the private methods out of them =====
/-- a private method of a class that the tables say can be made, by its rows of tables_1 -/
def lw_okq (q : MethodName × Nat) : Prop := (q.1.cls ≠ "java/lang/invoke/MethodHandle" ∧ q.1.cls ≠ "java/lang/invoke/VarHandle") ∧ Cond.instantiable q.1.cls q.2 ∈ tables_1 ∧ Cond.privateMethod q.1 ∈ tables_1 ∧ Cond.instanceMethod q.1 ∈ tables_1
theorem lw_p0 : lw_okq (⟨"Tollweave", "findJourneys", "(I)V"⟩, 7) := ⟨⟨by decide +kernel, by decide +kernel⟩, List.mem_of_getElem? (i := 17) (by decide +kernel), List.mem_of_getElem? (i := 230) (by decide +kernel), List.mem_of_getElem? (i := 231) (by decide +kernel)⟩
theorem lw_p1 : lw_okq (⟨"Tollweave", "placeReading", "(II)I"⟩, 7) := ⟨⟨by decide +kernel, by decide +kernel⟩, List.mem_of_getElem? (i := 17) (by decide +kernel), List.mem_of_getElem? (i := 238) (by decide +kernel), List.mem_of_getElem? (i := 239) (by decide +kernel)⟩
theorem lw_p2 : lw_okq (⟨"Tollweave", "isDoubleOf", "(II)Z"⟩, 7) := ⟨⟨by decide +kernel, by decide +kernel⟩, List.mem_of_getElem? (i := 17) (by decide +kernel), List.mem_of_getElem? (i := 246) (by decide +kernel), List.mem_of_getElem? (i := 247) (by decide +kernel)⟩
theorem lw_p3 : lw_okq (⟨"Tollweave", "goesOnFrom", "(II)Z"⟩, 7) := ⟨⟨by decide +kernel, by decide +kernel⟩, List.mem_of_getElem? (i := 17) (by decide +kernel), List.mem_of_getElem? (i := 258) (by decide +kernel), List.mem_of_getElem? (i := 259) (by decide +kernel)⟩
theorem lw_p4 : lw_okq (⟨"Tollweave", "payWay", "(III)V"⟩, 7) := ⟨⟨by decide +kernel, by decide +kernel⟩, List.mem_of_getElem? (i := 17) (by decide +kernel), List.mem_of_getElem? (i := 270) (by decide +kernel), List.mem_of_getElem? (i := 271) (by decide +kernel)⟩
theorem lw_p5 : lw_okq (⟨"Tollweave$Journeys", "wholeOf", "(I)I"⟩, 7) := ⟨⟨by decide +kernel, by decide +kernel⟩, List.mem_of_getElem? (i := 141) (by decide +kernel), List.mem_of_getElem? (i := 310) (by decide +kernel), List.mem_of_getElem? (i := 311) (by decide +kernel)⟩
theorem lw_p6 : lw_okq (⟨"Tollweave$Journeys", "ownerOfTheMost", "(I)I"⟩, 7) := ⟨⟨by decide +kernel, by decide +kernel⟩, List.mem_of_getElem? (i := 141) (by decide +kernel), List.mem_of_getElem? (i := 329) (by decide +kernel), List.mem_of_getElem? (i := 330) (by decide +kernel)⟩
theorem lw_p7 : lw_okq (⟨"Tollweave$Journeys", "cutShare", "(IIII)I"⟩, 7) := ⟨⟨by decide +kernel, by decide +kernel⟩, List.mem_of_getElem? (i := 141) (by decide +kernel), List.mem_of_getElem? (i := 333) (by decide +kernel), List.mem_of_getElem? (i := 334) (by decide +kernel)⟩
theorem lw_p8 : lw_okq (⟨"java/lang/Throwable", "fillInStackTrace", "(I)Ljava/lang/Throwable;"⟩, 6) := ⟨⟨by decide +kernel, by decide +kernel⟩, List.mem_of_getElem? (i := 383) (by decide +kernel), List.mem_of_getElem? (i := 381) (by decide +kernel), List.mem_of_getElem? (i := 382) (by decide +kernel)⟩
theorem lw_p9 : lw_okq (⟨"Tollweave", "requireGate", "(I)V"⟩, 7) := ⟨⟨by decide +kernel, by decide +kernel⟩, List.mem_of_getElem? (i := 17) (by decide +kernel), List.mem_of_getElem? (i := 426) (by decide +kernel), List.mem_of_getElem? (i := 427) (by decide +kernel)⟩
theorem lw_p10 : lw_okq (⟨"Tollweave$Roads", "shortenDistances", "(III)V"⟩, 7) := ⟨⟨by decide +kernel, by decide +kernel⟩, List.mem_of_getElem? (i := 25) (by decide +kernel), List.mem_of_getElem? (i := 471) (by decide +kernel), List.mem_of_getElem? (i := 472) (by decide +kernel)⟩
theorem lw_p11 : lw_okq (⟨"Tollweave", "requireReading", "(I)V"⟩, 7) := ⟨⟨by decide +kernel, by decide +kernel⟩, List.mem_of_getElem? (i := 17) (by decide +kernel), List.mem_of_getElem? (i := 544) (by decide +kernel), List.mem_of_getElem? (i := 545) (by decide +kernel)⟩
theorem lw_p12 : lw_okq (⟨"Tollweave", "isDoubleNow", "(I)Z"⟩, 7) := ⟨⟨by decide +kernel, by decide +kernel⟩, List.mem_of_getElem? (i := 17) (by decide +kernel), List.mem_of_getElem? (i := 603) (by decide +kernel), List.mem_of_getElem? (i := 604) (by decide +kernel)⟩
theorem lw_p13 : lw_okq (⟨"Tollweave", "journeyNow", "(I)I"⟩, 7) := ⟨⟨by decide +kernel, by decide +kernel⟩, List.mem_of_getElem? (i := 17) (by decide +kernel), List.mem_of_getElem? (i := 607) (by decide +kernel), List.mem_of_getElem? (i := 608) (by decide +kernel)⟩
theorem lw_p14 : lw_okq (⟨"Tollweave", "dueToOwner", "(I)J"⟩, 7) := ⟨⟨by decide +kernel, by decide +kernel⟩, List.mem_of_getElem? (i := 17) (by decide +kernel), List.mem_of_getElem? (i := 647) (by decide +kernel), List.mem_of_getElem? (i := 648) (by decide +kernel)⟩
theorem lw_p15 : lw_okq (⟨"TollweaveModel", "measures", "()V"⟩, 37) := ⟨⟨by decide +kernel, by decide +kernel⟩, List.mem_of_getElem? (i := 651) (by decide +kernel), List.mem_of_getElem? (i := 777) (by decide +kernel), List.mem_of_getElem? (i := 778) (by decide +kernel)⟩
def lw_privs_1 : List (MethodName × Nat) := [(⟨"Tollweave", "findJourneys", "(I)V"⟩, 7), (⟨"Tollweave", "placeReading", "(II)I"⟩, 7), (⟨"Tollweave", "isDoubleOf", "(II)Z"⟩, 7), (⟨"Tollweave", "goesOnFrom", "(II)Z"⟩, 7), (⟨"Tollweave", "payWay", "(III)V"⟩, 7), (⟨"Tollweave$Journeys", "wholeOf", "(I)I"⟩, 7), (⟨"Tollweave$Journeys", "ownerOfTheMost", "(I)I"⟩, 7), (⟨"Tollweave$Journeys", "cutShare", "(IIII)I"⟩, 7), (⟨"java/lang/Throwable", "fillInStackTrace", "(I)Ljava/lang/Throwable;"⟩, 6), (⟨"Tollweave", "requireGate", "(I)V"⟩, 7), (⟨"Tollweave$Roads", "shortenDistances", "(III)V"⟩, 7), (⟨"Tollweave", "requireReading", "(I)V"⟩, 7), (⟨"Tollweave", "isDoubleNow", "(I)Z"⟩, 7), (⟨"Tollweave", "journeyNow", "(I)I"⟩, 7), (⟨"Tollweave", "dueToOwner", "(I)J"⟩, 7), (⟨"TollweaveModel", "measures", "()V"⟩, 37)]
theorem lw_r1 : ∀ q ∈ lw_privs_1, lw_okq q := List.forall_mem_cons.mpr ⟨lw_p0, List.forall_mem_cons.mpr ⟨lw_p1, List.forall_mem_cons.mpr ⟨lw_p2, List.forall_mem_cons.mpr ⟨lw_p3, List.forall_mem_cons.mpr ⟨lw_p4, List.forall_mem_cons.mpr ⟨lw_p5, List.forall_mem_cons.mpr ⟨lw_p6, List.forall_mem_cons.mpr ⟨lw_p7, List.forall_mem_cons.mpr ⟨lw_p8, List.forall_mem_cons.mpr ⟨lw_p9, List.forall_mem_cons.mpr ⟨lw_p10, List.forall_mem_cons.mpr ⟨lw_p11, List.forall_mem_cons.mpr ⟨lw_p12, List.forall_mem_cons.mpr ⟨lw_p13, List.forall_mem_cons.mpr ⟨lw_p14, List.forall_mem_cons.mpr ⟨lw_p15, fun _ h => absurd h List.not_mem_nil⟩⟩⟩⟩⟩⟩⟩⟩⟩⟩⟩⟩⟩⟩⟩⟩
theorem lw_p16 : lw_okq (⟨"TollweaveModel", "isGate", "(I)Z"⟩, 37) := ⟨⟨by decide +kernel, by decide +kernel⟩, List.mem_of_getElem? (i := 651) (by decide +kernel), List.mem_of_getElem? (i := 786) (by decide +kernel), List.mem_of_getElem? (i := 787) (by decide +kernel)⟩
theorem lw_p17 : lw_okq (⟨"TollweaveModel", "isReading", "(I)Z"⟩, 37) := ⟨⟨by decide +kernel, by decide +kernel⟩, List.mem_of_getElem? (i := 651) (by decide +kernel), List.mem_of_getElem? (i := 828) (by decide +kernel), List.mem_of_getElem? (i := 829) (by decide +kernel)⟩
theorem lw_p18 : lw_okq (⟨"TollweaveModel", "dueOf", "(I)J"⟩, 37) := ⟨⟨by decide +kernel, by decide +kernel⟩, List.mem_of_getElem? (i := 651) (by decide +kernel), List.mem_of_getElem? (i := 840) (by decide +kernel), List.mem_of_getElem? (i := 841) (by decide +kernel)⟩
theorem lw_p19 : lw_okq (⟨"TollweaveModel", "goes", "(I)V"⟩, 37) := ⟨⟨by decide +kernel, by decide +kernel⟩, List.mem_of_getElem? (i := 651) (by decide +kernel), List.mem_of_getElem? (i := 844) (by decide +kernel), List.mem_of_getElem? (i := 845) (by decide +kernel)⟩
theorem lw_p20 : lw_okq (⟨"TollweaveModel", "nextReading", "(I)I"⟩, 37) := ⟨⟨by decide +kernel, by decide +kernel⟩, List.mem_of_getElem? (i := 651) (by decide +kernel), List.mem_of_getElem? (i := 848) (by decide +kernel), List.mem_of_getElem? (i := 849) (by decide +kernel)⟩
theorem lw_p21 : lw_okq (⟨"TollweaveModel", "away", "(II)I"⟩, 37) := ⟨⟨by decide +kernel, by decide +kernel⟩, List.mem_of_getElem? (i := 651) (by decide +kernel), List.mem_of_getElem? (i := 852) (by decide +kernel), List.mem_of_getElem? (i := 853) (by decide +kernel)⟩
theorem lw_p22 : lw_okq (⟨"TollweaveModel", "pays", "(IIII)V"⟩, 37) := ⟨⟨by decide +kernel, by decide +kernel⟩, List.mem_of_getElem? (i := 651) (by decide +kernel), List.mem_of_getElem? (i := 856) (by decide +kernel), List.mem_of_getElem? (i := 857) (by decide +kernel)⟩
theorem lw_p23 : lw_okq (⟨"TollweaveModel", "isExempt", "(II)Z"⟩, 37) := ⟨⟨by decide +kernel, by decide +kernel⟩, List.mem_of_getElem? (i := 651) (by decide +kernel), List.mem_of_getElem? (i := 860) (by decide +kernel), List.mem_of_getElem? (i := 861) (by decide +kernel)⟩
theorem lw_p24 : lw_okq (⟨"TollweaveModel", "next", "(II)I"⟩, 37) := ⟨⟨by decide +kernel, by decide +kernel⟩, List.mem_of_getElem? (i := 651) (by decide +kernel), List.mem_of_getElem? (i := 864) (by decide +kernel), List.mem_of_getElem? (i := 865) (by decide +kernel)⟩
theorem lw_p25 : lw_okq (⟨"TollweaveModel", "otherEnd", "(II)I"⟩, 37) := ⟨⟨by decide +kernel, by decide +kernel⟩, List.mem_of_getElem? (i := 651) (by decide +kernel), List.mem_of_getElem? (i := 869) (by decide +kernel), List.mem_of_getElem? (i := 870) (by decide +kernel)⟩
theorem lw_p26 : lw_okq (⟨"TollweaveModel", "begins", "(I)V"⟩, 37) := ⟨⟨by decide +kernel, by decide +kernel⟩, List.mem_of_getElem? (i := 651) (by decide +kernel), List.mem_of_getElem? (i := 873) (by decide +kernel), List.mem_of_getElem? (i := 874) (by decide +kernel)⟩
theorem lw_p27 : lw_okq (⟨"TollweaveModel", "shares", "(I)V"⟩, 37) := ⟨⟨by decide +kernel, by decide +kernel⟩, List.mem_of_getElem? (i := 651) (by decide +kernel), List.mem_of_getElem? (i := 877) (by decide +kernel), List.mem_of_getElem? (i := 878) (by decide +kernel)⟩
theorem lw_p28 : lw_okq (⟨"TollweaveModel", "isOver", "(I)Z"⟩, 37) := ⟨⟨by decide +kernel, by decide +kernel⟩, List.mem_of_getElem? (i := 651) (by decide +kernel), List.mem_of_getElem? (i := 881) (by decide +kernel), List.mem_of_getElem? (i := 882) (by decide +kernel)⟩
theorem lw_p29 : lw_okq (⟨"TollweaveModel", "dueTo", "(I)J"⟩, 37) := ⟨⟨by decide +kernel, by decide +kernel⟩, List.mem_of_getElem? (i := 651) (by decide +kernel), List.mem_of_getElem? (i := 885) (by decide +kernel), List.mem_of_getElem? (i := 886) (by decide +kernel)⟩
def lw_privs_2 : List (MethodName × Nat) := [(⟨"TollweaveModel", "isGate", "(I)Z"⟩, 37), (⟨"TollweaveModel", "isReading", "(I)Z"⟩, 37), (⟨"TollweaveModel", "dueOf", "(I)J"⟩, 37), (⟨"TollweaveModel", "goes", "(I)V"⟩, 37), (⟨"TollweaveModel", "nextReading", "(I)I"⟩, 37), (⟨"TollweaveModel", "away", "(II)I"⟩, 37), (⟨"TollweaveModel", "pays", "(IIII)V"⟩, 37), (⟨"TollweaveModel", "isExempt", "(II)Z"⟩, 37), (⟨"TollweaveModel", "next", "(II)I"⟩, 37), (⟨"TollweaveModel", "otherEnd", "(II)I"⟩, 37), (⟨"TollweaveModel", "begins", "(I)V"⟩, 37), (⟨"TollweaveModel", "shares", "(I)V"⟩, 37), (⟨"TollweaveModel", "isOver", "(I)Z"⟩, 37), (⟨"TollweaveModel", "dueTo", "(I)J"⟩, 37)]
theorem lw_r2 : ∀ q ∈ lw_privs_2, lw_okq q := List.forall_mem_cons.mpr ⟨lw_p16, List.forall_mem_cons.mpr ⟨lw_p17, List.forall_mem_cons.mpr ⟨lw_p18, List.forall_mem_cons.mpr ⟨lw_p19, List.forall_mem_cons.mpr ⟨lw_p20, List.forall_mem_cons.mpr ⟨lw_p21, List.forall_mem_cons.mpr ⟨lw_p22, List.forall_mem_cons.mpr ⟨lw_p23, List.forall_mem_cons.mpr ⟨lw_p24, List.forall_mem_cons.mpr ⟨lw_p25, List.forall_mem_cons.mpr ⟨lw_p26, List.forall_mem_cons.mpr ⟨lw_p27, List.forall_mem_cons.mpr ⟨lw_p28, List.forall_mem_cons.mpr ⟨lw_p29, fun _ h => absurd h List.not_mem_nil⟩⟩⟩⟩⟩⟩⟩⟩⟩⟩⟩⟩⟩⟩
def lw_privs : List (MethodName × Nat) := lw_privs_1 ++ (lw_privs_2)
def lw_tbl : List Cond := k2_sels lw_privs ++ tables_1
theorem lw_privs_ok : ∀ q ∈ lw_privs, lw_okq q := by
  show ∀ q ∈ lw_privs_1 ++ (lw_privs_2), lw_okq q
  exact List.forall_mem_append.mpr ⟨lw_r1, lw_r2⟩
-- ===== end of PART A; then your names; then what follows =====
end
section
/-- the tables say: there is an array class over arrays of ty (the printed rows name this word and the kit has it not: written here) -/
def va_AOA (ty : FieldType) (s : State) : Prop := ∀ args : Array Value, (Cond.arrayOver (.array ty)).before args s = true
theorem va_AOA.use {ty : FieldType} {s : State} {args : Array Value} (h : va_AOA ty s) : (Cond.arrayOver (.array ty)).before args s = true := h args
/-! ===== BEGIN words of one list among another's, by their places ===== -/
theorem goodIn_r {big : List Cond} (ws : List Cond) (ps : List Nat) (hp : ws = ps.filterMap (fun i => big[i]?)) (h : ws.all goodWord = true) : GoodIn big ws := by
  intro w hw
  have h1 := List.all_eq_true.mp h w hw
  rw [hp] at hw
  obtain ⟨i, -, hi⟩ := List.mem_filterMap.mp hw
  have hm : w ∈ big := by first | exact List.mem_of_getElem? hi | exact List.getElem?_mem hi
  exact ⟨hm, good_of_word h1⟩
theorem goodIn_app {big a b : List Cond} (ha : GoodIn big a) (hb : GoodIn big b) : GoodIn big (a ++ b) := fun w h => (List.mem_append.mp h).elim (ha w) (hb w)
theorem goodIn_ca {big a b : List Cond} {c : Cond} (ha : GoodIn big (c :: a)) (hb : GoodIn big b) : GoodIn big (c :: (a ++ b)) := fun w h => (List.mem_cons.mp h).elim (fun e => ha w (List.mem_cons.mpr (Or.inl e))) (fun h => (List.mem_append.mp h).elim (fun h => ha w (List.mem_cons.mpr (Or.inr h))) (hb w))
theorem goodIn_sub {big ws : List Cond} (hm : ∀ w ∈ ws, w ∈ big) (h : ws.all goodWord = true) : GoodIn big ws := fun w hw => ⟨hm w hw, good_of_word (List.all_eq_true.mp h w hw)⟩
/-! ===== END ===== -/

/-! ===== BEGIN new T[n][m]: the outer array a place, the inner ones among the pooled ===== -/
/-- f, but v at every address of l -/
def vr_up {α : Type} (f : Nat → α) (l : List Nat) (v : α) : Nat → α := fun a => if a ∈ l then v else f a
theorem vr_up_in {α : Type} {f : Nat → α} {l : List Nat} {v : α} {a : Nat} (h : a ∈ l) : vr_up f l v a = v := if_pos h
theorem vr_up_ne {α : Type} {f : Nat → α} {l : List Nat} {v : α} {a : Nat} (h : a ∉ l) : vr_up f l v a = f a := if_neg h
theorem vr_rows {L l : List Nat} {f : Nat → va_E} {e : va_E} (h : ∀ a, a ∈ l → a ∉ L) : va_pl L f ++ l.map (fun a => (a, e)) = va_pl (L ++ l) (vr_up f l e) := by
  unfold va_pl
  rw [List.map_append]
  congr 1
  · apply List.map_congr_left
    intro a ha
    rw [vr_up_ne (fun q => h a q ha)]
  · apply List.map_congr_left
    intro a ha
    rw [vr_up_in ha]
theorem vr_lay {X rows : va_W} {x : Nat × va_E} {pl : va_W} {D : va_G} {cl : List vw_C} {H : Heap} (hP : va_P D cl (((X ++ pl) ++ [x]) ++ rows) H) : va_P D cl ((X ++ [x]) ++ (pl ++ rows)) H := by
  rw [List.append_assoc (X ++ pl)] at hP
  have h := va_P.swap hP
  rw [← List.append_assoc X] at h
  have h2 := va_P.swap h
  rw [List.append_assoc (X ++ [x])] at h2
  exact h2
theorem vr_layD {X rows : va_W} {x : Nat × va_E} {pl : va_W} {A : Nat → Prop} (hD : va_D A (((X ++ pl) ++ [x]) ++ rows)) : va_D A ((X ++ [x]) ++ (pl ++ rows)) := by
  rw [List.append_assoc (X ++ pl)] at hD
  have h := va_D.swap hD
  rw [← List.append_assoc X] at h
  have h2 := va_D.swap h
  rw [List.append_assoc (X ++ [x])] at h2
  exact h2
theorem vr_outer (c : ClassId) (N h0 : Nat) : ∀ i : Nat, Jvm.Free.Multi.outerC c N h0 i = arrV c N (fun j => va_rf (if j < i then some (h0 + 1 + j) else none))
  | 0 => by
    show ({ cls := c, slots := Array.replicate N .null, vm := .none } : Cell) = _
    rw [arrV_new]
    refine congrArg (arrV c N) (funext fun j => ?_)
    simp [va_rf]
  | i + 1 => by
    show (Jvm.Free.Multi.outerC c N h0 i).setSlot i (.ref (h0 + 1 + i)) = _
    rw [vr_outer c N h0 i, arrV_store]
    refine congrArg (arrV c N) (funext fun j => ?_)
    by_cases e : j = i
    · subst e
      simp [updV, va_rf]
    · by_cases h : j < i
      · simp [updV, e, h, Nat.lt_succ_of_lt h]
      · simp [updV, e, h, show ¬ j < i + 1 by omega]
section VGM
variable {p : Program} {l : Launch} {e : Env} {R : Room} {s : State} {m : MethodId} {args : Array Value} {below : List Frame} {meth : Method} {c : Code} {H : Heap} {locs : List Loc} {cells slots : Nat} {Q : State → Prop}
variable {cc : ByteArray} {pc : Nat} {ls : Array Slot} {rest : List Value} {D : va_G} {cl : List vw_C} {A : Nat → Prop} {a : Nat} {tys : List (ClassId × FieldType)} {ws : va_W} {H0 : Heap}
theorem va_mna {X : va_W} {L : List Nat} {f : Nat → va_E} {cc : ByteArray} (hexec : p.tables.exec = Jvm.exec) (hb : c.code = cc) {own : String} {index : Nat} {ty : FieldType} {cy : ClassId} (hown : s.vm.findClass own = some m.cls) (hclink : (Cond.classLink own index ("[" ++ (FieldType.array ty).toString)).before args s = true) (hover : va_AOA ty s) (harr : (Cond.arrayClass ty).before args s = true) (hcy : s.vm.findClass (FieldType.array ty).toString = some cy)
    (hK : va_K D cl tys s) (hP : va_P D cl (X ++ va_pl L f) H) (hD : va_D A (X ++ va_pl L f)) (hS : va_S A H0 H locs) (hA : ∀ q, H0.size ≤ q → A q) {n k : Int32} {N' K' : Nat} {z : vp_A} (hn : ¬ n < 0) (hk : ¬ k < 0) (hN : n.toNatClampNeg = N') (hM : k.toNatClampNeg = K')
    (hb1 : N' * 4 ≤ 536870912) (hb2 : K' * componentBytes ty ≤ 536870912) (hb3 : K' ≤ 536870912) (hdf : fits ty (defaultValue ty) = true) (hdd : (defaultValue ty).isDefault = true) (hcells : cells + (1 + N') ≤ R.cells) (hslots : slots + (N' + N' * K') ≤ R.slots) (hz : ∀ c : ClassId, Jvm.Free.Multi.innerC c K' (defaultValue ty) = vp_cell c z) (hdg : decode cc pc = .ok (.multianewarray index 2, 4))
    (kk : ∀ (q : Nat) (r : Nat → Nat) (cA : ClassId) (H1 : Heap), (∀ i j : Nat, i < N' → j < N' → r i = r j → i = j) → (∀ i : Nat, i < N' → r i ∉ L) → va_K D cl (tys ++ [(cA, .array ty)]) s →
      va_P D cl ((X ++ [(q, .inl (cA, N', .inr (.inr (.inr (.inr (fun i => if i < N' then some (r i) else none))))))]) ++ va_pl (L ++ (List.range N').map r) (vr_up f ((List.range N').map r) (.inl (cy, z)))) H1 → va_D A ((X ++ [(q, .inl (cA, N', .inr (.inr (.inr (.inr (fun i => if i < N' then some (r i) else none))))))]) ++ va_pl (L ++ (List.range N').map r) (vr_up f ((List.range N').map r) (.inl (cy, z)))) → va_S A H0 H1 locs →
      W p l e R s m args below meth c H1 locs (cells + 1 + N') (slots + N' + N' * K') Q (F0 m (pc + 4) ls (.ref q :: rest))) : W p l e R s m args below meth c H locs cells slots Q (F0 m pc ls (.int k :: .int n :: rest)) := by
  subst hN
  subst hM
  intro T hT Xs
  obtain ⟨vm₁, cA, comp, -, fA, fC, hO, -, X', step⟩ := Xs.multianewarray2F hexec hown hclink (va_AOA.use hover) harr (g := F0 m pc ls (.int k :: .int n :: rest)) rfl (by rw [hb]; exact hdg) rfl hn hk hb1 hb2 hb3 hdf hdd hcells hslots
  have ec : some cy = some comp := hcy.symm.trans fC
  cases ec
  generalize hF : Jvm.Free.Multi.fill (T.setVm vm₁) cA cy n.toNatClampNeg k.toNatClampNeg (defaultValue ty) n.toNatClampNeg = F at X' step
  have hTh : (T.setVm vm₁).heap = H := hT
  obtain ⟨f1, f2, -, -⟩ := Jvm.Free.Multi.fill_facts (T.setVm vm₁) cA cy n.toNatClampNeg k.toNatClampNeg (defaultValue ty) n.toNatClampNeg
  rw [hF, hTh] at f1 f2
  have hold : ∀ x : Nat, x < H.size → F.heap[x]? = H[x]? := fun x hx => by
    have := Jvm.Free.Multi.fill_old (T.setVm vm₁) cA cy n.toNatClampNeg k.toNatClampNeg (defaultValue ty) (a := x) (by rw [hTh]; exact hx) n.toNatClampNeg
    rw [hF, hTh] at this
    exact this
  have hrow : ∀ j : Nat, j < n.toNatClampNeg → F.heap[H.size + 1 + j]? = some (vp_cell cy z) := fun j hj => by
    have := Jvm.Free.Multi.fill_inner (T.setVm vm₁) cA cy n.toNatClampNeg k.toNatClampNeg (defaultValue ty) n.toNatClampNeg j hj
    rw [hF, hTh, hz] at this
    exact this
  have hout : Jvm.Free.Multi.outerC cA n.toNatClampNeg H.size n.toNatClampNeg = vp_cell cA (n.toNatClampNeg, .inr (.inr (.inr (.inr (fun i => if i < n.toNatClampNeg then some (H.size + 1 + i) else none))))) := by
    rw [vp_cell_q]
    exact vr_outer cA n.toNatClampNeg H.size n.toNatClampNeg
  rw [hout] at f2
  have hlt : ∀ a, a ∈ L → a < H.size := fun a ha => by
    obtain ⟨k9, hk9⟩ := va_pl_get (X := X) (f := f) ha
    exact (hP k9 _ hk9).lt
  have hnl : ∀ i : Nat, i < n.toNatClampNeg → H.size + 1 + i ∉ L := fun i _ h => by
    have := hlt _ h
    omega
  have hnm : ∀ a, a ∈ (List.range n.toNatClampNeg).map (fun i => H.size + 1 + i) → a ∉ L := fun a ha h => by
    obtain ⟨i, -, rfl⟩ := List.mem_map.mp ha
    have := hlt _ h
    omega
  have hP0 : va_P D cl (X ++ va_pl L f) F.heap := hP.kept (fun k9 x hx => hold x.1 ((hP k9 x hx).lt))
  have hP1 : va_P D cl ((X ++ va_pl L f) ++ [(H.size, .inl (cA, n.toNatClampNeg, .inr (.inr (.inr (.inr (fun i => if i < n.toNatClampNeg then some (H.size + 1 + i) else none))))))]) F.heap := hP0.app (fun k9 x hx => by
    have h0 : k9 < 1 := (List.getElem?_eq_some_iff.mp hx).1
    rw [show k9 = 0 by omega] at hx
    cases hx
    exact f2)
  have hP2 : va_P D cl (((X ++ va_pl L f) ++ [(H.size, .inl (cA, n.toNatClampNeg, .inr (.inr (.inr (.inr (fun i => if i < n.toNatClampNeg then some (H.size + 1 + i) else none))))))]) ++ ((List.range n.toNatClampNeg).map (fun i => H.size + 1 + i)).map (fun a => (a, .inl (cy, z)))) F.heap := hP1.app (fun k9 x hx => by
    obtain ⟨a, ha, rfl⟩ := List.mem_map.mp (List.mem_of_getElem? hx)
    obtain ⟨i, hi, rfl⟩ := List.mem_map.mp ha
    exact hrow i (List.mem_range.mp hi))
  have hD2 : va_D A (((X ++ va_pl L f) ++ [(H.size, .inl (cA, n.toNatClampNeg, .inr (.inr (.inr (.inr (fun i => if i < n.toNatClampNeg then some (H.size + 1 + i) else none))))))]) ++ ((List.range n.toNatClampNeg).map (fun i => H.size + 1 + i)).map (fun a => (a, .inl (cy, z)))) := by
    have hD1 := hD.push (e := .inl (cA, n.toNatClampNeg, .inr (.inr (.inr (.inr (fun i => if i < n.toNatClampNeg then some (H.size + 1 + i) else none)))))) hP rfl (hA _ hS.1)
    generalize hW1 : (X ++ va_pl L f) ++ [(H.size, .inl (cA, n.toNatClampNeg, .inr (.inr (.inr (.inr (fun i => if i < n.toNatClampNeg then some (H.size + 1 + i) else none))))))] = W1 at hD1 hP1 ⊢
    have hle : ∀ (k9 : Nat) (x : Nat × va_E), W1[k9]? = some x → x.1 ≤ H.size := fun k9 x hx => by
      rw [← hW1] at hx
      by_cases hl : k9 < (X ++ va_pl L f).length
      · rw [List.getElem?_append_left hl] at hx
        exact Nat.le_of_lt ((hP k9 x hx).lt)
      · rw [List.getElem?_append_right (by omega)] at hx
        have h0 : k9 - (X ++ va_pl L f).length < 1 := (List.getElem?_eq_some_iff.mp hx).1
        rw [show k9 - (X ++ va_pl L f).length = 0 by omega] at hx
        cases hx
        exact Nat.le_refl _
    have hr : ∀ (k9 : Nat) (x : Nat × va_E), (((List.range n.toNatClampNeg).map (fun i => H.size + 1 + i)).map (fun a => ((a, .inl (cy, z)) : Nat × va_E)))[k9]? = some x → x.1 = H.size + 1 + k9 := fun k9 x hx => by
      rw [List.getElem?_map, List.getElem?_map] at hx
      by_cases h9 : k9 < n.toNatClampNeg
      · rw [List.getElem?_range h9] at hx
        cases hx
        rfl
      · have hn0 : (List.range n.toNatClampNeg)[k9]? = none := List.getElem?_eq_none (by rw [List.length_range]; omega)
        rw [hn0] at hx
        cases hx
    refine ⟨fun i j x y hi hj hxy => ?_, fun k9 x hx => ?_⟩
    · by_cases h1 : i < W1.length <;> by_cases h2 : j < W1.length
      · rw [List.getElem?_append_left h1] at hi
        rw [List.getElem?_append_left h2] at hj
        exact hD1.1 i j x y hi hj hxy
      · rw [List.getElem?_append_left h1] at hi
        rw [List.getElem?_append_right (by omega)] at hj
        have := hle _ _ hi
        have := hr _ _ hj
        omega
      · rw [List.getElem?_append_right (by omega)] at hi
        rw [List.getElem?_append_left h2] at hj
        have := hle _ _ hj
        have := hr _ _ hi
        omega
      · rw [List.getElem?_append_right (by omega)] at hi hj
        have := hr _ _ hi
        have := hr _ _ hj
        omega
    · by_cases h1 : k9 < W1.length
      · rw [List.getElem?_append_left h1] at hx
        exact hD1.2 k9 x hx
      · rw [List.getElem?_append_right (by omega)] at hx
        have := hr _ _ hx
        exact hA _ (by have := hS.1; omega)
  have hAr : ArrOfT s cA (.array ty) := fun N9 z9 => by
    obtain ⟨-, k9, hk9, cm9, hkk9⟩ := (hO 0 0 0).1
    exact ⟨(fun q hq => by cases hq), k9, hk9, cm9, hkk9⟩
  have hK2 : va_K D cl (tys ++ [(cA, .array ty)]) s := ⟨hK.1, fun k9 x hx => by
    by_cases hl : k9 < tys.length
    · rw [List.getElem?_append_left hl] at hx
      exact hK.2 k9 x hx
    · rw [List.getElem?_append_right (by omega)] at hx
      have h0 : k9 - tys.length < 1 := (List.getElem?_eq_some_iff.mp hx).1
      rw [show k9 - tys.length = 0 by omega] at hx
      cases hx
      exact ⟨hAr, fA⟩⟩
  obtain ⟨t, a1, b1⟩ := kk H.size (fun i => H.size + 1 + i) cA F.heap (fun i j _ _ h => by have h9 : H.size + 1 + i = H.size + 1 + j := h; omega) hnl hK2 (by rw [← vr_rows hnm]; exact vr_lay hP2) (by rw [← vr_rows hnm]; exact vr_layD hD2) ⟨by rw [f1]; have := hS.1; omega, fun x h1 h2 => (hold x (Nat.lt_of_lt_of_le h1 hS.1)).trans (hS.2.1 x h1 h2), hS.2.2⟩ F rfl X'
  refine ⟨t, step t ?_, b1⟩
  have e : T.heap.size = H.size := by rw [hT]
  rw [e]
  exact a1
end VGM
/-! ===== END ===== -/

/-! ===== BEGIN exceptions that leave a method, and their catching by the caller (launches without stack traces) ===== -/
section VXA
/-! The laws vx_back, vx_callV, vx_callS, vx_callSW, vx_throw0, vx_throwS follow proofs of the library, with one case more: JvmDerived/Free/Laws.lean (Back.of_free), Shelf42/LK1.lean (callV, callS), Shelf/KitTraced.lean (throwNew0V, throwNewS). -/
/-- where a method has thrown q: the class by its name, the cell, what was written, the world -/
def vx_T (XC : String → State → State → Prop) (st : State) (q : Addr) (t : State) (mc ms : Nat) (free : Addr → Prop) : Prop :=
  ∃ (E : String) (ce : Cell) (L : List Loc), XC E st t ∧ t.heap[q]? = some ce ∧ ce.vm = .none ∧ st.vm.findClass E = some ce.cls ∧ st.WarmedH t.vm ∧ st.sameButNew ({ t with vm := st.vm } : State) L mc ms ∧ ∀ z ∈ L, free z.base
def vx_Q (Qc : Array Value → State → Outcome → State → Prop) (XC : String → State → State → Prop) (mc ms : Nat) (free : Addr → Prop) : Array Value → State → Outcome → State → Prop := fun a st o t =>
  (Qc a st o t ∧ ∃ L, FrameEnd st o t L mc ms ∧ ∀ q ∈ L, free q.base) ∨ ∃ q, o = .threw q ∧ vx_T XC st q t mc ms free
/-- a callee that returns or throws -/
def vx_Met (l : Launch) (y : MethodName) (ws : List Cond) (rm : Room) (Pc : Array Value → State → Prop) (Qc : Array Value → State → Outcome → State → Prop) (XC : String → State → State → Prop) (mc ms : Nat) (free : Addr → Prop) : Prop :=
  MetFree l y (headSpec ws rm) Pc (fun _ _ _ _ _ => True) (vx_Q Qc XC mc ms free)
def vx_Post (XC : String → State → State → Prop) (mc ms : Nat) (free : Addr → Prop) : Pt → Array Value → Addr → Pt → Prop := fun A a q B =>
  ∃ (g : JFrame) (mk : MethodId) (t : State) (L : List Loc) (E : String) (ce : Cell), B.U.heap = t.heap ∧ B.U.vm = t.vm ∧ XC E (A.U.calling g mk a) t ∧ t.heap[q]? = some ce ∧ ce.vm = .none ∧ A.U.vm.findClass E = some ce.cls ∧ B.locs = A.locs ++ L ∧ (∀ z ∈ L, free z.base) ∧ B.cells = A.cells + mc ∧ B.slots = A.slots + ms
def vx_Back (l : Launch) (R : Room) (p : Program) (e : Env) (below : List Frame) (s : State) (sargs : Array Value) (y : MethodName) (len W9 : Nat)
    (Pre : Pt → Array Value → Prop) (Post : Pt → Array Value → Option Value → Pt → Prop) (PostX : Pt → Array Value → Addr → Pt → Prop) : Prop :=
  ∀ (m : MethodId) (meth : Method) (c : Code) (A : Pt) (g : JFrame) (ig : Instr) (mk : MethodId) (a : Array Value),
    Stand p l e R s m sargs below meth c A.U A.locs A.cells A.slots → g.method = m → g.locals.size = c.maxLocals → decode c.code g.pc = .ok (ig, len) →
    2 * g.monitorRoom + (g.stack.map fun v => v.category).sum ≤ W9 → A.U.methodNamed? y = some mk → Pre A a →
    (∃ (v : Option Value) (B : Pt), Stand p l e R s m sargs below meth c B.U B.locs B.cells B.slots ∧ Post A a v B ∧
      Steps p.tables e below (doInvoke e (A.U.setTop g) [] mk a).1 (B.U.setTop { g with pc := g.pc + len, stack := v.toList ++ g.stack })) ∨
    (∃ (q : Addr) (B : Pt), Stand p l e R s m sargs below meth c B.U B.locs B.cells B.slots ∧ PostX A a q B ∧
      Steps p.tables e below (doInvoke e (A.U.setTop g) [] mk a).1 ((B.U.setTop g).pushFrame (.throwing q)))
section Payer
variable {l : Launch} {R : Room} {p : Program} {e : Env} {below : List Frame} {s : State} {sargs : Array Value} {y : MethodName} {len W9 : Nat}
theorem vx_back {ws : List Cond} {rm : Room} {Pc : Array Value → State → Prop} {Qc : Array Value → State → Outcome → State → Prop} {XC : String → State → State → Prop} {mc ms : Nat} {free : Addr → Prop} {bytes : ByteArray} {maxL : Nat} {ret : Option FieldType}
    (hM : vx_Met l y ws rm Pc Qc XC mc ms free) (hblind : FrameBlind Pc) (hrc : rm.cells = mc) (hrs : rm.slots = ms)
    (hframes : rm.frames + 1 ≤ R.frames) (hlocals : W9 + (maxL + 11) + rm.locals ≤ R.locals)
    (hws : ∀ w ∈ ws, ∀ a' U, s.WarmedH U.vm → w.before a' U = true) (hcode : Cond.code y bytes maxL ret ∈ ws) (hinit : ∀ a' U, s.WarmedH U.vm → (Cond.initialized y.cls).before a' U = true) :
    vx_Back l R p e below s sargs y len W9 (PreOf R mc ms Pc) (PostOf Qc mc ms free) (vx_Post XC mc ms free) := by
  intro m meth c A g ig mk a X hg hsize hdg hW hn hp
  have h1 : (headSpec ws rm).pre.before a A.U = true := atoms_intro fun w hw => hws w hw _ _ X.warmed
  have h2 : (Cond.code y bytes maxL ret).before a A.U = true := hws _ hcode _ _ X.warmed
  have h3 : (Cond.initialized y.cls).before a A.U = true := hinit _ _ X.warmed
  have h4 : A.cells + (headSpec ws rm).room.cells ≤ R.cells := by rw [show (headSpec ws rm).room.cells = mc from hrc]; exact hp.1
  have h5 : A.slots + (headSpec ws rm).room.slots ≤ R.slots := by rw [show (headSpec ws rm).room.slots = ms from hrs]; exact hp.2.1
  have hPc : Pc a (A.U.calling g mk a) := hblind _ _ _ _ hp.2.2
  obtain ⟨U, Ls, c0, s0⟩ := A
  dsimp only [Pt.U, Pt.locs, Pt.cells, Pt.slots] at h1 h2 h3 h4 h5 X hn hPc ⊢
  obtain ⟨methY, cY, hmY, hcY, -, hlY, -, -, -, -⟩ := Cond.code_spec hn h2
  obtain ⟨kY, hkY, -⟩ := className_of_methodNamed hn
  have hinitY : kY.init = .initialized := Cond.initialized_spec (findClass_of_methodNamed hn) hkY h3
  have h : At U g.method c below := by rw [hg]; exact X.here
  have hlocals9 : W9 + (maxL + 11) + (headSpec ws rm).room.locals ≤ R.locals := hlocals
  have happ : (headSpec ws rm).appliesLoose y e.platform (U.calling g mk a) = true :=
    Spec.appliesLoose_calling (g := g) h hdg hn hkY hinitY
      (X.room_calling (g := g) (R' := (headSpec ws rm).room) hsize hmY hcY hframes (by rw [hlY]; omega) h4 h5) h1
  obtain ⟨mid, hmid⟩ := h.above
  have hfr : (U.setTop g).frames = (.java g :: mid) ++ below := by rw [State.frames_setTop' g h.top, hmid]; rfl
  obtain ⟨o, s₂, hsteps, -, hend, hq⟩ := Steps.callFree hM p X.admits X.cas X.clock (acts := []) hfr happ hPc trivial
  have hq' : vx_Q Qc XC mc ms free a (U.calling g mk a) o s₂ := hq
  rw [State.frames_setTop' g h.top] at hend
  obtain ⟨g₀, hg0⟩ := Option.isSome_iff_exists.mp h.top
  obtain ⟨r, hr⟩ := State.topJava?_eq_some.mp hg0
  have hr' : (({ U with heap := s₂.heap, slotsUsed := s₂.slotsUsed } : State).setVm s₂.vm).frames = .java g₀ :: r := hr
  rcases hq' with ⟨hqc, L, hfe, hL⟩ | ⟨q, rfl, E, ce, L, hx, hce, hcv, hcl, hW₂, hsm, hL⟩
  · obtain ⟨⟨v, rfl⟩, hW₂, e2, q2, q3, q4, q5, q6⟩ := id hfe
    have e3 : s₂ = ({ (U.calling g mk a).setFrames s₂.frames with heap := s₂.heap, slotsUsed := s₂.slotsUsed } : State).setVm s₂.vm := by
      have : s₂ = ({ s₂ with vm := (U.calling g mk a).vm } : State).setVm s₂.vm := rfl
      rw [e2] at this
      exact this
    obtain ⟨c₂, i₂, len₂, hc₂, hd₂, hf₂⟩ := hend
    have hW' : U.WarmedH s₂.vm := hW₂
    have hcc : c₂ = c := by
      have h1 : s₂.code? g.method = U.code? g.method := by
        rw [State.code?_eq, State.code?_eq, hW'.alike.method?]
      exact Option.some.inj (hc₂.symm.trans (h1.trans h.code))
    subst hcc
    have hlen : len₂ = len := by rw [hdg] at hd₂; cases hd₂; rfl
    subst hlen
    have hs₂ : s₂ = (({ U with heap := s₂.heap, slotsUsed := s₂.slotsUsed } : State).setVm s₂.vm).setTop { g with pc := g.pc + len₂, stack := v.toList ++ g.stack } := by
      refine e3.trans ?_
      rw [hf₂, State.calling_eq h.top, State.setFrames_setFrames, State.setTop_of_frames _ hr', hr]
      rfl
    have hsame : U.sameButNew ({ U with heap := s₂.heap, slotsUsed := s₂.slotsUsed } : State) L mc ms := by
      refine ⟨?_, q2, q3, q4, q5, q6⟩
      obtain ⟨t, ht, -⟩ := State.frames_cons hr
      show ({ U with heap := s₂.heap, slotsUsed := s₂.slotsUsed } : State) = { U.setFrames U.frames with heap := s₂.heap, slotsUsed := s₂.slotsUsed }
      rw [State.setFrames_self ht]
    subst hg
    refine Or.inl ⟨v, ⟨(({ U with heap := s₂.heap, slotsUsed := s₂.slotsUsed } : State).setVm s₂.vm), Ls ++ L, c0 + mc, s0 + ms⟩,
      ⟨X.admits, X.cas, X.clock, X.frames, X.room, X.hears, X.method, X.code, (X.here.setHeapUsed s₂.heap s₂.slotsUsed).setVm hW'.alike, X.tail, State.WarmedH.trans X.warmed hW', X.limits, X.bytes, X.same.trans (hsame.setVm s.vm)⟩,
      ⟨g, mk, s₂, L, rfl, rfl, hqc, rfl, hL, rfl, rfl⟩, ?_⟩
    show Steps p.tables e below _ ((({ U with heap := s₂.heap, slotsUsed := s₂.slotsUsed } : State).setVm s₂.vm).setTop { g with pc := g.pc + len₂, stack := v.toList ++ g.stack })
    rw [← hs₂]
    exact hsteps
  · obtain ⟨e2, q2, q3, q4, q5, q6⟩ := id hsm
    have e3 : s₂ = ({ (U.calling g mk a).setFrames s₂.frames with heap := s₂.heap, slotsUsed := s₂.slotsUsed } : State).setVm s₂.vm := by
      have : s₂ = ({ s₂ with vm := (U.calling g mk a).vm } : State).setVm s₂.vm := rfl
      rw [e2] at this
      exact this
    have hf₂ : s₂.frames = .throwing q :: .java g :: U.frames.tail := hend
    have hW' : U.WarmedH s₂.vm := hW₂
    have hs₂ : s₂ = ((({ U with heap := s₂.heap, slotsUsed := s₂.slotsUsed } : State).setVm s₂.vm).setTop g).pushFrame (.throwing q) := by
      refine e3.trans ?_
      rw [hf₂, State.calling_eq h.top, State.setFrames_setFrames, State.pushFrame, State.frames_setTop _ hr', State.setTop_of_frames _ hr', State.setFrames_setFrames, hr]
      rfl
    have hsame : U.sameButNew ({ U with heap := s₂.heap, slotsUsed := s₂.slotsUsed } : State) L mc ms := by
      refine ⟨?_, q2, q3, q4, q5, q6⟩
      obtain ⟨t, ht, -⟩ := State.frames_cons hr
      show ({ U with heap := s₂.heap, slotsUsed := s₂.slotsUsed } : State) = { U.setFrames U.frames with heap := s₂.heap, slotsUsed := s₂.slotsUsed }
      rw [State.setFrames_self ht]
    subst hg
    refine Or.inr ⟨q, ⟨(({ U with heap := s₂.heap, slotsUsed := s₂.slotsUsed } : State).setVm s₂.vm), Ls ++ L, c0 + mc, s0 + ms⟩,
      ⟨X.admits, X.cas, X.clock, X.frames, X.room, X.hears, X.method, X.code, (X.here.setHeapUsed s₂.heap s₂.slotsUsed).setVm hW'.alike, X.tail, State.WarmedH.trans X.warmed hW', X.limits, X.bytes, X.same.trans (hsame.setVm s.vm)⟩,
      ⟨g, mk, s₂, L, E, ce, rfl, rfl, hx, hce, hcv, hcl, rfl, hL, rfl, rfl⟩, ?_⟩
    show Steps p.tables e below _ (((({ U with heap := s₂.heap, slotsUsed := s₂.slotsUsed } : State).setVm s₂.vm).setTop g).pushFrame (.throwing q))
    rw [← hs₂]
    exact hsteps
end Payer
section Calls
variable {p : Program} {l : Launch} {e : Env} {R : Room} {s : State} {m : MethodId} {args : Array Value} {below : List Frame} {meth : Method} {c : Code} {T : State} {locs : List Loc} {cells slots : Nat}
theorem vx_callV (X : Stand p l e R s m args below meth c T locs cells slots) (hexec : p.tables.exec = Jvm.exec) {own C : String} {index : Nat} {y : MethodName} {bytes : ByteArray} {maxL : Nat} {ret : Option FieldType}
    (hown : s.vm.findClass own = some m.cls) (hlink : (Cond.methodLink own index y).before args s = true) (hinst : (Cond.instanceMethod y).before args s = true) (hsel : (Cond.selects C y y).before args s = true)
    (hcode : (Cond.code y bytes maxL ret).before args s = true) (hy : y.cls ≠ "java/lang/invoke/MethodHandle" ∧ y.cls ≠ "java/lang/invoke/VarHandle")
    {W9 : Nat} {Pre : Pt → Array Value → Prop} {Post : Pt → Array Value → Option Value → Pt → Prop} {PostX : Pt → Array Value → Addr → Pt → Prop} (hK : vx_Back l R p e below s args y 3 W9 Pre Post PostX)
    {b : Addr} {cellB : Cell} (hcell : T.heap[b]? = some cellB) (hobj : cellB.vm.isStatics = false) (hcls : s.vm.findClass C = some cellB.cls)
    {g : JFrame} (hg : g.method = m) (hsize : g.locals.size = c.maxLocals) {argsL rest : List Value} (hlen : ∀ sig, parseMethodDescriptor y.desc = some sig → argsL.length = sig.parameters.length)
    (hstack : g.stack = argsL.reverse ++ .ref b :: rest) (hW : 2 * g.monitorRoom + (rest.map fun v => v.category).sum ≤ W9) (hdg : decode c.code g.pc = .ok (.invokevirtual index, 3))
    (hpre : ∀ vm₁, s.WarmedH vm₁ → Pre ⟨T.setVm vm₁, locs, cells, slots⟩ (Value.ref b :: argsL).toArray) :
    (∃ (v : Option Value) (vm₁ : Vm) (B : Pt), s.WarmedH vm₁ ∧ Stand p l e R s m args below meth c B.U B.locs B.cells B.slots ∧ Post ⟨T.setVm vm₁, locs, cells, slots⟩ (Value.ref b :: argsL).toArray v B ∧
      ∀ target, Steps p.tables e below (B.U.setTop { g with pc := g.pc + 3, stack := v.toList ++ rest }) target → Steps p.tables e below (T.setTop g) target) ∨
    (∃ (q : Addr) (vm₁ : Vm) (B : Pt), s.WarmedH vm₁ ∧ Stand p l e R s m args below meth c B.U B.locs B.cells B.slots ∧ PostX ⟨T.setVm vm₁, locs, cells, slots⟩ (Value.ref b :: argsL).toArray q B ∧
      Steps p.tables e below (T.setTop g) ((B.U.setTop { g with stack := rest }).pushFrame (.throwing q))) := by
  obtain ⟨mk, methM, hnamed, hmethM, hstM, habM⟩ := Cond.instanceMethod_spec hinst
  obtain ⟨methM', cM, hmethM', -, -, -, -, -, -, hsigM⟩ := Cond.code_spec hnamed hcode
  cases hmethM.symm.trans hmethM'
  obtain ⟨c2, r2, m2, q1, q2, q3, q4, kP, hkP, hkPi⟩ := Cond.selects_spec hsel
  cases hcls.symm.trans q1
  cases (State.methodFound?_of_named hnamed hy).symm.trans q2
  cases hnamed.symm.trans q3
  have hselP : selectMethod e.platform s.vm cellB.cls mk = .method mk := by rw [Launch.admits_selectMethod X.admits]; exact q4
  obtain ⟨vm₁, X₁, hstep₁⟩ := X.invokevirtual hexec hown hlink hnamed hmethM hstM hkP hkPi hy (a := b) (cell := cellB) hcell
    (fun z h => by rw [h] at hobj; cases hobj) hselP hmethM habM hkP hkPi (g := g) hg (argsL := argsL) (rest := rest) (hlen _ hsigM) hstack hdg
  rcases hK m meth c ⟨T.setVm vm₁, locs, cells, slots⟩ { g with stack := rest } (.invokevirtual index) mk (Value.ref b :: argsL).toArray X₁ hg hsize hdg hW (X₁.named hnamed) (hpre vm₁ X₁.warmed) with ⟨v, B, X', hpost, hsteps⟩ | ⟨q, B, X', hpost, hsteps⟩
  · exact Or.inl ⟨v, vm₁, B, X₁.warmed, X', hpost, fun target h => hstep₁ _ fun acts => by rw [doInvoke_state]; exact hsteps.trans h⟩
  · exact Or.inr ⟨q, vm₁, B, X₁.warmed, X', hpost, hstep₁ _ fun acts => by rw [doInvoke_state]; exact hsteps⟩
theorem vx_callS (X : Stand p l e R s m args below meth c T locs cells slots) (hexec : p.tables.exec = Jvm.exec) {own : String} {index : Nat} {y : MethodName} {bytes : ByteArray} {maxL : Nat} {ret : Option FieldType}
    (hown : s.vm.findClass own = some m.cls) (hlink : (Cond.methodLink own index y).before args s = true) (hstat : (Cond.static y).before args s = true) (hinit : (Cond.initialized y.cls).before args s = true)
    (hcode : (Cond.code y bytes maxL ret).before args s = true) (hy : y.cls ≠ "java/lang/invoke/MethodHandle" ∧ y.cls ≠ "java/lang/invoke/VarHandle")
    {W9 : Nat} {Pre : Pt → Array Value → Prop} {Post : Pt → Array Value → Option Value → Pt → Prop} {PostX : Pt → Array Value → Addr → Pt → Prop} (hK : vx_Back l R p e below s args y 3 W9 Pre Post PostX)
    {g : JFrame} (hg : g.method = m) (hsize : g.locals.size = c.maxLocals) {argsL rest : List Value} (hlen : ∀ sig, parseMethodDescriptor y.desc = some sig → argsL.length = sig.parameters.length)
    (hstack : g.stack = argsL.reverse ++ rest) (hW : 2 * g.monitorRoom + (rest.map fun v => v.category).sum ≤ W9) (hdg : decode c.code g.pc = .ok (.invokestatic index, 3))
    (hpre : ∀ vm₁, s.WarmedH vm₁ → Pre ⟨T.setVm vm₁, locs, cells, slots⟩ argsL.toArray) :
    (∃ (v : Option Value) (vm₁ : Vm) (B : Pt), s.WarmedH vm₁ ∧ Stand p l e R s m args below meth c B.U B.locs B.cells B.slots ∧ Post ⟨T.setVm vm₁, locs, cells, slots⟩ argsL.toArray v B ∧
      ∀ target, Steps p.tables e below (B.U.setTop { g with pc := g.pc + 3, stack := v.toList ++ rest }) target → Steps p.tables e below (T.setTop g) target) ∨
    (∃ (q : Addr) (vm₁ : Vm) (B : Pt), s.WarmedH vm₁ ∧ Stand p l e R s m args below meth c B.U B.locs B.cells B.slots ∧ PostX ⟨T.setVm vm₁, locs, cells, slots⟩ argsL.toArray q B ∧
      Steps p.tables e below (T.setTop g) ((B.U.setTop { g with stack := rest }).pushFrame (.throwing q))) := by
  obtain ⟨mk, hnamed⟩ := Cond.code_named hcode
  obtain ⟨methM, cM, hmethM, -, -, -, -, -, -, hsigM⟩ := Cond.code_spec hnamed hcode
  have hstatic : methM.isStatic = true := Cond.static_spec hnamed hmethM hstat
  obtain ⟨kP, hkP, -⟩ := className_of_methodNamed hnamed
  have hinitP : kP.init = .initialized := Cond.initialized_spec (findClass_of_methodNamed hnamed) hkP hinit
  obtain ⟨vm₁, X₁, hstep₁⟩ := X.invokestatic hexec hown hlink hnamed hmethM hstatic hkP hinitP hy (g := g) hg (argsL := argsL) (rest := rest) (hlen _ hsigM) hstack hdg
  rcases hK m meth c ⟨T.setVm vm₁, locs, cells, slots⟩ { g with stack := rest } (.invokestatic index) mk argsL.toArray X₁ hg hsize hdg hW (X₁.named hnamed) (hpre vm₁ X₁.warmed) with ⟨v, B, X', hpost, hsteps⟩ | ⟨q, B, X', hpost, hsteps⟩
  · exact Or.inl ⟨v, vm₁, B, X₁.warmed, X', hpost, fun target h => hstep₁ _ fun acts => by rw [doInvoke_state]; exact hsteps.trans h⟩
  · exact Or.inr ⟨q, vm₁, B, X₁.warmed, X', hpost, hstep₁ _ fun acts => by rw [doInvoke_state]; exact hsteps⟩
end Calls
theorem vx_cls {s : State} {T : State} {vm₁ : Vm} {E : String} {k : ClassId} (hW : s.WarmedH vm₁) (h : (T.setVm vm₁).vm.findClass E = some k) : s.vm.findClass E = some k := by
  have h1 : vm₁.findClass E = some k := h
  rw [hW.alike.findClass] at h1
  exact h1
/-- the method's frame g, with q thrown over it -/
def vx_W (p : Program) (l : Launch) (e : Env) (R : Room) (s : State) (m : MethodId) (args : Array Value) (below : List Frame) (meth : Method) (c : Code) (H : Heap) (locs : List Loc) (cells slots : Nat) (Q : State → Prop) (g : JFrame) (q : Addr) : Prop :=
  ∀ T : State, T.heap = H → Stand p l e R s m args below meth c T locs cells slots → ∃ t, Steps p.tables e below ((T.setTop g).pushFrame (.throwing q)) t ∧ Q t
def vx_Run (p : Program) (l : Launch) (e : Env) (R : Room) (s : State) (m : MethodId) (args : Array Value) (below : List Frame) (meth : Method) (c : Code) (H : Heap) (locs : List Loc) (cells slots mc ms : Nat) (g : JFrame) (rest : List Value) (Qa : State → Outcome → State → Prop) (XC : String → State → State → Prop) (free : Addr → Prop) : Prop :=
  ∀ T : State, T.heap = H → Stand p l e R s m args below meth c T locs cells slots →
    (∃ (v : Option Value) (st₀ t T' : State) (L : List Loc), st₀.heap = H ∧ Stand p l e R s m args below meth c T' (locs ++ L) (cells + mc) (slots + ms) ∧ (∀ q ∈ L, free q.base) ∧ T'.heap = t.heap ∧ T'.vm = t.vm ∧ Qa st₀ (.returned v) t ∧
      Goes p e below T g T' { g with pc := g.pc + 3, stack := v.toList ++ rest }) ∨
    (∃ (q : Addr) (st₀ t T' : State) (L : List Loc) (E : String) (ce : Cell), st₀.heap = H ∧ Stand p l e R s m args below meth c T' (locs ++ L) (cells + mc) (slots + ms) ∧ (∀ z ∈ L, free z.base) ∧ T'.heap = t.heap ∧ T'.vm = t.vm ∧ XC E st₀ t ∧ t.heap[q]? = some ce ∧ ce.vm = .none ∧ s.vm.findClass E = some ce.cls ∧
      Steps p.tables e below (T.setTop g) ((T'.setTop { g with stack := rest }).pushFrame (.throwing q)))
def vx_X {S : Type} (px : S → Prop) (B : String → S → State → Prop) (A : Nat → Prop) : String → State → State → Prop := fun E st t => ∃ u : S, px u ∧ B E u t ∧ va_F A st t
section Runs
variable {p : Program} {l : Launch} {e : Env} {R : Room} {s : State} {m : MethodId} {args : Array Value} {below : List Frame} {meth : Method} {c : Code} {H : Heap} {locs : List Loc} {cells slots : Nat}
variable {y : MethodName} {bytes cc : ByteArray} {maxL nL mc ms n index : Nat} {ret : Option FieldType} {ws : List Cond} {rm : Room} {Pc : Array Value → State → Prop} {Qc : Array Value → State → Outcome → State → Prop} {XC : String → State → State → Prop} {free : Addr → Prop} {Ts : List Cond} {own C : String} {b : Addr} {As rest : List Value} {g : JFrame}
theorem vx_callBack (cb : CallB R s args own index y bytes maxL ret ws rm mc ms n) (hM : vx_Met l y ws rm Pc Qc XC mc ms free) (hbl : FrameBlind Pc) : vx_Back l R p e below s args y 3 8 (PreOf R mc ms Pc) (PostOf Qc mc ms free) (vx_Post XC mc ms free) := by
  obtain ⟨hrc, hrs, hfr, hlo, hws, hcw, -, hini, -⟩ := cb
  exact vx_back (bytes := bytes) (maxL := maxL) (ret := ret) hM hbl hrc hrs hfr hlo hws hcw (fun a' U hW => word_at hW (Or.inl (by first | rfl | simp [Cond.onTables, Cond.keeps, Cond.steady])) hini)
theorem vx_runV (S : CallFix p m c cc nL s args Ts own) (hM : vx_Met l y ws rm Pc Qc XC mc ms free) (cw : CallW R s args own C index y bytes maxL ret ws rm mc ms n) (hp : PreV s H C b Pc As)
    (hg : g.method = m) (hn : As.length = n) (hsize : g.locals.size = nL) (hstack : g.stack = As.reverse ++ .ref b :: rest) (hW : 2 * g.monitorRoom + (rest.map fun v => v.category).sum ≤ 8) (hdg : decode cc g.pc = .ok (.invokevirtual index, 3)) (hf : cells + mc ≤ R.cells ∧ slots + ms ≤ R.slots) :
    vx_Run p l e R s m args below meth c H locs cells slots mc ms g rest (Qc (Value.ref b :: As).toArray) XC free := by
  have hK : vx_Back l R p e below s args y 3 8 (PreOf R mc ms Pc) (PostOf Qc mc ms free) (vx_Post XC mc ms free) := vx_callBack cw.1 hM hp.1
  obtain ⟨⟨-, -, -, -, -, -, hcode, -, hy, hlen, hl⟩, hin, hse⟩ := cw
  obtain ⟨hx, hb, hml, ho, -⟩ := S
  obtain ⟨-, ⟨cellB, hcB, hoB, hclB⟩, hPc⟩ := hp
  intro T hT X
  rcases vx_callV X hx (C := C) (bytes := bytes) (maxL := maxL) (ret := ret) ho hl hin hse hcode hy hK (by rw [hT]; exact hcB) hoB hclB hg (hsize.trans hml.symm) (argsL := As) (rest := rest) (fun sig h => hn.trans (hlen sig h)) hstack hW (by rw [hb]; exact hdg)
    (fun vm₁ hW₁ => ⟨hf.1, hf.2, hPc (T.setVm vm₁) hT hW₁⟩) with ⟨v, vm₁, ⟨U', l2, c2, s2⟩, hW₁, X', ⟨g', mk, t, L, e1, e2, hq, h1, hL, h2, h3⟩, st⟩ | ⟨q, vm₁, ⟨U', l2, c2, s2⟩, hW₁, X', ⟨g', mk, t, L, E, ce, e1, e2, hq, hce, hcv, hcl, h1, hL, h2, h3⟩, st⟩
  · dsimp only [Pt.U, Pt.locs, Pt.cells, Pt.slots] at X' e1 e2 h1 h2 h3 st
    subst h1; subst h2; subst h3
    exact Or.inl ⟨v, (T.setVm vm₁).calling g' mk (Value.ref b :: As).toArray, t, U', L, hT, X', hL, e1, e2, hq, st⟩
  · dsimp only [Pt.U, Pt.locs, Pt.cells, Pt.slots] at X' e1 e2 h1 h2 h3 st hcl
    subst h1; subst h2; subst h3
    exact Or.inr ⟨q, (T.setVm vm₁).calling g' mk (Value.ref b :: As).toArray, t, U', L, E, ce, hT, X', hL, e1, e2, hq, hce, hcv, vx_cls hW₁ hcl, st⟩
theorem vx_runS (S : CallFix p m c cc nL s args Ts own) (hM : vx_Met l y ws rm Pc Qc XC mc ms free) (cw : CallB R s args own index y bytes maxL ret ws rm mc ms n ∧ (Cond.static y).before args s = true) (hp : PreS s H Pc As)
    (hg : g.method = m) (hn : As.length = n) (hsize : g.locals.size = nL) (hstack : g.stack = As.reverse ++ rest) (hW : 2 * g.monitorRoom + (rest.map fun v => v.category).sum ≤ 8) (hdg : decode cc g.pc = .ok (.invokestatic index, 3)) (hf : cells + mc ≤ R.cells ∧ slots + ms ≤ R.slots) :
    vx_Run p l e R s m args below meth c H locs cells slots mc ms g rest (Qc As.toArray) XC free := by
  have hK : vx_Back l R p e below s args y 3 8 (PreOf R mc ms Pc) (PostOf Qc mc ms free) (vx_Post XC mc ms free) := vx_callBack cw.1 hM hp.1
  obtain ⟨⟨-, -, -, -, -, -, hcode, hini, hy, hlen, hl⟩, hstt⟩ := cw
  obtain ⟨hx, hb, hml, ho, -⟩ := S
  intro T hT X
  rcases vx_callS X hx (bytes := bytes) (maxL := maxL) (ret := ret) ho hl hstt hini hcode hy hK hg (hsize.trans hml.symm) (argsL := As) (rest := rest) (fun sig h => hn.trans (hlen sig h)) hstack hW (by rw [hb]; exact hdg)
    (fun vm₁ hW₁ => ⟨hf.1, hf.2, hp.2 (T.setVm vm₁) hT hW₁⟩) with ⟨v, vm₁, ⟨U', l2, c2, s2⟩, hW₁, X', ⟨g', mk, t, L, e1, e2, hq, h1, hL, h2, h3⟩, st⟩ | ⟨q, vm₁, ⟨U', l2, c2, s2⟩, hW₁, X', ⟨g', mk, t, L, E, ce, e1, e2, hq, hce, hcv, hcl, h1, hL, h2, h3⟩, st⟩
  · dsimp only [Pt.U, Pt.locs, Pt.cells, Pt.slots] at X' e1 e2 h1 h2 h3 st
    subst h1; subst h2; subst h3
    exact Or.inl ⟨v, (T.setVm vm₁).calling g' mk As.toArray, t, U', L, hT, X', hL, e1, e2, hq, st⟩
  · dsimp only [Pt.U, Pt.locs, Pt.cells, Pt.slots] at X' e1 e2 h1 h2 h3 st hcl
    subst h1; subst h2; subst h3
    exact Or.inr ⟨q, (T.setVm vm₁).calling g' mk As.toArray, t, U', L, E, ce, hT, X', hL, e1, e2, hq, hce, hcv, vx_cls hW₁ hcl, st⟩
end Runs
section Rows
variable {p : Program} {l : Launch} {e : Env} {R : Room} {s : State} {m : MethodId} {args : Array Value} {below : List Frame} {meth : Method} {c : Code} {H : Heap} {locs : List Loc} {cells slots : Nat} {Q : State → Prop}
variable {mc ms : Nat} {free : Addr → Prop} {A0 A1 : Nat → Prop} {H0 : Heap} {a : Array Value} {pc : Nat} {ls : Array Slot} {st0 rest : List Value}
theorem vx_keep {st₀ t T' : State} {L : List Loc} (h0 : st₀.heap = H) (e1 : T'.heap = t.heap) (hS : va_S A0 H0 H locs) (hA : ∀ q, q < H.size → A1 q → A0 q) (hf : ∀ q, free q → A0 q) (hL : ∀ q ∈ L, free q.base) (hF : va_F A1 st₀ t) :
    H.size ≤ T'.heap.size ∧ (∀ q : Nat, q < H.size → ¬ A1 q → T'.heap[q]? = H[q]?) ∧ va_S A0 H0 T'.heap (locs ++ L) := by
  obtain ⟨hz, hk⟩ := hF
  rw [h0] at hz hk
  exact ⟨by rw [e1]; exact hz, fun q h1 h2 => by rw [e1]; exact hk q h1 h2,
    ⟨Nat.le_trans hS.1 (by rw [e1]; exact hz), fun q h1 h2 => by rw [e1, hk q (Nat.lt_of_lt_of_le h1 hS.1) (fun z => h2 (hA q (Nat.lt_of_lt_of_le h1 hS.1) z))]; exact hS.2.1 q h1 h2, fun q hq => by
      rcases List.mem_append.mp hq with h | h
      · exact hS.2.2 q h
      · exact hf _ (hL q h)⟩⟩
theorem vx_calli {S SX : Type} {post : Int32 → S → Prop} {px : SX → Prop} {B : S → State → Prop} {BX : String → SX → State → Prop} {AX : Nat → Prop} (hr : vx_Run p l e R s m args below meth c H locs cells slots mc ms (F0 m pc ls st0) rest (va_Qi post B A1 a) (vx_X px BX AX) free) (hS : va_S A0 H0 H locs) (hA : ∀ q, q < H.size → A1 q → A0 q) (hf : ∀ q, free q → A0 q) (hAX : ∀ q, q < H.size → AX q → A0 q)
    (kx : ∀ (E : String) (ce : Cell) (q9 : Addr) (u : SX) (t : State) (H1 : Heap) (locs1 : List Loc), t.heap = H1 → s.vm.Alike t.vm → px u → BX E u t → H.size ≤ H1.size → (∀ q : Nat, q < H.size → ¬ AX q → H1[q]? = H[q]?) → va_S A0 H0 H1 locs1 → H1[q9]? = some ce → ce.vm = .none → s.vm.findClass E = some ce.cls → vx_W p l e R s m args below meth c H1 locs1 (cells + mc) (slots + ms) Q (F0 m pc ls rest) q9)
    (kk : ∀ (r : Int32) (u : S) (t : State) (H1 : Heap) (locs1 : List Loc), t.heap = H1 → s.vm.Alike t.vm → post r u → B u t → H.size ≤ H1.size → (∀ q : Nat, q < H.size → ¬ A1 q → H1[q]? = H[q]?) → va_S A0 H0 H1 locs1 → W p l e R s m args below meth c H1 locs1 (cells + mc) (slots + ms) Q (F0 m (pc + 3) ls (.int r :: rest))) : W p l e R s m args below meth c H locs cells slots Q (F0 m pc ls st0) := by
  intro T hT X
  rcases hr T hT X with ⟨v, st₀, t, T', L, h0, X', hL, e1, e2, ⟨⟨r, u, hv, hp, hb⟩, hF⟩, st⟩ | ⟨q, st₀, t, T', L, E, ce, h0, X', hL, e1, e2, ⟨u, hp, hb, hF⟩, hce, hcv, hcl, st⟩
  · cases hv
    obtain ⟨k1, k2, k3⟩ := vx_keep h0 e1 hS hA hf hL hF
    obtain ⟨t2, a1, b1⟩ := kk r u t T'.heap (locs ++ L) e1.symm (by rw [← e2]; exact X'.warmed.alike) hp hb k1 k2 k3 T' rfl X'
    exact ⟨t2, st t2 a1, b1⟩
  · obtain ⟨k1, k2, k3⟩ := vx_keep h0 e1 hS hAX hf hL hF
    obtain ⟨t2, a1, b1⟩ := kx E ce q u t T'.heap (locs ++ L) e1.symm (by rw [← e2]; exact X'.warmed.alike) hp hb k1 k2 k3 (by rw [e1]; exact hce) hcv hcl T' rfl X'
    exact ⟨t2, st.trans a1, b1⟩
theorem vx_calll {S SX : Type} {post : Int64 → S → Prop} {px : SX → Prop} {B : S → State → Prop} {BX : String → SX → State → Prop} {AX : Nat → Prop} (hr : vx_Run p l e R s m args below meth c H locs cells slots mc ms (F0 m pc ls st0) rest (va_Ql post B A1 a) (vx_X px BX AX) free) (hS : va_S A0 H0 H locs) (hA : ∀ q, q < H.size → A1 q → A0 q) (hf : ∀ q, free q → A0 q) (hAX : ∀ q, q < H.size → AX q → A0 q)
    (kx : ∀ (E : String) (ce : Cell) (q9 : Addr) (u : SX) (t : State) (H1 : Heap) (locs1 : List Loc), t.heap = H1 → s.vm.Alike t.vm → px u → BX E u t → H.size ≤ H1.size → (∀ q : Nat, q < H.size → ¬ AX q → H1[q]? = H[q]?) → va_S A0 H0 H1 locs1 → H1[q9]? = some ce → ce.vm = .none → s.vm.findClass E = some ce.cls → vx_W p l e R s m args below meth c H1 locs1 (cells + mc) (slots + ms) Q (F0 m pc ls rest) q9)
    (kk : ∀ (r : Int64) (u : S) (t : State) (H1 : Heap) (locs1 : List Loc), t.heap = H1 → s.vm.Alike t.vm → post r u → B u t → H.size ≤ H1.size → (∀ q : Nat, q < H.size → ¬ A1 q → H1[q]? = H[q]?) → va_S A0 H0 H1 locs1 → W p l e R s m args below meth c H1 locs1 (cells + mc) (slots + ms) Q (F0 m (pc + 3) ls (.long r :: rest))) : W p l e R s m args below meth c H locs cells slots Q (F0 m pc ls st0) := by
  intro T hT X
  rcases hr T hT X with ⟨v, st₀, t, T', L, h0, X', hL, e1, e2, ⟨⟨r, u, hv, hp, hb⟩, hF⟩, st⟩ | ⟨q, st₀, t, T', L, E, ce, h0, X', hL, e1, e2, ⟨u, hp, hb, hF⟩, hce, hcv, hcl, st⟩
  · cases hv
    obtain ⟨k1, k2, k3⟩ := vx_keep h0 e1 hS hA hf hL hF
    obtain ⟨t2, a1, b1⟩ := kk r u t T'.heap (locs ++ L) e1.symm (by rw [← e2]; exact X'.warmed.alike) hp hb k1 k2 k3 T' rfl X'
    exact ⟨t2, st t2 a1, b1⟩
  · obtain ⟨k1, k2, k3⟩ := vx_keep h0 e1 hS hAX hf hL hF
    obtain ⟨t2, a1, b1⟩ := kx E ce q u t T'.heap (locs ++ L) e1.symm (by rw [← e2]; exact X'.warmed.alike) hp hb k1 k2 k3 (by rw [e1]; exact hce) hcv hcl T' rfl X'
    exact ⟨t2, st.trans a1, b1⟩
theorem vx_callf {S SX : Type} {post : UInt32 → S → Prop} {px : SX → Prop} {B : S → State → Prop} {BX : String → SX → State → Prop} {AX : Nat → Prop} (hr : vx_Run p l e R s m args below meth c H locs cells slots mc ms (F0 m pc ls st0) rest (va_Qf post B A1 a) (vx_X px BX AX) free) (hS : va_S A0 H0 H locs) (hA : ∀ q, q < H.size → A1 q → A0 q) (hf : ∀ q, free q → A0 q) (hAX : ∀ q, q < H.size → AX q → A0 q)
    (kx : ∀ (E : String) (ce : Cell) (q9 : Addr) (u : SX) (t : State) (H1 : Heap) (locs1 : List Loc), t.heap = H1 → s.vm.Alike t.vm → px u → BX E u t → H.size ≤ H1.size → (∀ q : Nat, q < H.size → ¬ AX q → H1[q]? = H[q]?) → va_S A0 H0 H1 locs1 → H1[q9]? = some ce → ce.vm = .none → s.vm.findClass E = some ce.cls → vx_W p l e R s m args below meth c H1 locs1 (cells + mc) (slots + ms) Q (F0 m pc ls rest) q9)
    (kk : ∀ (r : UInt32) (u : S) (t : State) (H1 : Heap) (locs1 : List Loc), t.heap = H1 → s.vm.Alike t.vm → post r u → B u t → H.size ≤ H1.size → (∀ q : Nat, q < H.size → ¬ A1 q → H1[q]? = H[q]?) → va_S A0 H0 H1 locs1 → W p l e R s m args below meth c H1 locs1 (cells + mc) (slots + ms) Q (F0 m (pc + 3) ls (.float r :: rest))) : W p l e R s m args below meth c H locs cells slots Q (F0 m pc ls st0) := by
  intro T hT X
  rcases hr T hT X with ⟨v, st₀, t, T', L, h0, X', hL, e1, e2, ⟨⟨r, u, hv, hp, hb⟩, hF⟩, st⟩ | ⟨q, st₀, t, T', L, E, ce, h0, X', hL, e1, e2, ⟨u, hp, hb, hF⟩, hce, hcv, hcl, st⟩
  · cases hv
    obtain ⟨k1, k2, k3⟩ := vx_keep h0 e1 hS hA hf hL hF
    obtain ⟨t2, a1, b1⟩ := kk r u t T'.heap (locs ++ L) e1.symm (by rw [← e2]; exact X'.warmed.alike) hp hb k1 k2 k3 T' rfl X'
    exact ⟨t2, st t2 a1, b1⟩
  · obtain ⟨k1, k2, k3⟩ := vx_keep h0 e1 hS hAX hf hL hF
    obtain ⟨t2, a1, b1⟩ := kx E ce q u t T'.heap (locs ++ L) e1.symm (by rw [← e2]; exact X'.warmed.alike) hp hb k1 k2 k3 (by rw [e1]; exact hce) hcv hcl T' rfl X'
    exact ⟨t2, st.trans a1, b1⟩
theorem vx_calld {S SX : Type} {post : UInt64 → S → Prop} {px : SX → Prop} {B : S → State → Prop} {BX : String → SX → State → Prop} {AX : Nat → Prop} (hr : vx_Run p l e R s m args below meth c H locs cells slots mc ms (F0 m pc ls st0) rest (va_Qd post B A1 a) (vx_X px BX AX) free) (hS : va_S A0 H0 H locs) (hA : ∀ q, q < H.size → A1 q → A0 q) (hf : ∀ q, free q → A0 q) (hAX : ∀ q, q < H.size → AX q → A0 q)
    (kx : ∀ (E : String) (ce : Cell) (q9 : Addr) (u : SX) (t : State) (H1 : Heap) (locs1 : List Loc), t.heap = H1 → s.vm.Alike t.vm → px u → BX E u t → H.size ≤ H1.size → (∀ q : Nat, q < H.size → ¬ AX q → H1[q]? = H[q]?) → va_S A0 H0 H1 locs1 → H1[q9]? = some ce → ce.vm = .none → s.vm.findClass E = some ce.cls → vx_W p l e R s m args below meth c H1 locs1 (cells + mc) (slots + ms) Q (F0 m pc ls rest) q9)
    (kk : ∀ (r : UInt64) (u : S) (t : State) (H1 : Heap) (locs1 : List Loc), t.heap = H1 → s.vm.Alike t.vm → post r u → B u t → H.size ≤ H1.size → (∀ q : Nat, q < H.size → ¬ A1 q → H1[q]? = H[q]?) → va_S A0 H0 H1 locs1 → W p l e R s m args below meth c H1 locs1 (cells + mc) (slots + ms) Q (F0 m (pc + 3) ls (.double r :: rest))) : W p l e R s m args below meth c H locs cells slots Q (F0 m pc ls st0) := by
  intro T hT X
  rcases hr T hT X with ⟨v, st₀, t, T', L, h0, X', hL, e1, e2, ⟨⟨r, u, hv, hp, hb⟩, hF⟩, st⟩ | ⟨q, st₀, t, T', L, E, ce, h0, X', hL, e1, e2, ⟨u, hp, hb, hF⟩, hce, hcv, hcl, st⟩
  · cases hv
    obtain ⟨k1, k2, k3⟩ := vx_keep h0 e1 hS hA hf hL hF
    obtain ⟨t2, a1, b1⟩ := kk r u t T'.heap (locs ++ L) e1.symm (by rw [← e2]; exact X'.warmed.alike) hp hb k1 k2 k3 T' rfl X'
    exact ⟨t2, st t2 a1, b1⟩
  · obtain ⟨k1, k2, k3⟩ := vx_keep h0 e1 hS hAX hf hL hF
    obtain ⟨t2, a1, b1⟩ := kx E ce q u t T'.heap (locs ++ L) e1.symm (by rw [← e2]; exact X'.warmed.alike) hp hb k1 k2 k3 (by rw [e1]; exact hce) hcv hcl T' rfl X'
    exact ⟨t2, st.trans a1, b1⟩
theorem vx_callv {S SX : Type} {post : S → Prop} {px : SX → Prop} {B : S → State → Prop} {BX : String → SX → State → Prop} {AX : Nat → Prop} (hr : vx_Run p l e R s m args below meth c H locs cells slots mc ms (F0 m pc ls st0) rest (va_Qv post B A1 a) (vx_X px BX AX) free) (hS : va_S A0 H0 H locs) (hA : ∀ q, q < H.size → A1 q → A0 q) (hf : ∀ q, free q → A0 q) (hAX : ∀ q, q < H.size → AX q → A0 q)
    (kx : ∀ (E : String) (ce : Cell) (q9 : Addr) (u : SX) (t : State) (H1 : Heap) (locs1 : List Loc), t.heap = H1 → s.vm.Alike t.vm → px u → BX E u t → H.size ≤ H1.size → (∀ q : Nat, q < H.size → ¬ AX q → H1[q]? = H[q]?) → va_S A0 H0 H1 locs1 → H1[q9]? = some ce → ce.vm = .none → s.vm.findClass E = some ce.cls → vx_W p l e R s m args below meth c H1 locs1 (cells + mc) (slots + ms) Q (F0 m pc ls rest) q9)
    (kk : ∀ (u : S) (t : State) (H1 : Heap) (locs1 : List Loc), t.heap = H1 → s.vm.Alike t.vm → post u → B u t → H.size ≤ H1.size → (∀ q : Nat, q < H.size → ¬ A1 q → H1[q]? = H[q]?) → va_S A0 H0 H1 locs1 → W p l e R s m args below meth c H1 locs1 (cells + mc) (slots + ms) Q (F0 m (pc + 3) ls (rest))) : W p l e R s m args below meth c H locs cells slots Q (F0 m pc ls st0) := by
  intro T hT X
  rcases hr T hT X with ⟨v, st₀, t, T', L, h0, X', hL, e1, e2, ⟨⟨u, hv, hp, hb⟩, hF⟩, st⟩ | ⟨q, st₀, t, T', L, E, ce, h0, X', hL, e1, e2, ⟨u, hp, hb, hF⟩, hce, hcv, hcl, st⟩
  · cases hv
    obtain ⟨k1, k2, k3⟩ := vx_keep h0 e1 hS hA hf hL hF
    obtain ⟨t2, a1, b1⟩ := kk u t T'.heap (locs ++ L) e1.symm (by rw [← e2]; exact X'.warmed.alike) hp hb k1 k2 k3 T' rfl X'
    exact ⟨t2, st t2 a1, b1⟩
  · obtain ⟨k1, k2, k3⟩ := vx_keep h0 e1 hS hAX hf hL hF
    obtain ⟨t2, a1, b1⟩ := kx E ce q u t T'.heap (locs ++ L) e1.symm (by rw [← e2]; exact X'.warmed.alike) hp hb k1 k2 k3 (by rw [e1]; exact hce) hcv hcl T' rfl X'
    exact ⟨t2, st.trans a1, b1⟩
/-- caught by the row x of this method's table; the rows ahead don't take it -/
theorem vx_catch {own name : String} {E : String} {ce : Cell} {q : Addr} (hown : s.vm.findClass own = some m.cls) (pre : List ExceptionTableEntry) (x : ExceptionTableEntry) (suf : List ExceptionTableEntry) (hsplit : c.exceptionTable.toList = pre ++ x :: suf)
    (hpass : ∀ z ∈ pre, covers z pc = false ∨ (z.catchType ≠ 0 ∧ ∃ nm : String, (Cond.classLink own z.catchType nm).before args s = true ∧ va_Nc E nm s)) (hx : covers x pc = true) (h0 : x.catchType ≠ 0)
    (hlink : (Cond.classLink own x.catchType name).before args s = true) (hcast : (Cond.castable E name).before args s = true) (hcell : H[q]? = some ce) (hv : ce.vm = .none) (hcl : s.vm.findClass E = some ce.cls)
    (kk : W p l e R s m args below meth c H locs cells slots Q (F0 m x.handlerPc ls [.ref q])) : vx_W p l e R s m args below meth c H locs cells slots Q (F0 m pc ls rest) q := by
  intro T hT X
  have hpl : e.platform.magicAccessors = ({} : Platform).magicAccessors := by rw [X.admits.platform]
  obtain ⟨c3, c4, hc3, hc4, hasg⟩ := Cond.castable_spec hcast
  cases Option.some.inj (hc3.symm.trans hcl)
  obtain ⟨c5, hc5, hcl5⟩ := Cond.classLink_spec hown hlink e.platform hpl
  cases Option.some.inj (hc4.symm.trans hc5)
  obtain ⟨vm', X', st⟩ := X.thenCaughtThrough q (g := F0 m pc ls rest) rfl (Steps.refl _) (by rw [hT]; exact hcell) (by rw [hv]; rfl) (by obtain ⟨k9, h9, -⟩ := Vm.findClass_spec hcl; exact ⟨k9, h9⟩) pre x suf hsplit
    (fun z hz => by
      rcases hpass z hz with h | ⟨hz0, nm, hl1, hn1⟩
      · exact Or.inl h
      · obtain ⟨c6, hc6, hcl6⟩ := Cond.classLink_spec hown hl1 e.platform hpl
        obtain ⟨a8, b8, h1, h2, h3⟩ := hn1
        cases Option.some.inj (h1.symm.trans hcl)
        cases Option.some.inj (h2.symm.trans hc6)
        exact Or.inr ⟨hz0, _, hcl6, h3⟩) hx (Or.inr ⟨h0, c4, hcl5, hasg⟩)
  obtain ⟨t, a1, b1⟩ := kk (T.setVm vm') hT X'
  exact ⟨t, st.trans a1, b1⟩
end Rows
section Ends
variable {p : Program} {l : Launch} {e : Env} {R : Room} {s : State} {m : MethodId} {args : Array Value} {below : List Frame} {meth : Method} {c : Code} {H : Heap} {locs : List Loc} {cells slots : Nat} {Q : State → Prop}
variable {mc ms : Nat} {free : Addr → Prop} {A0 A1 : Nat → Prop} {H0 : Heap} {a : Array Value} {ls : Array Slot} {st0 rest : List Value}
variable {Qc : Array Value → State → Outcome → State → Prop} {XC : String → State → State → Prop}
/-- what a body that may throw owes at its end -/
def vx_MQ (below : List Frame) (Qc : Array Value → State → Outcome → State → Prop) (XC : String → State → State → Prop) (a : Array Value) (s : State) (mc ms : Nat) (free : Addr → Prop) : State → Prop := fun t =>
  ∃ o, t.status = .running ∧ Ended t below o ∧ vx_Q Qc XC mc ms free a s o t
theorem vx_ret {g : JFrame} {mc ms : Nat} (k : W p l e R s m args below meth c H locs cells slots (MQ below Qc args s mc ms free) g) : W p l e R s m args below meth c H locs cells slots (vx_MQ below Qc XC args s mc ms free) g := by
  intro T hT X
  obtain ⟨t, a1, o, b1, b2, b3, b4⟩ := k T hT X
  exact ⟨t, a1, o, b1, b2, Or.inl ⟨b3, b4⟩⟩
/-- not caught here: it goes on to the caller -/
theorem vx_widen {g : JFrame} {q : Addr} {k n : Nat} (h1 : cells ≤ k) (h2 : slots ≤ n) (kk : vx_W p l e R s m args below meth c H locs k n Q g q) : vx_W p l e R s m args below meth c H locs cells slots Q g q := fun T hT X => kk T hT (stand_widen X h1 h2)
theorem vx_out {pc : Nat} {E : String} {ce : Cell} {q : Addr} {mc ms : Nat} (hout : ∀ x ∈ c.exceptionTable.toList, covers x pc = false) (hlocks : meth.locks = false) (hcell : H[q]? = some ce) (hv : ce.vm = .none) (hcl : s.vm.findClass E = some ce.cls)
    (hx : ∀ t : State, t.heap = H → s.vm.Alike t.vm → XC E s t) (hf : ∀ z ∈ locs, free z.base) (hc : cells ≤ mc) (hs : slots ≤ ms) :
    vx_W p l e R s m args below meth c H locs cells slots (vx_MQ below Qc XC args s mc ms free) (F0 m pc ls rest) q := by
  intro T hT X
  obtain ⟨st1, hrun, hend, hW, hsm⟩ := X.leaveThrown q (g := F0 m pc ls rest) rfl rfl rfl hout hlocks
  have hcell9 : (T.setFrames (.throwing q :: below)).heap[q]? = some ce := by
    show T.heap[q]? = some ce
    rw [hT]; exact hcell
  exact ⟨_, st1, .threw q, hrun, hend, Or.inr ⟨q, rfl, E, ce, locs, hx _ hT hW.alike, hcell9, hv, hcl, hW, hsm.mono hc hs, hf⟩⟩
theorem vx_frame {U : State} {k n : Nat} (h : s.sameButNew ({ U with vm := s.vm } : State) locs k n) : s.heap.size ≤ U.heap.size ∧ ∀ q : Nat, q < s.heap.size → (∀ z ∈ locs, z.base ≠ q) → U.heap[q]? = s.heap[q]? := by
  obtain ⟨-, h2, -, -, -, h6⟩ := h
  refine ⟨h2, fun q hq hz => ?_⟩
  obtain ⟨c9, e1, e2, e3, e4⟩ := h6 q _ (Array.getElem?_eq_getElem hq)
  have hs : c9.slots = (s.heap[q]).slots := Array.ext_getElem? fun i => e4 i fun hm => hz _ hm rfl
  have h9 : c9 = s.heap[q] := by
    rw [hs] at e2
    exact e2
  have e5 : U.heap[q]? = some c9 := e1
  rw [e5, h9, Array.getElem?_eq_getElem hq]
/-- the words of a throw but the four that speak of the heap -/
def vx_no (w : Cond) : Bool := decide (w ≠ .isRef (.static Bundle.tN "UNASSIGNED_STACK" Bundle.steD)) && decide (w ≠ .isRef (.static Bundle.tN "SUPPRESSED_SENTINEL" Bundle.listD)) && decide (w ≠ .laysStatic Bundle.tN "UNASSIGNED_STACK" Bundle.steD) && decide (w ≠ .laysStatic Bundle.tN "SUPPRESSED_SENTINEL" Bundle.listD)
def vx_at0 (own : String) (ic : Nat) (X : String) (names : List String) : List Cond := (Bundle.ownAtoms0 own ic X names).filter vx_no
def vx_atS (own : String) (ic : Nat) (X : String) (names : List String) : List Cond := (Bundle.ownAtoms own ic X names).filter vx_no
/-- a word that the tables alone decide, or a good one -/
def vx_ot (w : Cond) : Bool := w.onTables || goodWord w
theorem vx_ot_at {args a' : Array Value} {s U : State} {w : Cond} (hW : s.WarmedH U.vm) (hvm : s.vm = U.vm) (hg : vx_ot w = true) (h : w.before args s = true) : w.before a' U = true := by
  simp only [vx_ot, Bool.or_eq_true] at hg
  rcases hg with hg | hg
  · exact va_tabs hg hvm h
  · exact word_at hW (good_of_word hg) h
/-- a list's words: the good ones out of the method's own list, the others by premises of their own -/
theorem vx_hat {args : Array Value} {s : State} {L B : List Cond} (h1 : ∀ w ∈ L.filter goodWord, w.before args s = true) (h2 : ∀ w ∈ L.filter (fun w => !goodWord w), w ∈ B) (h3 : ∀ w ∈ B, w.before args s = true) : ∀ w ∈ L, w.before args s = true := by
  intro w hw
  by_cases g : goodWord w = true
  · exact h1 w (List.mem_filter.mpr ⟨hw, g⟩)
  · refine h3 w (h2 w (List.mem_filter.mpr ⟨hw, ?_⟩))
    show (!goodWord w) = true
    cases hgw : goodWord w
    · rfl
    · exact absurd hgw g
theorem vx_c {args : Array Value} {s : State} {w : Cond} {B : List Cond} (h : w.before args s = true) (t : ∀ w ∈ B, w.before args s = true) : ∀ w' ∈ w :: B, w'.before args s = true := fun w' h' => (List.mem_cons.mp h').elim (fun e => by rw [e]; exact h) (t w')
theorem vx_n {args : Array Value} {s : State} : ∀ w ∈ ([] : List Cond), w.before args s = true := fun _ h => nomatch h
theorem vx_own {args : Array Value} {s : State} {L : List Cond} (h1 : ∀ w ∈ L.filter vx_no, w.before args s = true)
    (hU : (Cond.isRef (.static Bundle.tN "UNASSIGNED_STACK" Bundle.steD)).before args s = true) (hN : (Cond.isRef (.static Bundle.tN "SUPPRESSED_SENTINEL" Bundle.listD)).before args s = true)
    (lU : (Cond.laysStatic Bundle.tN "UNASSIGNED_STACK" Bundle.steD).before args s = true) (lN : (Cond.laysStatic Bundle.tN "SUPPRESSED_SENTINEL" Bundle.listD).before args s = true) : ∀ w ∈ L, w.before args s = true := by
  intro w hw
  by_cases e1 : w = .isRef (.static Bundle.tN "UNASSIGNED_STACK" Bundle.steD)
  · rw [e1]; exact hU
  · by_cases e2 : w = .isRef (.static Bundle.tN "SUPPRESSED_SENTINEL" Bundle.listD)
    · rw [e2]; exact hN
    · by_cases e3 : w = .laysStatic Bundle.tN "UNASSIGNED_STACK" Bundle.steD
      · rw [e3]; exact lU
      · by_cases e4 : w = .laysStatic Bundle.tN "SUPPRESSED_SENTINEL" Bundle.listD
        · rw [e4]; exact lN
        · exact h1 w (List.mem_filter.mpr ⟨hw, by unfold vx_no; rw [decide_eq_true e1, decide_eq_true e2, decide_eq_true e3, decide_eq_true e4]; rfl⟩)
/-- where a static field lies, its class's statics cell in H -/
def vx_L (C n d : String) (A : Nat → Prop) (U : State) (H : Heap) : Prop := ∃ (c : ClassId) (k : Class) (i : Nat) (f : Field) (a : Nat) (cell : Cell), U.vm.findClass C = some c ∧ U.fieldFound? C n d = some (c, k, i, f) ∧ f.isStatic = true ∧ k.statics = some a ∧ H[a]? = some cell ∧ cell.vm.isStatics = true ∧ cell.cls = c ∧ f.slot < cell.slots.size ∧ k.staticTypes[f.slot]? = some f.type ∧ ¬ A a
theorem vx_L.moved {C n d : String} {A : Nat → Prop} {u U : State} {H : Heap} (hvm : u.vm.Alike U.vm) (h : vx_L C n d A u H) : vx_L C n d A U H := by
  obtain ⟨c, k, i, f, a, cell, h1, h2, h3, h4, h5, h6, h7, h8, h9, h10⟩ := h
  obtain ⟨k', hi', he⟩ := State.fieldFound?_setVm hvm h2
  exact ⟨c, k', i, f, a, cell, by rw [hvm.findClass]; exact h1, hi', h3, by rw [he]; exact h4, h5, h6, h7, h8, by rw [he]; exact h9, h10⟩
theorem vx_L.kept {C n d : String} {A : Nat → Prop} {U : State} {H H1 : Heap} (h : vx_L C n d A U H) (hq : ∀ a : Nat, a < H.size → ¬ A a → H1[a]? = H[a]?) : vx_L C n d A U H1 := by
  obtain ⟨c, k, i, f, a, cell, h1, h2, h3, h4, h5, h6, h7, h8, h9, h10⟩ := h
  exact ⟨c, k, i, f, a, cell, h1, h2, h3, h4, by rw [hq a (Array.getElem?_eq_some_iff.mp h5).1 h10]; exact h5, h6, h7, h8, h9, h10⟩
theorem vx_L.narrow {C n d : String} {A B : Nat → Prop} {U : State} {H : Heap} (h : vx_L C n d A U H) (hAB : ∀ q, B q → A q) : vx_L C n d B U H := by
  obtain ⟨c, k, i, f, a, cell, h1, h2, h3, h4, h5, h6, h7, h8, h9, h10⟩ := h
  exact ⟨c, k, i, f, a, cell, h1, h2, h3, h4, h5, h6, h7, h8, h9, fun z => h10 (hAB _ z)⟩
theorem vx_L.word {C n d : String} {A : Nat → Prop} {s : State} {args : Array Value} (h : vx_L C n d A s s.heap) : (Cond.laysStatic C n d).before args s = true := by
  obtain ⟨c, k, i, f, a, cell, h1, h2, h3, h4, h5, h6, h7, h8, h9, -⟩ := h
  show (Cond.laysStatic C n d).holds args s none s [] = true
  exact Cond.laysStatic_of h1 h2 h3 h4 h5 h6 h7 h8 h9
/-- .. and what it holds: null or some reference -/
def vx_Zq (C n d : String) (A : Nat → Prop) (U : State) (H : Heap) : Prop := va_Zq C n d A U H ∧ vx_L C n d A U H
theorem vx_Zq.moved {C n d : String} {A : Nat → Prop} {u U : State} {H : Heap} (hvm : u.vm.Alike U.vm) (h : vx_Zq C n d A u H) : vx_Zq C n d A U H := ⟨va_Zq.moved hvm h.1, vx_L.moved hvm h.2⟩
theorem vx_Zq.kept {C n d : String} {A : Nat → Prop} {U : State} {H H1 : Heap} (h : vx_Zq C n d A U H) (hq : ∀ a : Nat, a < H.size → ¬ A a → H1[a]? = H[a]?) : vx_Zq C n d A U H1 := ⟨va_Zq.kept h.1 hq, vx_L.kept h.2 hq⟩
theorem vx_Zq.narrow {C n d : String} {A B : Nat → Prop} {U : State} {H : Heap} (h : vx_Zq C n d A U H) (hAB : ∀ q, B q → A q) : vx_Zq C n d B U H := ⟨va_Zq.narrow h.1 hAB, vx_L.narrow h.2 hAB⟩
theorem vx_Zqof {args : Array Value} {s : State} {C n d : String} {A : Nat → Prop} (hl : (Cond.laysStatic C n d).before args s = true) (hini : (Cond.initialized C).before args s = true) (h : (Cond.isRef (.static C n d)).before args s = true) (hA : ∀ a : Nat, a < s.heap.size → ¬ A a) : vx_Zq C n d A s s.heap := by
  refine ⟨va_Zqof hl hini h hA, ?_⟩
  obtain ⟨c, k, i, f, a, cell, h1, h2, h3, h4, h5, h6, h7, h8, h9⟩ := Cond.laysStatic_spec hl
  exact ⟨c, k, i, f, a, cell, h1, h2, h3, h4, h5, h6, h7, h8, h9, hA a (Array.getElem?_eq_some_iff.mp h5).1⟩
theorem vx_isRef {C n d : String} {v : Value} {A : Nat → Prop} {s : State} {args : Array Value} (h : va_Z C n d v A s s.heap) (hv : v.isRef = true) : (Cond.isRef (.static C n d)).before args s = true := by
  obtain ⟨cf, kf, fi, f, a, cell, h1, h2, h3, h4, h5, h6, h7, -⟩ := h
  have he : (Term.static C n d).eval args s none [] s = some v := by
    simp [Term.eval, State.fieldNamed?, h1, h2, h4, h5, h6, h7]
  simp only [Cond.before, Cond.holds, Cond.value, he]
  cases v <;> simp_all [Value.isRef]
theorem vx_isRefq {C n d : String} {A : Nat → Prop} {s : State} {args : Array Value} (h : va_Zq C n d A s s.heap) : (Cond.isRef (.static C n d)).before args s = true := by
  rcases h with h | ⟨t, h⟩
  · exact vx_isRef h rfl
  · exact vx_isRef h rfl
/-- the same frame, seen from here: as if the method were called anew in this heap -/
theorem vx_rebase {T : State} (X : Stand p l e R s m args below meth c T locs cells slots) {R' : Room} (hf : R'.frames ≤ R.frames) (hl : R'.locals ≤ R.locals) (hc : cells + R'.cells ≤ R.cells) (hs : slots + R'.slots ≤ R.slots) :
    Stand p l e R' ((T.setVm s.vm).setFrames (.invoking m args :: below)) m args below meth c T [] 0 0 := by
  have htop : (T.setVm s.vm).topJava?.isSome := X.here.top
  have hF : ((T.setVm s.vm).setFrames (.invoking m args :: below)).frames = .invoking m args :: below := State.frames_setFrames _ (State.cur_lt_of_top htop)
  obtain ⟨g₀, hg0⟩ := Option.isSome_iff_exists.mp htop
  obtain ⟨r, hr⟩ := State.topJava?_eq_some.mp hg0
  have hl9 : e.platform.stackLimits (T.setVm s.vm).me = e.platform.stackLimits s.me := X.limits
  have hb9 : (T.setVm s.vm).me.stackBytes = s.me.stackBytes := X.bytes
  refine ⟨X.admits, X.cas, X.clock, hF, ?_, X.hears, X.method, X.code, X.here, X.tail, X.warmed, ?_, ?_, ?_⟩
  · have h := X.room
    have hU : ((T.setVm s.vm).setFrames (.invoking m args :: below)).localsInUse = s.localsInUse := by
      rw [State.localsInUse_invoking hF (meth := meth) (c := c) X.method X.code, State.localsInUse_invoking X.frames X.method X.code]
    simp only [State.hasRoom, Bool.and_eq_true, decide_eq_true_eq] at h ⊢
    obtain ⟨⟨⟨⟨h1, h2, h3, h4, h5, h6⟩, h7⟩, h8⟩, h9⟩ := h
    rw [X.frames, List.length_cons] at h2 h3
    have q1 := X.heapSize
    have q2 := X.used
    simp only [hF, hU, List.length_cons, State.stackLimits_setFrames, State.stackBytes_setFrames, hl9, hb9]
    refine ⟨⟨⟨⟨by omega, by omega, by omega, by omega, by omega, h6⟩, ?_⟩, ?_⟩, X.book⟩
    · show T.heap.size + R'.cells ≤ e.platform.maxCells
      omega
    · show T.slotsUsed + R'.slots ≤ e.platform.maxSlots
      omega
  · rw [State.stackLimits_setFrames]; rfl
  · rw [State.stackBytes_setFrames]; rfl
  · refine ⟨?_, Nat.le_refl _, Nat.le_refl _, ?_, ?_, fun a c9 h9 => ⟨c9, h9, rfl, rfl, fun _ _ => rfl⟩⟩
    · obtain ⟨t, ht, -⟩ := State.frames_cons hr
      show T.setVm s.vm = { ((T.setVm s.vm).setFrames (.invoking m args :: below)).setFrames (T.setVm s.vm).frames with heap := T.heap, slotsUsed := T.slotsUsed }
      rw [State.setFrames_setFrames, State.setFrames_self ht]
      rfl
    · show T.slotsUsed = T.slotsUsed + ((T.heap.toList.drop T.heap.size).map (·.slots.size)).sum
      rw [List.drop_eq_nil_of_le (Nat.le_of_eq Array.length_toList)]
      rfl
    · show ((T.heap.toList.drop T.heap.size).map (·.slots.size)).sum ≤ 0
      rw [List.drop_eq_nil_of_le (Nat.le_of_eq Array.length_toList)]
      exact Nat.le_refl _
/-- 'throw new E()': new; dup; invokespecial; athrow -/
theorem vx_throw0 {cc : ByteArray} {pc : Nat} (hexec : p.tables.exec = Jvm.exec) (hb : c.code = cc) (hl : l.stackTraces = false) {own cls : String} {names : List String} {ik ic mc ms : Nat} {A : Nat → Prop}
    (hown : s.vm.findClass own = some m.cls) (hcls : Bundle.fit cls = true) (hnames : ∀ n ∈ names, Bundle.fit n = true)
    (hk : (Cond.classLink own ik cls).before args s = true) (hini : (Cond.initialized cls).before args s = true) (hat : ∀ w ∈ vx_at0 own ic cls names, w.before args s = true)
    (hgood : ∀ w ∈ Cond.classLink own ik cls :: Cond.initialized cls :: vx_at0 own ic cls names, vx_ot w = true)
    (hU : vx_Zq Bundle.tN "UNASSIGNED_STACK" Bundle.steD A s s.heap) (hN : vx_Zq Bundle.tN "SUPPRESSED_SENTINEL" Bundle.listD A s s.heap) (hS : va_S A s.heap H locs) (hsize : ls.size = c.maxLocals)
    (d0 : decode cc pc = .ok (.new ik, 3)) (d3 : decode cc (pc + 3) = .ok (.dup, 1)) (d4 : decode cc (pc + 4) = .ok (.invokespecial ic, 3)) (d7 : decode cc (pc + 7) = .ok (.athrow, 1))
    (hout : ∀ x ∈ c.exceptionTable.toList, covers x (pc + 7) = false)
    (hRframes : names.length + 3 < R.frames) (hRlocals : (rest.map fun v => v.category).sum + (13 * (names.length + 1) + 42) ≤ R.locals) (hRcells : cells + 1 ≤ R.cells) (hRslots : slots + 6 ≤ R.slots) (hlocks : meth.locks = false)
    (hx : ∀ t : State, s.vm.Alike t.vm → H.size ≤ t.heap.size → (∀ q : Nat, q < H.size → t.heap[q]? = H[q]?) → XC cls s t)
    (hf : ∀ z ∈ locs, free z.base) (hc : cells + 1 ≤ mc) (hs : slots + 6 ≤ ms) :
    W p l e R s m args below meth c H locs cells slots (vx_MQ below Qc XC args s mc ms free) (F0 m pc ls rest) := by
  intro T hT X
  have htr : e.platform.stackTraces = false := (show e.platform.stackTraces = l.stackTraces by rw [X.admits.platform]).trans hl
  have Y := vx_rebase X (R' := { frames := R.frames, locals := R.locals, cells := 1, slots := 6 }) (Nat.le_refl _) (Nat.le_refl _) hRcells hRslots
  obtain ⟨s', hA⟩ : ∃ z, z = (T.setVm s.vm).setFrames (.invoking m args :: below) := ⟨_, rfl⟩
  rw [← hA] at Y
  have hvm : s'.vm = s.vm := by rw [hA]; rfl
  have hhp : s'.heap = H := by rw [hA]; exact hT
  have hW0 : s.WarmedH s'.vm := by rw [hvm]; exact State.WarmedH.refl s
  have hat' : ∀ w ∈ vx_at0 own ic cls names, w.before args s' = true := fun w hw => vx_ot_at hW0 hvm.symm (hgood w (List.mem_cons_of_mem _ (List.mem_cons_of_mem _ hw))) (hat w hw)
  have hk' : (Cond.classLink own ik cls).before args s' = true := vx_ot_at hW0 hvm.symm (hgood _ List.mem_cons_self) hk
  have hini' : (Cond.initialized cls).before args s' = true := vx_ot_at hW0 hvm.symm (hgood _ (List.mem_cons_of_mem _ List.mem_cons_self)) hini
  have hU' : vx_Zq Bundle.tN "UNASSIGNED_STACK" Bundle.steD A s' s'.heap := by rw [hhp]; exact vx_Zq.moved hW0.alike (hU.kept hS.2.1)
  have hN' : vx_Zq Bundle.tN "SUPPRESSED_SENTINEL" Bundle.listD A s' s'.heap := by rw [hhp]; exact vx_Zq.moved hW0.alike (hN.kept hS.2.1)
  have h : ∀ w ∈ Bundle.ownAtoms0 own ic cls names, w.before args s' = true := vx_own hat' (vx_isRefq hU'.1) (vx_isRefq hN'.1) hU'.2.word hN'.2.word
  have hown' : s'.vm.findClass own = some m.cls := by rw [hvm]; exact hown
  have hins : (Cond.instantiable cls 6).before args s' = true := h _ (by simp [Bundle.ownAtoms0])
  obtain ⟨vm₁, cX, kX, hfX, hkX, -, -, X₁, st1⟩ := Y.newCold hexec (own := own) (C := cls) (index := ik) (n := 6) hown' hk' hins hini'
    (g := F0 m pc ls rest) rfl (by rw [hb]; exact d0) (Nat.le_refl _) (Nat.le_refl _)
  generalize hT1 : (T.setVm vm₁).pushCell { cls := cX, slots := kX.instanceTypes.map defaultValue, vm := .none } = T1 at X₁ st1
  have hcat : (Value.ref T.heap.size).category = 1 := rfl
  have hcellA : T1.heap[T.heap.size]? = some (freshCell cX kX) := by rw [← hT1]; exact State.heap_pushCell_size _ _
  have d3' : decode c.code (pc + 3) = .ok (.dup, 1) := by rw [hb]; exact d3
  obtain ⟨U, hsteps, hrun, hend, hW, hsame, ce, hce, hO⟩ := X₁.ctorThrow0 hexec htr (own := own) (cls := cls) (names := names) (ic := ic) hown' hcls hnames h (fun x hx => nomatch hx) hfX hkX hcellA (by rw [hhp, hT]; exact Nat.le_refl _)
    (g := { method := m, pc := pc + 4, locals := ls, stack := .ref T.heap.size :: .ref T.heap.size :: rest, locked := none }) rfl hsize rfl rfl (rest := rest) rfl
    (by rw [hb]; exact d4) (by rw [hb]; exact d7) hout hRframes (by simp only [List.map_cons, List.sum_cons, hcat]; omega) hlocks
  obtain ⟨f1, f2⟩ := vx_frame hsame
  rw [hhp] at f1 f2
  have hWs : s.WarmedH U.vm := State.WarmedH.trans hW0 hW
  have hcl : s.vm.findClass cls = some ce.cls := by
    have h9 := hO.cls
    rw [hvm] at h9
    exact h9
  have hall : s.sameButNew ({ U with vm := s.vm } : State) locs mc ms := by
    subst hA
    obtain ⟨e1, e2⟩ := hsame
    rw [State.setFrames_setFrames] at e1
    have h2 : (T.setVm s.vm).sameButNew ({ U with vm := s.vm } : State) [] (0 + 1) (0 + 6) := ⟨e1, e2⟩
    have h3 := X.same.trans h2
    rw [List.append_nil] at h3
    exact h3.mono hc hs
  refine ⟨U, ?_, .threw T.heap.size, hrun, hend, Or.inr ⟨T.heap.size, rfl, cls, ce, locs, hx U hWs.alike f1 (fun q hq => f2 q hq (fun z hz => nomatch hz)), hce, hO.vm, hcl, hWs, hall, hf⟩⟩
  refine st1 _ ?_
  show Steps p.tables e below (T1.setTop { method := m, pc := pc + 3, locals := ls, stack := .ref T.heap.size :: rest, locked := none }) _
  jvm_step X₁.here [X₁.here.top, hexec, d3', Value.category]
  exact hsteps
/-- 'throw new E("text")': new; dup; ldc; invokespecial; athrow -/
theorem vx_throwS {cc : ByteArray} {pc : Nat} (hexec : p.tables.exec = Jvm.exec) (hb : c.code = cc) (hl : l.stackTraces = false) {own cls text : String} {names : List String} {ik is ic mc ms sa : Nat} {A : Nat → Prop}
    (hown : s.vm.findClass own = some m.cls) (hcls : Bundle.fit cls = true) (hnames : ∀ n ∈ names, Bundle.fit n = true)
    (hk : (Cond.classLink own ik cls).before args s = true) (hini : (Cond.initialized cls).before args s = true) (hstr : vk_R own is text sa s) (hat : ∀ w ∈ vx_atS own ic cls names, w.before args s = true)
    (hgood : ∀ w ∈ Cond.classLink own ik cls :: Cond.initialized cls :: vx_atS own ic cls names, vx_ot w = true)
    (hU : vx_Zq Bundle.tN "UNASSIGNED_STACK" Bundle.steD A s s.heap) (hN : vx_Zq Bundle.tN "SUPPRESSED_SENTINEL" Bundle.listD A s s.heap) (hS : va_S A s.heap H locs) (hsize : ls.size = c.maxLocals)
    (d0 : decode cc pc = .ok (.new ik, 3)) (d3 : decode cc (pc + 3) = .ok (.dup, 1)) (d4 : decode cc (pc + 4) = .ok (.ldc is, 2)) (d6 : decode cc (pc + 6) = .ok (.invokespecial ic, 3)) (d9 : decode cc (pc + 9) = .ok (.athrow, 1))
    (hout : ∀ x ∈ c.exceptionTable.toList, covers x (pc + 9) = false)
    (hRframes : names.length + 3 < R.frames) (hRlocals : (rest.map fun v => v.category).sum + (13 * (names.length + 1) + 43) ≤ R.locals) (hRcells : cells + 1 ≤ R.cells) (hRslots : slots + 6 ≤ R.slots) (hlocks : meth.locks = false)
    (hx : ∀ t : State, s.vm.Alike t.vm → H.size ≤ t.heap.size → (∀ q : Nat, q < H.size → t.heap[q]? = H[q]?) → XC cls s t)
    (hf : ∀ z ∈ locs, free z.base) (hc : cells + 1 ≤ mc) (hs : slots + 6 ≤ ms) :
    W p l e R s m args below meth c H locs cells slots (vx_MQ below Qc XC args s mc ms free) (F0 m pc ls rest) := by
  intro T hT X
  have htr : e.platform.stackTraces = false := (show e.platform.stackTraces = l.stackTraces by rw [X.admits.platform]).trans hl
  have Y := vx_rebase X (R' := { frames := R.frames, locals := R.locals, cells := 1, slots := 6 }) (Nat.le_refl _) (Nat.le_refl _) hRcells hRslots
  obtain ⟨s', hA⟩ : ∃ z, z = (T.setVm s.vm).setFrames (.invoking m args :: below) := ⟨_, rfl⟩
  rw [← hA] at Y
  have hvm : s'.vm = s.vm := by rw [hA]; rfl
  have hhp : s'.heap = H := by rw [hA]; exact hT
  have hW0 : s.WarmedH s'.vm := by rw [hvm]; exact State.WarmedH.refl s
  have hat' : ∀ w ∈ vx_atS own ic cls names, w.before args s' = true := fun w hw => vx_ot_at hW0 hvm.symm (hgood w (List.mem_cons_of_mem _ (List.mem_cons_of_mem _ hw))) (hat w hw)
  have hk' : (Cond.classLink own ik cls).before args s' = true := vx_ot_at hW0 hvm.symm (hgood _ List.mem_cons_self) hk
  have hini' : (Cond.initialized cls).before args s' = true := vx_ot_at hW0 hvm.symm (hgood _ (List.mem_cons_of_mem _ List.mem_cons_self)) hini
  have hU' : vx_Zq Bundle.tN "UNASSIGNED_STACK" Bundle.steD A s' s'.heap := by rw [hhp]; exact vx_Zq.moved hW0.alike (hU.kept hS.2.1)
  have hN' : vx_Zq Bundle.tN "SUPPRESSED_SENTINEL" Bundle.listD A s' s'.heap := by rw [hhp]; exact vx_Zq.moved hW0.alike (hN.kept hS.2.1)
  have h : ∀ w ∈ Bundle.ownAtoms own ic cls names, w.before args s' = true := vx_own hat' (vx_isRefq hU'.1) (vx_isRefq hN'.1) hU'.2.word hN'.2.word
  have hown' : s'.vm.findClass own = some m.cls := by rw [hvm]; exact hown
  have hins : (Cond.instantiable cls 6).before args s' = true := h _ (by simp [Bundle.ownAtoms])
  obtain ⟨vm₁, cX, kX, hfX, hkX, -, -, X₁, st1⟩ := Y.newCold hexec (own := own) (C := cls) (index := ik) (n := 6) hown' hk' hins hini'
    (g := F0 m pc ls rest) rfl (by rw [hb]; exact d0) (Nat.le_refl _) (Nat.le_refl _)
  generalize hT1 : (T.setVm vm₁).pushCell { cls := cX, slots := kX.instanceTypes.map defaultValue, vm := .none } = T1 at X₁ st1
  have hcat : (Value.ref T.heap.size).category = 1 := rfl
  have hcellA : T1.heap[T.heap.size]? = some (freshCell cX kX) := by rw [← hT1]; exact State.heap_pushCell_size _ _
  have d3' : decode c.code (pc + 3) = .ok (.dup, 1) := by rw [hb]; exact d3
  have d4' : decode c.code (pc + 4) = .ok (.ldc is, 2) := by rw [hb]; exact d4
  have hstr' : vk_R own is text sa s' := vk_R.warm hW0 hstr
  obtain ⟨U, hsteps, hrun, hend, hW, hsame, ce, hce, hO⟩ := X₁.ctorThrowS hexec htr (own := own) (cls := cls) (names := names) (ic := ic) hown' hcls hnames h (fun x hx => nomatch hx) hfX hkX hcellA (by rw [hhp, hT]; exact Nat.le_refl _) (msg := .ref sa) rfl
    (g := { method := m, pc := pc + 6, locals := ls, stack := .ref sa :: .ref T.heap.size :: .ref T.heap.size :: rest, locked := none }) rfl hsize rfl rfl (rest := rest) rfl
    (by rw [hb]; exact d6) (by rw [hb]; exact d9) hout hRframes (by simp only [List.map_cons, List.sum_cons, hcat]; omega) hlocks
  obtain ⟨f1, f2⟩ := vx_frame hsame
  rw [hhp] at f1 f2
  have hWs : s.WarmedH U.vm := State.WarmedH.trans hW0 hW
  have hcl : s.vm.findClass cls = some ce.cls := by
    have h9 := hO.cls
    rw [hvm] at h9
    exact h9
  have hall : s.sameButNew ({ U with vm := s.vm } : State) locs mc ms := by
    subst hA
    obtain ⟨e1, e2⟩ := hsame
    rw [State.setFrames_setFrames] at e1
    have h2 : (T.setVm s.vm).sameButNew ({ U with vm := s.vm } : State) [] (0 + 1) (0 + 6) := ⟨e1, e2⟩
    have h3 := X.same.trans h2
    rw [List.append_nil] at h3
    exact h3.mono hc hs
  refine ⟨U, ?_, .threw T.heap.size, hrun, hend, Or.inr ⟨T.heap.size, rfl, cls, ce, locs, hx U hWs.alike f1 (fun q hq => f2 q hq (fun z hz => nomatch hz)), hce, hO.vm, hcl, hWs, hall, hf⟩⟩
  refine st1 _ ?_
  show Steps p.tables e below (T1.setTop { method := m, pc := pc + 3, locals := ls, stack := .ref T.heap.size :: rest, locked := none }) _
  jvm_step X₁.here [X₁.here.top, hexec, d3', Value.category]
  exact X₁.ldcString hexec (own := own) (text := text) (index := is) (a := sa) hown' hstr'.1 hstr'.2
    (g := { method := m, pc := pc + 4, locals := ls, stack := .ref T.heap.size :: .ref T.heap.size :: rest, locked := none }) rfl d4' _ hsteps
/-- 'throw new E("text")', the text by a wide index -/
theorem vx_throwSW {cc : ByteArray} {pc : Nat} (hexec : p.tables.exec = Jvm.exec) (hb : c.code = cc) (hl : l.stackTraces = false) {own cls text : String} {names : List String} {ik is ic mc ms sa : Nat} {A : Nat → Prop}
    (hown : s.vm.findClass own = some m.cls) (hcls : Bundle.fit cls = true) (hnames : ∀ n ∈ names, Bundle.fit n = true)
    (hk : (Cond.classLink own ik cls).before args s = true) (hini : (Cond.initialized cls).before args s = true) (hstr : vk_R own is text sa s) (hat : ∀ w ∈ vx_atS own ic cls names, w.before args s = true)
    (hgood : ∀ w ∈ Cond.classLink own ik cls :: Cond.initialized cls :: vx_atS own ic cls names, vx_ot w = true)
    (hU : vx_Zq Bundle.tN "UNASSIGNED_STACK" Bundle.steD A s s.heap) (hN : vx_Zq Bundle.tN "SUPPRESSED_SENTINEL" Bundle.listD A s s.heap) (hS : va_S A s.heap H locs) (hsize : ls.size = c.maxLocals)
    (d0 : decode cc pc = .ok (.new ik, 3)) (d3 : decode cc (pc + 3) = .ok (.dup, 1)) (d4 : decode cc (pc + 4) = .ok (.ldc_w is, 3)) (d7 : decode cc (pc + 7) = .ok (.invokespecial ic, 3)) (d10 : decode cc (pc + 10) = .ok (.athrow, 1))
    (hout : ∀ x ∈ c.exceptionTable.toList, covers x (pc + 10) = false)
    (hRframes : names.length + 3 < R.frames) (hRlocals : (rest.map fun v => v.category).sum + (13 * (names.length + 1) + 43) ≤ R.locals) (hRcells : cells + 1 ≤ R.cells) (hRslots : slots + 6 ≤ R.slots) (hlocks : meth.locks = false)
    (hx : ∀ t : State, s.vm.Alike t.vm → H.size ≤ t.heap.size → (∀ q : Nat, q < H.size → t.heap[q]? = H[q]?) → XC cls s t)
    (hf : ∀ z ∈ locs, free z.base) (hc : cells + 1 ≤ mc) (hs : slots + 6 ≤ ms) :
    W p l e R s m args below meth c H locs cells slots (vx_MQ below Qc XC args s mc ms free) (F0 m pc ls rest) := by
  intro T hT X
  have htr : e.platform.stackTraces = false := (show e.platform.stackTraces = l.stackTraces by rw [X.admits.platform]).trans hl
  have Y := vx_rebase X (R' := { frames := R.frames, locals := R.locals, cells := 1, slots := 6 }) (Nat.le_refl _) (Nat.le_refl _) hRcells hRslots
  obtain ⟨s', hA⟩ : ∃ z, z = (T.setVm s.vm).setFrames (.invoking m args :: below) := ⟨_, rfl⟩
  rw [← hA] at Y
  have hvm : s'.vm = s.vm := by rw [hA]; rfl
  have hhp : s'.heap = H := by rw [hA]; exact hT
  have hW0 : s.WarmedH s'.vm := by rw [hvm]; exact State.WarmedH.refl s
  have hat' : ∀ w ∈ vx_atS own ic cls names, w.before args s' = true := fun w hw => vx_ot_at hW0 hvm.symm (hgood w (List.mem_cons_of_mem _ (List.mem_cons_of_mem _ hw))) (hat w hw)
  have hk' : (Cond.classLink own ik cls).before args s' = true := vx_ot_at hW0 hvm.symm (hgood _ List.mem_cons_self) hk
  have hini' : (Cond.initialized cls).before args s' = true := vx_ot_at hW0 hvm.symm (hgood _ (List.mem_cons_of_mem _ List.mem_cons_self)) hini
  have hU' : vx_Zq Bundle.tN "UNASSIGNED_STACK" Bundle.steD A s' s'.heap := by rw [hhp]; exact vx_Zq.moved hW0.alike (hU.kept hS.2.1)
  have hN' : vx_Zq Bundle.tN "SUPPRESSED_SENTINEL" Bundle.listD A s' s'.heap := by rw [hhp]; exact vx_Zq.moved hW0.alike (hN.kept hS.2.1)
  have h : ∀ w ∈ Bundle.ownAtoms own ic cls names, w.before args s' = true := vx_own hat' (vx_isRefq hU'.1) (vx_isRefq hN'.1) hU'.2.word hN'.2.word
  have hown' : s'.vm.findClass own = some m.cls := by rw [hvm]; exact hown
  have hins : (Cond.instantiable cls 6).before args s' = true := h _ (by simp [Bundle.ownAtoms])
  obtain ⟨vm₁, cX, kX, hfX, hkX, -, -, X₁, st1⟩ := Y.newCold hexec (own := own) (C := cls) (index := ik) (n := 6) hown' hk' hins hini'
    (g := F0 m pc ls rest) rfl (by rw [hb]; exact d0) (Nat.le_refl _) (Nat.le_refl _)
  generalize hT1 : (T.setVm vm₁).pushCell { cls := cX, slots := kX.instanceTypes.map defaultValue, vm := .none } = T1 at X₁ st1
  have hcat : (Value.ref T.heap.size).category = 1 := rfl
  have hcellA : T1.heap[T.heap.size]? = some (freshCell cX kX) := by rw [← hT1]; exact State.heap_pushCell_size _ _
  have d3' : decode c.code (pc + 3) = .ok (.dup, 1) := by rw [hb]; exact d3
  have d4' : decode c.code (pc + 4) = .ok (.ldc_w is, 3) := by rw [hb]; exact d4
  have hstr' : vk_R own is text sa s' := vk_R.warm hW0 hstr
  obtain ⟨U, hsteps, hrun, hend, hW, hsame, ce, hce, hO⟩ := X₁.ctorThrowS hexec htr (own := own) (cls := cls) (names := names) (ic := ic) hown' hcls hnames h (fun x hx => nomatch hx) hfX hkX hcellA (by rw [hhp, hT]; exact Nat.le_refl _) (msg := .ref sa) rfl
    (g := { method := m, pc := pc + 7, locals := ls, stack := .ref sa :: .ref T.heap.size :: .ref T.heap.size :: rest, locked := none }) rfl hsize rfl rfl (rest := rest) rfl
    (by rw [hb]; exact d7) (by rw [hb]; exact d10) hout hRframes (by simp only [List.map_cons, List.sum_cons, hcat]; omega) hlocks
  obtain ⟨f1, f2⟩ := vx_frame hsame
  rw [hhp] at f1 f2
  have hWs : s.WarmedH U.vm := State.WarmedH.trans hW0 hW
  have hcl : s.vm.findClass cls = some ce.cls := by
    have h9 := hO.cls
    rw [hvm] at h9
    exact h9
  have hall : s.sameButNew ({ U with vm := s.vm } : State) locs mc ms := by
    subst hA
    obtain ⟨e1, e2⟩ := hsame
    rw [State.setFrames_setFrames] at e1
    have h2 : (T.setVm s.vm).sameButNew ({ U with vm := s.vm } : State) [] (0 + 1) (0 + 6) := ⟨e1, e2⟩
    have h3 := X.same.trans h2
    rw [List.append_nil] at h3
    exact h3.mono hc hs
  refine ⟨U, ?_, .threw T.heap.size, hrun, hend, Or.inr ⟨T.heap.size, rfl, cls, ce, locs, hx U hWs.alike f1 (fun q hq => f2 q hq (fun z hz => nomatch hz)), hce, hO.vm, hcl, hWs, hall, hf⟩⟩
  refine st1 _ ?_
  show Steps p.tables e below (T1.setTop { method := m, pc := pc + 3, locals := ls, stack := .ref T.heap.size :: rest, locked := none }) _
  jvm_step X₁.here [X₁.here.top, hexec, d3', Value.category]
  exact X₁.ldcStringW hexec (own := own) (text := text) (index := is) (a := sa) hown' hstr'.1 hstr'.2
    (g := { method := m, pc := pc + 4, locals := ls, stack := .ref T.heap.size :: .ref T.heap.size :: rest, locked := none }) rfl d4' _ hsteps
end Ends
section Bodies
variable {l : Launch}
theorem vx_ofW {y : MethodName} {ws ws' : List Cond} {rm : Room} {Pc : Array Value → State → Prop} {Qc : Array Value → State → Outcome → State → Prop} {XC : String → State → State → Prop} {mc ms : Nat} {free : Addr → Prop} {cc : ByteArray} {maxL : Nat} {ret : Option FieldType}
    (hy : plainName y.cls = true) (hw : ws = Cond.code y cc maxL ret :: ws')
    (body : ∀ p e s m args below meth c s₁, BodyLoose p l y (headSpec ws rm) cc maxL ret e s m args below meth c s₁ → c.maxLocals = maxL → (∀ x ∈ c.exceptionTable.toList, False) → Pc args s →
      W p l e (headSpec ws rm).room s m args below meth c s.heap [] 0 0 (vx_MQ below Qc XC args s mc ms free) (entryFrame m args maxL)) : vx_Met l y ws rm Pc Qc XC mc ms free := by
  refine MetFree.of_bodyS (code := cc) (maxLocals := maxL) (ret := ret) hy ?_ ?_
  · intro args s m h hn
    obtain ⟨meth, c, h1, h2, h3, h4, h5, h6, -, -⟩ := Cond.code_spec hn (atoms_spec (ws := ws) h _ (by rw [hw]; exact List.mem_cons_self))
    exact ⟨meth, c, h1, h2, h3, h4, h5, h6⟩
  · intro p e s m args below meth c s₁ B hml hP _
    have hh0 : s₁.heap = s.heap := by rw [B.state]; rfl
    have ht : ∀ x ∈ c.exceptionTable.toList, False := by
      obtain ⟨meth9, c9, h1, h2, -, -, -, -, h7, -⟩ := Cond.code_spec B.named (atoms_spec (ws := ws) B.pre _ (by rw [hw]; exact List.mem_cons_self))
      cases Option.some.inj (h1.symm.trans B.method)
      cases Option.some.inj (h2.symm.trans (Stand.of_body B).code)
      intro x hx
      rw [Array.isEmpty_iff.mp h7] at hx
      cases hx
    obtain ⟨t, a1, o, b1, b2, b3⟩ := body p e s m args below meth c s₁ B hml ht hP s₁ hh0 (Stand.of_body B)
    exact ⟨t, o, a1, b1, b2, b3⟩
/-- the table of a body with handlers -/
theorem vx_table {p : Program} {x y : MethodName} {S : Spec} {cc bytes : ByteArray} {maxL maxL' : Nat} {ret ret' : Option FieldType} {e : Env} {s s₁ : State} {m : MethodId} {args : Array Value} {below : List Frame} {meth : Method} {c : Code} {hh : List (Nat × Nat × Nat × Nat)}
    (B : BodyLoose p l y S cc maxL ret e s m args below meth c s₁) (h : (Cond.codeWith y bytes maxL' ret' hh).before args s = true) : c.exceptionTable.toList = tableOf hh := by
  obtain ⟨m9, meth9, c9, hn9, h1, h2, -, -, h6, -⟩ := Cond.codeWith_spec h
  cases Option.some.inj (hn9.symm.trans B.named)
  cases Option.some.inj (h1.symm.trans B.method)
  cases Option.some.inj (h2.symm.trans (Stand.of_body B).code)
  rw [← h6, table_eq]
end Bodies
end VXA
/-! ===== END ===== -/
/-! ===== BEGIN a static call of a method with an exception table ===== -/
section VXS
variable {p : Program} {l : Launch} {e : Env} {R : Room} {s : State} {m : MethodId} {args : Array Value} {below : List Frame} {meth : Method} {c : Code} {T : State} {H : Heap} {locs : List Loc} {cells slots : Nat}
abbrev vx_CSW (R : Room) (s : State) (args : Array Value) (own : String) (index : Nat) (y : MethodName) (bytes : ByteArray) (maxL : Nat) (ret : Option FieldType) (hh : List (Nat × Nat × Nat × Nat)) (ws : List Cond) (rm : Room) (mc ms n : Nat) : Prop :=
  (rm.cells = mc ∧ rm.slots = ms ∧ rm.frames + 1 ≤ R.frames ∧ 8 + (maxL + 11) + rm.locals ≤ R.locals ∧ (∀ w ∈ ws, ∀ (a' : Array Value) (U : State), s.WarmedH U.vm → w.before a' U = true) ∧ Cond.codeWith y bytes maxL ret hh ∈ ws) ∧
  (Cond.codeWith y bytes maxL ret hh).before args s = true ∧ (Cond.initialized y.cls).before args s = true ∧ (y.cls ≠ "java/lang/invoke/MethodHandle" ∧ y.cls ≠ "java/lang/invoke/VarHandle") ∧
  (∀ sig, parseMethodDescriptor y.desc = some sig → n = sig.parameters.length) ∧ (Cond.methodLink own index y).before args s = true ∧ (Cond.static y).before args s = true
theorem vx_cwSW {own : String} {index maxL mc ms : Nat} {y : MethodName} {bytes : ByteArray} {ret : Option FieldType} {hh : List (Nat × Nat × Nat × Nat)} {Ts ws ws' : List Cond} {rm : Room} (n : Nat) (ht : ∀ w ∈ Ts, w.before args s = true) (hT : GoodIn Ts (va_wsS own index y ws)) (hw : ws = Cond.codeWith y bytes maxL ret hh :: ws') (hrc : rm.cells = mc) (hrs : rm.slots = ms)
    (hd : y.cls ≠ "java/lang/invoke/MethodHandle" ∧ y.cls ≠ "java/lang/invoke/VarHandle" ∧ (parseMethodDescriptor y.desc).map (fun d => d.parameters.length) = some n) (hR : rm.frames + 1 ≤ R.frames ∧ 8 + (maxL + 11) + rm.locals ≤ R.locals) :
    vx_CSW R s args own index y bytes maxL ret hh ws rm mc ms n := by
  have ok : ∀ w ∈ va_wsS own index y ws, w.before args s = true := fun w h => ht w (hT w h).1
  have hG : GoodIn Ts ws := fun w h => hT w (by unfold va_wsS; exact List.mem_append_right _ h)
  have hc : Cond.codeWith y bytes maxL ret hh ∈ ws := by rw [hw]; exact List.mem_cons_self
  refine ⟨⟨hrc, hrs, hR.1, hR.2, pay_in ht hG, hc⟩, ht _ (hG _ hc).1, ok _ (by simp [va_wsS]), ⟨hd.1, hd.2.1⟩, fun sig h => ?_, ok _ (by simp [va_wsS]), ok _ (by simp [va_wsS])⟩
  have h2 := hd.2.2
  rw [h] at h2
  exact (Option.some.inj h2).symm
theorem vx_callSW (X : Stand p l e R s m args below meth c T locs cells slots) (hexec : p.tables.exec = Jvm.exec) {own : String} {index : Nat} {y : MethodName} {bytes : ByteArray} {maxL : Nat} {ret : Option FieldType} {hh : List (Nat × Nat × Nat × Nat)}
    (hown : s.vm.findClass own = some m.cls) (hlink : (Cond.methodLink own index y).before args s = true) (hstat : (Cond.static y).before args s = true) (hinit : (Cond.initialized y.cls).before args s = true)
    (hcode : (Cond.codeWith y bytes maxL ret hh).before args s = true) (hy : y.cls ≠ "java/lang/invoke/MethodHandle" ∧ y.cls ≠ "java/lang/invoke/VarHandle")
    {W9 : Nat} {Pre : Pt → Array Value → Prop} {Post : Pt → Array Value → Option Value → Pt → Prop} (hK : Back l R p e below s args y 3 W9 Pre Post)
    {g : JFrame} (hg : g.method = m) (hsize : g.locals.size = c.maxLocals) {argsL rest : List Value} (hlen : ∀ sig, parseMethodDescriptor y.desc = some sig → argsL.length = sig.parameters.length)
    (hstack : g.stack = argsL.reverse ++ rest) (hW : 2 * g.monitorRoom + (rest.map fun v => v.category).sum ≤ W9) (hdg : decode c.code g.pc = .ok (.invokestatic index, 3))
    (hpre : ∀ vm₁, s.WarmedH vm₁ → Pre ⟨T.setVm vm₁, locs, cells, slots⟩ argsL.toArray) :
    ∃ (v : Option Value) (vm₁ : Vm) (B : Pt), s.WarmedH vm₁ ∧ Stand p l e R s m args below meth c B.U B.locs B.cells B.slots ∧ Post ⟨T.setVm vm₁, locs, cells, slots⟩ argsL.toArray v B ∧
      ∀ target, Steps p.tables e below (B.U.setTop { g with pc := g.pc + 3, stack := v.toList ++ rest }) target → Steps p.tables e below (T.setTop g) target := by
  obtain ⟨mk, methM, cM, hnamed, hmethM, -, -, -, -, -, -, hsigM⟩ := Cond.codeWith_spec hcode
  have hstatic : methM.isStatic = true := Cond.static_spec hnamed hmethM hstat
  obtain ⟨kP, hkP, -⟩ := className_of_methodNamed hnamed
  have hinitP : kP.init = .initialized := Cond.initialized_spec (findClass_of_methodNamed hnamed) hkP hinit
  obtain ⟨vm₁, X₁, hstep₁⟩ := X.invokestatic hexec hown hlink hnamed hmethM hstatic hkP hinitP hy (g := g) hg (argsL := argsL) (rest := rest) (hlen _ hsigM) hstack hdg
  obtain ⟨v, B, X', hpost, hsteps⟩ := hK m meth c ⟨T.setVm vm₁, locs, cells, slots⟩ { g with stack := rest } (.invokestatic index) mk argsL.toArray X₁ hg hsize hdg hW (X₁.named hnamed) (hpre vm₁ X₁.warmed)
  exact ⟨v, vm₁, B, X₁.warmed, X', hpost, fun target h => hstep₁ _ fun acts => by rw [doInvoke_state]; exact hsteps.trans h⟩
theorem vx_runSW {y : MethodName} {bytes cc : ByteArray} {maxL nL mc ms n index : Nat} {ret : Option FieldType} {hh : List (Nat × Nat × Nat × Nat)} {ws : List Cond} {rm : Room} {Pc : Array Value → State → Prop} {Qc : Array Value → State → Outcome → State → Prop} {free : Addr → Prop} {Ts : List Cond} {own : String} {As rest : List Value} {g : JFrame}
    (S : CallFix p m c cc nL s args Ts own) (hM : Met l y ws rm Pc Qc mc ms free) (cw : vx_CSW R s args own index y bytes maxL ret hh ws rm mc ms n) (hp : PreS s H Pc As)
    (hg : g.method = m) (hn : As.length = n) (hsize : g.locals.size = nL) (hstack : g.stack = As.reverse ++ rest) (hW : 2 * g.monitorRoom + (rest.map fun v => v.category).sum ≤ 8) (hdg : decode cc g.pc = .ok (.invokestatic index, 3)) (hf : cells + mc ≤ R.cells ∧ slots + ms ≤ R.slots) :
    va_Run p l e R s m args below meth c H locs cells slots mc ms g rest (Qc As.toArray) (free) := by
  obtain ⟨⟨hrc, hrs, hfr, hlo, hws, hcw⟩, hcode, hini, hy, hlen, hl, hstt⟩ := cw
  have hK : Back l R p e below s args y 3 8 (PreOf R mc ms Pc) (PostOf Qc mc ms free) := va_backW (hh := hh) (bytes := bytes) (maxL := maxL) (ret := ret) hM hp.1 hrc hrs hfr hlo hws hcw (fun a' U hW => word_at hW (Or.inl (by first | rfl | simp [Cond.onTables, Cond.keeps, Cond.steady])) hini)
  obtain ⟨hx, hb, hml, ho, -⟩ := S
  intro T hT X
  obtain ⟨v, vm₁, ⟨U', l2, c2, s2⟩, hW₁, X', ⟨g', mk, t, L, e1, e2, hq, h1, hL, h2, h3⟩, st⟩ := vx_callSW X hx (hh := hh) (bytes := bytes) (maxL := maxL) (ret := ret) ho hl hstt hini hcode hy hK hg (hsize.trans hml.symm) (argsL := As) (rest := rest) (fun sig h => hn.trans (hlen sig h)) hstack hW (by rw [hb]; exact hdg)
    (fun vm₁ hW₁ => ⟨hf.1, hf.2, hp.2 (T.setVm vm₁) hT hW₁⟩)
  dsimp only [Pt.U, Pt.locs, Pt.cells, Pt.slots] at X' e1 e2 h1 h2 h3 st
  subst h1; subst h2; subst h3
  exact ⟨v, (T.setVm vm₁).calling g' mk As.toArray, t, U', L, hT, X', hL, e1, e2, hq, st⟩
/-- not caught here, past rows that name other classes: it goes on to the caller -/
theorem vx_outP {p : Program} {l : Launch} {e : Env} {R : Room} {s : State} {m : MethodId} {args : Array Value} {below : List Frame} {meth : Method} {c : Code} {H : Heap} {locs : List Loc} {cells slots : Nat} {free : Addr → Prop} {ls : Array Slot} {rest : List Value} {Qc : Array Value → State → Outcome → State → Prop} {XC : String → State → State → Prop}
    {pc : Nat} {own E : String} {ce : Cell} {q : Addr} {mc ms : Nat} (hown : s.vm.findClass own = some m.cls) (hlocks : meth.locks = false)
    (hpass : ∀ z ∈ c.exceptionTable.toList, covers z pc = false ∨ (z.catchType ≠ 0 ∧ ∃ nm : String, (Cond.classLink own z.catchType nm).before args s = true ∧ va_Nc E nm s)) (hcell : H[q]? = some ce) (hv : ce.vm = .none) (hcl : s.vm.findClass E = some ce.cls)
    (hx : ∀ t : State, t.heap = H → s.vm.Alike t.vm → XC E s t) (hf : ∀ z ∈ locs, free z.base) (hc : cells ≤ mc) (hs : slots ≤ ms) :
    vx_W p l e R s m args below meth c H locs cells slots (vx_MQ below Qc XC args s mc ms free) (F0 m pc ls rest) q := by
  intro T hT X
  have hpl : e.platform.magicAccessors = ({} : Platform).magicAccessors := by rw [X.admits.platform]
  obtain ⟨vm', hW', X', st⟩ := X.outThrough hlocks q (g := F0 m pc ls rest) rfl rfl rfl (cell := ce) (by rw [hT]; exact hcell) (by rw [hv]; rfl)
    (by obtain ⟨k9, h9, -⟩ := Vm.findClass_spec hcl; exact ⟨k9, h9⟩) (fun z hz => by
      rcases hpass z hz with h | ⟨hz0, nm, hl1, hn1⟩
      · exact Or.inl h
      · obtain ⟨c6, hc6, hcl6⟩ := Cond.classLink_spec hown hl1 e.platform hpl
        obtain ⟨a8, b8, h1, h2, h3⟩ := hn1
        cases Option.some.inj (h1.symm.trans hcl)
        cases Option.some.inj (h2.symm.trans hc6)
        exact Or.inr ⟨hz0, _, hcl6, h3⟩)
  obtain ⟨g₀, hfr⟩ := X'.frames_eq
  have hcell9 : ((T.setVm vm').setFrames (.throwing q :: below)).heap[q]? = some ce := by
    show T.heap[q]? = some ce
    rw [hT]; exact hcell
  have hend : Ended ((T.setVm vm').setFrames (.throwing q :: below)) below (.threw q) := State.frames_setFrames _ (State.cur_lt_of_frames hfr)
  refine ⟨(T.setVm vm').setFrames (.throwing q :: below), ?_, .threw q, X'.here.running, hend, Or.inr ⟨q, rfl, E, ce, locs, hx _ hT (X'.ends _).1.alike, hcell9, hv, hcl, (X'.ends _).1, (X'.ends _).2.mono hc hs, hf⟩⟩
  rw [X.pushThrowing_eq]
  exact st
/-- a thing of a world lies in the heap -/
theorem vx_lt {D : va_G} {cl : List vw_C} {ws : va_W} {H1 : Heap} (h : va_P D cl ws H1) {k : Nat} {q : Nat × va_E} (hk : ws[k]? = some q) : q.1 < H1.size := (h k q hk).lt
end VXS
/-! ===== END ===== -/
/-! ===== BEGIN methods with a table of their own: called by a name, returning or throwing ===== -/
section VXH
/-! vx_backW, vx_callVX, vx_callSX, vx_callVW, vx_runVW, vx_runVX, vx_runSX, vx_ofWH follow the same proofs as their sisters above (Free/Laws.lean, Shelf42/LK1.lean); vx_outP calls Shelf42/NT130.lean (outThrough). -/
section
variable {l : Launch} {R : Room} {p : Program} {e : Env} {below : List Frame} {s : State} {sargs : Array Value} {y : MethodName} {len W9 : Nat}
theorem vx_backW {ws : List Cond} {rm : Room} {Pc : Array Value → State → Prop} {Qc : Array Value → State → Outcome → State → Prop} {XC : String → State → State → Prop} {mc ms : Nat} {free : Addr → Prop} {bytes : ByteArray} {maxL : Nat} {ret : Option FieldType} {hh : List (Nat × Nat × Nat × Nat)}
    (hM : vx_Met l y ws rm Pc Qc XC mc ms free) (hblind : FrameBlind Pc) (hrc : rm.cells = mc) (hrs : rm.slots = ms)
    (hframes : rm.frames + 1 ≤ R.frames) (hlocals : W9 + (maxL + 11) + rm.locals ≤ R.locals)
    (hws : ∀ w ∈ ws, ∀ a' U, s.WarmedH U.vm → w.before a' U = true) (hcode : Cond.codeWith y bytes maxL ret hh ∈ ws) (hinit : ∀ a' U, s.WarmedH U.vm → (Cond.initialized y.cls).before a' U = true) :
    vx_Back l R p e below s sargs y len W9 (PreOf R mc ms Pc) (PostOf Qc mc ms free) (vx_Post XC mc ms free) := by
  intro m meth c A g ig mk a X hg hsize hdg hW hn hp
  have h1 : (headSpec ws rm).pre.before a A.U = true := atoms_intro fun w hw => hws w hw _ _ X.warmed
  have h2 : (Cond.codeWith y bytes maxL ret hh).before a A.U = true := hws _ hcode _ _ X.warmed
  have h3 : (Cond.initialized y.cls).before a A.U = true := hinit _ _ X.warmed
  have h4 : A.cells + (headSpec ws rm).room.cells ≤ R.cells := by rw [show (headSpec ws rm).room.cells = mc from hrc]; exact hp.1
  have h5 : A.slots + (headSpec ws rm).room.slots ≤ R.slots := by rw [show (headSpec ws rm).room.slots = ms from hrs]; exact hp.2.1
  have hPc : Pc a (A.U.calling g mk a) := hblind _ _ _ _ hp.2.2
  obtain ⟨U, Ls, c0, s0⟩ := A
  dsimp only [Pt.U, Pt.locs, Pt.cells, Pt.slots] at h1 h2 h3 h4 h5 X hn hPc ⊢
  obtain ⟨m9, methY, cY, hn9, hmY, hcY, -, hlY, -⟩ := Cond.codeWith_spec h2
  cases Option.some.inj (hn9.symm.trans hn)
  obtain ⟨kY, hkY, -⟩ := className_of_methodNamed hn
  have hinitY : kY.init = .initialized := Cond.initialized_spec (findClass_of_methodNamed hn) hkY h3
  have h : At U g.method c below := by rw [hg]; exact X.here
  have hlocals9 : W9 + (maxL + 11) + (headSpec ws rm).room.locals ≤ R.locals := hlocals
  have happ : (headSpec ws rm).appliesLoose y e.platform (U.calling g mk a) = true :=
    Spec.appliesLoose_calling (g := g) h hdg hn hkY hinitY
      (X.room_calling (g := g) (R' := (headSpec ws rm).room) hsize hmY hcY hframes (by rw [hlY]; omega) h4 h5) h1
  obtain ⟨mid, hmid⟩ := h.above
  have hfr : (U.setTop g).frames = (.java g :: mid) ++ below := by rw [State.frames_setTop' g h.top, hmid]; rfl
  obtain ⟨o, s₂, hsteps, -, hend, hq⟩ := Steps.callFree hM p X.admits X.cas X.clock (acts := []) hfr happ hPc trivial
  have hq' : vx_Q Qc XC mc ms free a (U.calling g mk a) o s₂ := hq
  rw [State.frames_setTop' g h.top] at hend
  obtain ⟨g₀, hg0⟩ := Option.isSome_iff_exists.mp h.top
  obtain ⟨r, hr⟩ := State.topJava?_eq_some.mp hg0
  have hr' : (({ U with heap := s₂.heap, slotsUsed := s₂.slotsUsed } : State).setVm s₂.vm).frames = .java g₀ :: r := hr
  rcases hq' with ⟨hqc, L, hfe, hL⟩ | ⟨q, rfl, E, ce, L, hx, hce, hcv, hcl, hW₂, hsm, hL⟩
  · obtain ⟨⟨v, rfl⟩, hW₂, e2, q2, q3, q4, q5, q6⟩ := id hfe
    have e3 : s₂ = ({ (U.calling g mk a).setFrames s₂.frames with heap := s₂.heap, slotsUsed := s₂.slotsUsed } : State).setVm s₂.vm := by
      have : s₂ = ({ s₂ with vm := (U.calling g mk a).vm } : State).setVm s₂.vm := rfl
      rw [e2] at this
      exact this
    obtain ⟨c₂, i₂, len₂, hc₂, hd₂, hf₂⟩ := hend
    have hW' : U.WarmedH s₂.vm := hW₂
    have hcc : c₂ = c := by
      have h1 : s₂.code? g.method = U.code? g.method := by
        rw [State.code?_eq, State.code?_eq, hW'.alike.method?]
      exact Option.some.inj (hc₂.symm.trans (h1.trans h.code))
    subst hcc
    have hlen : len₂ = len := by rw [hdg] at hd₂; cases hd₂; rfl
    subst hlen
    have hs₂ : s₂ = (({ U with heap := s₂.heap, slotsUsed := s₂.slotsUsed } : State).setVm s₂.vm).setTop { g with pc := g.pc + len₂, stack := v.toList ++ g.stack } := by
      refine e3.trans ?_
      rw [hf₂, State.calling_eq h.top, State.setFrames_setFrames, State.setTop_of_frames _ hr', hr]
      rfl
    have hsame : U.sameButNew ({ U with heap := s₂.heap, slotsUsed := s₂.slotsUsed } : State) L mc ms := by
      refine ⟨?_, q2, q3, q4, q5, q6⟩
      obtain ⟨t, ht, -⟩ := State.frames_cons hr
      show ({ U with heap := s₂.heap, slotsUsed := s₂.slotsUsed } : State) = { U.setFrames U.frames with heap := s₂.heap, slotsUsed := s₂.slotsUsed }
      rw [State.setFrames_self ht]
    subst hg
    refine Or.inl ⟨v, ⟨(({ U with heap := s₂.heap, slotsUsed := s₂.slotsUsed } : State).setVm s₂.vm), Ls ++ L, c0 + mc, s0 + ms⟩,
      ⟨X.admits, X.cas, X.clock, X.frames, X.room, X.hears, X.method, X.code, (X.here.setHeapUsed s₂.heap s₂.slotsUsed).setVm hW'.alike, X.tail, State.WarmedH.trans X.warmed hW', X.limits, X.bytes, X.same.trans (hsame.setVm s.vm)⟩,
      ⟨g, mk, s₂, L, rfl, rfl, hqc, rfl, hL, rfl, rfl⟩, ?_⟩
    show Steps p.tables e below _ ((({ U with heap := s₂.heap, slotsUsed := s₂.slotsUsed } : State).setVm s₂.vm).setTop { g with pc := g.pc + len₂, stack := v.toList ++ g.stack })
    rw [← hs₂]
    exact hsteps
  · obtain ⟨e2, q2, q3, q4, q5, q6⟩ := id hsm
    have e3 : s₂ = ({ (U.calling g mk a).setFrames s₂.frames with heap := s₂.heap, slotsUsed := s₂.slotsUsed } : State).setVm s₂.vm := by
      have : s₂ = ({ s₂ with vm := (U.calling g mk a).vm } : State).setVm s₂.vm := rfl
      rw [e2] at this
      exact this
    have hf₂ : s₂.frames = .throwing q :: .java g :: U.frames.tail := hend
    have hW' : U.WarmedH s₂.vm := hW₂
    have hs₂ : s₂ = ((({ U with heap := s₂.heap, slotsUsed := s₂.slotsUsed } : State).setVm s₂.vm).setTop g).pushFrame (.throwing q) := by
      refine e3.trans ?_
      rw [hf₂, State.calling_eq h.top, State.setFrames_setFrames, State.pushFrame, State.frames_setTop _ hr', State.setTop_of_frames _ hr', State.setFrames_setFrames, hr]
      rfl
    have hsame : U.sameButNew ({ U with heap := s₂.heap, slotsUsed := s₂.slotsUsed } : State) L mc ms := by
      refine ⟨?_, q2, q3, q4, q5, q6⟩
      obtain ⟨t, ht, -⟩ := State.frames_cons hr
      show ({ U with heap := s₂.heap, slotsUsed := s₂.slotsUsed } : State) = { U.setFrames U.frames with heap := s₂.heap, slotsUsed := s₂.slotsUsed }
      rw [State.setFrames_self ht]
    subst hg
    refine Or.inr ⟨q, ⟨(({ U with heap := s₂.heap, slotsUsed := s₂.slotsUsed } : State).setVm s₂.vm), Ls ++ L, c0 + mc, s0 + ms⟩,
      ⟨X.admits, X.cas, X.clock, X.frames, X.room, X.hears, X.method, X.code, (X.here.setHeapUsed s₂.heap s₂.slotsUsed).setVm hW'.alike, X.tail, State.WarmedH.trans X.warmed hW', X.limits, X.bytes, X.same.trans (hsame.setVm s.vm)⟩,
      ⟨g, mk, s₂, L, E, ce, rfl, rfl, hx, hce, hcv, hcl, rfl, hL, rfl, rfl⟩, ?_⟩
    show Steps p.tables e below _ (((({ U with heap := s₂.heap, slotsUsed := s₂.slotsUsed } : State).setVm s₂.vm).setTop g).pushFrame (.throwing q))
    rw [← hs₂]
    exact hsteps
end
variable {p : Program} {l : Launch} {e : Env} {R : Room} {s : State} {m : MethodId} {args : Array Value} {below : List Frame} {meth : Method} {c : Code} {T : State} {H : Heap} {locs : List Loc} {cells slots : Nat}
theorem vx_callVX (X : Stand p l e R s m args below meth c T locs cells slots) (hexec : p.tables.exec = Jvm.exec) {own C : String} {index : Nat} {y : MethodName} {bytes : ByteArray} {maxL : Nat} {ret : Option FieldType} {hh : List (Nat × Nat × Nat × Nat)}
    (hown : s.vm.findClass own = some m.cls) (hlink : (Cond.methodLink own index y).before args s = true) (hinst : (Cond.instanceMethod y).before args s = true) (hsel : (Cond.selects C y y).before args s = true)
    (hcode : (Cond.codeWith y bytes maxL ret hh).before args s = true) (hy : y.cls ≠ "java/lang/invoke/MethodHandle" ∧ y.cls ≠ "java/lang/invoke/VarHandle")
    {W9 : Nat} {Pre : Pt → Array Value → Prop} {Post : Pt → Array Value → Option Value → Pt → Prop} {PostX : Pt → Array Value → Addr → Pt → Prop} (hK : vx_Back l R p e below s args y 3 W9 Pre Post PostX)
    {b : Addr} {cellB : Cell} (hcell : T.heap[b]? = some cellB) (hobj : cellB.vm.isStatics = false) (hcls : s.vm.findClass C = some cellB.cls)
    {g : JFrame} (hg : g.method = m) (hsize : g.locals.size = c.maxLocals) {argsL rest : List Value} (hlen : ∀ sig, parseMethodDescriptor y.desc = some sig → argsL.length = sig.parameters.length)
    (hstack : g.stack = argsL.reverse ++ .ref b :: rest) (hW : 2 * g.monitorRoom + (rest.map fun v => v.category).sum ≤ W9) (hdg : decode c.code g.pc = .ok (.invokevirtual index, 3))
    (hpre : ∀ vm₁, s.WarmedH vm₁ → Pre ⟨T.setVm vm₁, locs, cells, slots⟩ (Value.ref b :: argsL).toArray) :
    (∃ (v : Option Value) (vm₁ : Vm) (B : Pt), s.WarmedH vm₁ ∧ Stand p l e R s m args below meth c B.U B.locs B.cells B.slots ∧ Post ⟨T.setVm vm₁, locs, cells, slots⟩ (Value.ref b :: argsL).toArray v B ∧
      ∀ target, Steps p.tables e below (B.U.setTop { g with pc := g.pc + 3, stack := v.toList ++ rest }) target → Steps p.tables e below (T.setTop g) target) ∨
    (∃ (q : Addr) (vm₁ : Vm) (B : Pt), s.WarmedH vm₁ ∧ Stand p l e R s m args below meth c B.U B.locs B.cells B.slots ∧ PostX ⟨T.setVm vm₁, locs, cells, slots⟩ (Value.ref b :: argsL).toArray q B ∧
      Steps p.tables e below (T.setTop g) ((B.U.setTop { g with stack := rest }).pushFrame (.throwing q))) := by
  obtain ⟨mk, methM, hnamed, hmethM, hstM, habM⟩ := Cond.instanceMethod_spec hinst
  obtain ⟨m8, methM', cM, hn8, hmethM', -, -, -, -, -, -, hsigM⟩ := Cond.codeWith_spec hcode
  cases Option.some.inj (hn8.symm.trans hnamed)
  cases hmethM.symm.trans hmethM'
  obtain ⟨c2, r2, m2, q1, q2, q3, q4, kP, hkP, hkPi⟩ := Cond.selects_spec hsel
  cases hcls.symm.trans q1
  cases (State.methodFound?_of_named hnamed hy).symm.trans q2
  cases hnamed.symm.trans q3
  have hselP : selectMethod e.platform s.vm cellB.cls mk = .method mk := by rw [Launch.admits_selectMethod X.admits]; exact q4
  obtain ⟨vm₁, X₁, hstep₁⟩ := X.invokevirtual hexec hown hlink hnamed hmethM hstM hkP hkPi hy (a := b) (cell := cellB) hcell
    (fun z h => by rw [h] at hobj; cases hobj) hselP hmethM habM hkP hkPi (g := g) hg (argsL := argsL) (rest := rest) (hlen _ hsigM) hstack hdg
  rcases hK m meth c ⟨T.setVm vm₁, locs, cells, slots⟩ { g with stack := rest } (.invokevirtual index) mk (Value.ref b :: argsL).toArray X₁ hg hsize hdg hW (X₁.named hnamed) (hpre vm₁ X₁.warmed) with ⟨v, B, X', hpost, hsteps⟩ | ⟨q, B, X', hpost, hsteps⟩
  · exact Or.inl ⟨v, vm₁, B, X₁.warmed, X', hpost, fun target h => hstep₁ _ fun acts => by rw [doInvoke_state]; exact hsteps.trans h⟩
  · exact Or.inr ⟨q, vm₁, B, X₁.warmed, X', hpost, hstep₁ _ fun acts => by rw [doInvoke_state]; exact hsteps⟩
theorem vx_callSX (X : Stand p l e R s m args below meth c T locs cells slots) (hexec : p.tables.exec = Jvm.exec) {own : String} {index : Nat} {y : MethodName} {bytes : ByteArray} {maxL : Nat} {ret : Option FieldType} {hh : List (Nat × Nat × Nat × Nat)}
    (hown : s.vm.findClass own = some m.cls) (hlink : (Cond.methodLink own index y).before args s = true) (hstat : (Cond.static y).before args s = true) (hinit : (Cond.initialized y.cls).before args s = true)
    (hcode : (Cond.codeWith y bytes maxL ret hh).before args s = true) (hy : y.cls ≠ "java/lang/invoke/MethodHandle" ∧ y.cls ≠ "java/lang/invoke/VarHandle")
    {W9 : Nat} {Pre : Pt → Array Value → Prop} {Post : Pt → Array Value → Option Value → Pt → Prop} {PostX : Pt → Array Value → Addr → Pt → Prop} (hK : vx_Back l R p e below s args y 3 W9 Pre Post PostX)
    {g : JFrame} (hg : g.method = m) (hsize : g.locals.size = c.maxLocals) {argsL rest : List Value} (hlen : ∀ sig, parseMethodDescriptor y.desc = some sig → argsL.length = sig.parameters.length)
    (hstack : g.stack = argsL.reverse ++ rest) (hW : 2 * g.monitorRoom + (rest.map fun v => v.category).sum ≤ W9) (hdg : decode c.code g.pc = .ok (.invokestatic index, 3))
    (hpre : ∀ vm₁, s.WarmedH vm₁ → Pre ⟨T.setVm vm₁, locs, cells, slots⟩ argsL.toArray) :
    (∃ (v : Option Value) (vm₁ : Vm) (B : Pt), s.WarmedH vm₁ ∧ Stand p l e R s m args below meth c B.U B.locs B.cells B.slots ∧ Post ⟨T.setVm vm₁, locs, cells, slots⟩ argsL.toArray v B ∧
      ∀ target, Steps p.tables e below (B.U.setTop { g with pc := g.pc + 3, stack := v.toList ++ rest }) target → Steps p.tables e below (T.setTop g) target) ∨
    (∃ (q : Addr) (vm₁ : Vm) (B : Pt), s.WarmedH vm₁ ∧ Stand p l e R s m args below meth c B.U B.locs B.cells B.slots ∧ PostX ⟨T.setVm vm₁, locs, cells, slots⟩ argsL.toArray q B ∧
      Steps p.tables e below (T.setTop g) ((B.U.setTop { g with stack := rest }).pushFrame (.throwing q))) := by
  obtain ⟨mk, methM, cM, hnamed, hmethM, -, -, -, -, -, -, hsigM⟩ := Cond.codeWith_spec hcode
  have hstatic : methM.isStatic = true := Cond.static_spec hnamed hmethM hstat
  obtain ⟨kP, hkP, -⟩ := className_of_methodNamed hnamed
  have hinitP : kP.init = .initialized := Cond.initialized_spec (findClass_of_methodNamed hnamed) hkP hinit
  obtain ⟨vm₁, X₁, hstep₁⟩ := X.invokestatic hexec hown hlink hnamed hmethM hstatic hkP hinitP hy (g := g) hg (argsL := argsL) (rest := rest) (hlen _ hsigM) hstack hdg
  rcases hK m meth c ⟨T.setVm vm₁, locs, cells, slots⟩ { g with stack := rest } (.invokestatic index) mk argsL.toArray X₁ hg hsize hdg hW (X₁.named hnamed) (hpre vm₁ X₁.warmed) with ⟨v, B, X', hpost, hsteps⟩ | ⟨q, B, X', hpost, hsteps⟩
  · exact Or.inl ⟨v, vm₁, B, X₁.warmed, X', hpost, fun target h => hstep₁ _ fun acts => by rw [doInvoke_state]; exact hsteps.trans h⟩
  · exact Or.inr ⟨q, vm₁, B, X₁.warmed, X', hpost, hstep₁ _ fun acts => by rw [doInvoke_state]; exact hsteps⟩
theorem vx_callVW (X : Stand p l e R s m args below meth c T locs cells slots) (hexec : p.tables.exec = Jvm.exec) {own C : String} {index : Nat} {y : MethodName} {bytes : ByteArray} {maxL : Nat} {ret : Option FieldType} {hh : List (Nat × Nat × Nat × Nat)}
    (hown : s.vm.findClass own = some m.cls) (hlink : (Cond.methodLink own index y).before args s = true) (hinst : (Cond.instanceMethod y).before args s = true) (hsel : (Cond.selects C y y).before args s = true)
    (hcode : (Cond.codeWith y bytes maxL ret hh).before args s = true) (hy : y.cls ≠ "java/lang/invoke/MethodHandle" ∧ y.cls ≠ "java/lang/invoke/VarHandle")
    {W9 : Nat} {Pre : Pt → Array Value → Prop} {Post : Pt → Array Value → Option Value → Pt → Prop} (hK : Back l R p e below s args y 3 W9 Pre Post)
    {b : Addr} {cellB : Cell} (hcell : T.heap[b]? = some cellB) (hobj : cellB.vm.isStatics = false) (hcls : s.vm.findClass C = some cellB.cls)
    {g : JFrame} (hg : g.method = m) (hsize : g.locals.size = c.maxLocals) {argsL rest : List Value} (hlen : ∀ sig, parseMethodDescriptor y.desc = some sig → argsL.length = sig.parameters.length)
    (hstack : g.stack = argsL.reverse ++ .ref b :: rest) (hW : 2 * g.monitorRoom + (rest.map fun v => v.category).sum ≤ W9) (hdg : decode c.code g.pc = .ok (.invokevirtual index, 3))
    (hpre : ∀ vm₁, s.WarmedH vm₁ → Pre ⟨T.setVm vm₁, locs, cells, slots⟩ (Value.ref b :: argsL).toArray) :
    ∃ (v : Option Value) (vm₁ : Vm) (B : Pt), s.WarmedH vm₁ ∧ Stand p l e R s m args below meth c B.U B.locs B.cells B.slots ∧ Post ⟨T.setVm vm₁, locs, cells, slots⟩ (Value.ref b :: argsL).toArray v B ∧
      ∀ target, Steps p.tables e below (B.U.setTop { g with pc := g.pc + 3, stack := v.toList ++ rest }) target → Steps p.tables e below (T.setTop g) target := by
  obtain ⟨mk, methM, hnamed, hmethM, hstM, habM⟩ := Cond.instanceMethod_spec hinst
  obtain ⟨m8, methM', cM, hn8, hmethM', -, -, -, -, -, -, hsigM⟩ := Cond.codeWith_spec hcode
  cases Option.some.inj (hn8.symm.trans hnamed)
  cases hmethM.symm.trans hmethM'
  obtain ⟨c2, r2, m2, q1, q2, q3, q4, kP, hkP, hkPi⟩ := Cond.selects_spec hsel
  cases hcls.symm.trans q1
  cases (State.methodFound?_of_named hnamed hy).symm.trans q2
  cases hnamed.symm.trans q3
  have hselP : selectMethod e.platform s.vm cellB.cls mk = .method mk := by rw [Launch.admits_selectMethod X.admits]; exact q4
  obtain ⟨vm₁, X₁, hstep₁⟩ := X.invokevirtual hexec hown hlink hnamed hmethM hstM hkP hkPi hy (a := b) (cell := cellB) hcell
    (fun z h => by rw [h] at hobj; cases hobj) hselP hmethM habM hkP hkPi (g := g) hg (argsL := argsL) (rest := rest) (hlen _ hsigM) hstack hdg
  obtain ⟨v, B, X', hpost, hsteps⟩ := hK m meth c ⟨T.setVm vm₁, locs, cells, slots⟩ { g with stack := rest } (.invokevirtual index) mk (Value.ref b :: argsL).toArray X₁ hg hsize hdg hW (X₁.named hnamed) (hpre vm₁ X₁.warmed)
  exact ⟨v, vm₁, B, X₁.warmed, X', hpost, fun target h => hstep₁ _ fun acts => by rw [doInvoke_state]; exact hsteps.trans h⟩
abbrev vx_CVW (R : Room) (s : State) (args : Array Value) (own C : String) (index : Nat) (y : MethodName) (bytes : ByteArray) (maxL : Nat) (ret : Option FieldType) (hh : List (Nat × Nat × Nat × Nat)) (ws : List Cond) (rm : Room) (mc ms n : Nat) : Prop :=
  (rm.cells = mc ∧ rm.slots = ms ∧ rm.frames + 1 ≤ R.frames ∧ 8 + (maxL + 11) + rm.locals ≤ R.locals ∧ (∀ w ∈ ws, ∀ (a' : Array Value) (U : State), s.WarmedH U.vm → w.before a' U = true) ∧ Cond.codeWith y bytes maxL ret hh ∈ ws) ∧
  (Cond.codeWith y bytes maxL ret hh).before args s = true ∧ (Cond.initialized y.cls).before args s = true ∧ (y.cls ≠ "java/lang/invoke/MethodHandle" ∧ y.cls ≠ "java/lang/invoke/VarHandle") ∧
  (∀ sig, parseMethodDescriptor y.desc = some sig → n = sig.parameters.length) ∧ (Cond.methodLink own index y).before args s = true ∧ (Cond.instanceMethod y).before args s = true ∧ (Cond.selects C y y).before args s = true
theorem vx_cwVW {own C : String} {index maxL mc ms : Nat} {y : MethodName} {bytes : ByteArray} {ret : Option FieldType} {hh : List (Nat × Nat × Nat × Nat)} {Ts ws ws' : List Cond} {rm : Room} (n : Nat) (ht : ∀ w ∈ Ts, w.before args s = true) (hT : GoodIn Ts (wsV own index C y ws)) (hw : ws = Cond.codeWith y bytes maxL ret hh :: ws') (hrc : rm.cells = mc) (hrs : rm.slots = ms)
    (hd : y.cls = C ∧ y.cls ≠ "java/lang/invoke/MethodHandle" ∧ y.cls ≠ "java/lang/invoke/VarHandle" ∧ (parseMethodDescriptor y.desc).map (fun d => d.parameters.length) = some n) (hR : rm.frames + 1 ≤ R.frames ∧ 8 + (maxL + 11) + rm.locals ≤ R.locals) :
    vx_CVW R s args own C index y bytes maxL ret hh ws rm mc ms n := by
  obtain ⟨hC, hd⟩ := hd
  subst hC
  have ok : ∀ w ∈ wsV own index y.cls y ws, w.before args s = true := fun w h => ht w (hT w h).1
  have hG : GoodIn Ts ws := fun w h => hT w (by unfold wsV; exact List.mem_append_right _ h)
  have hc : Cond.codeWith y bytes maxL ret hh ∈ ws := by rw [hw]; exact List.mem_cons_self
  refine ⟨⟨hrc, hrs, hR.1, hR.2, pay_in ht hG, hc⟩, ht _ (hG _ hc).1, ok _ (by simp [wsV]), ⟨hd.1, hd.2.1⟩, fun sig h => ?_, ok _ (by simp [wsV]), ok _ (by simp [wsV]), ok _ (by simp [wsV])⟩
  have h2 := hd.2.2
  rw [h] at h2
  exact (Option.some.inj h2).symm
theorem vx_runVW {y : MethodName} {bytes cc : ByteArray} {maxL nL mc ms n index : Nat} {ret : Option FieldType} {hh : List (Nat × Nat × Nat × Nat)} {ws : List Cond} {rm : Room} {Pc : Array Value → State → Prop} {Qc : Array Value → State → Outcome → State → Prop} {free : Addr → Prop} {Ts : List Cond} {own C : String} {b : Addr} {As rest : List Value} {g : JFrame}
    (S : CallFix p m c cc nL s args Ts own) (hM : Met l y ws rm Pc Qc mc ms free) (cw : vx_CVW R s args own C index y bytes maxL ret hh ws rm mc ms n) (hp : PreV s H C b Pc As)
    (hg : g.method = m) (hn : As.length = n) (hsize : g.locals.size = nL) (hstack : g.stack = As.reverse ++ .ref b :: rest) (hW : 2 * g.monitorRoom + (rest.map fun v => v.category).sum ≤ 8) (hdg : decode cc g.pc = .ok (.invokevirtual index, 3)) (hf : cells + mc ≤ R.cells ∧ slots + ms ≤ R.slots) :
    va_Run p l e R s m args below meth c H locs cells slots mc ms g rest (Qc (Value.ref b :: As).toArray) free := by
  obtain ⟨⟨hrc, hrs, hfr, hlo, hws, hcw⟩, hcode, hini, hy, hlen, hl, hin, hse⟩ := cw
  have hK : Back l R p e below s args y 3 8 (PreOf R mc ms Pc) (PostOf Qc mc ms free) := va_backW (hh := hh) (bytes := bytes) (maxL := maxL) (ret := ret) hM hp.1 hrc hrs hfr hlo hws hcw (fun a' U hW => word_at hW (Or.inl (by first | rfl | simp [Cond.onTables, Cond.keeps, Cond.steady])) hini)
  obtain ⟨hx, hb, hml, ho, -⟩ := S
  obtain ⟨-, ⟨cellB, hcB, hoB, hclB⟩, hPc⟩ := hp
  intro T hT X
  obtain ⟨v, vm₁, ⟨U', l2, c2, s2⟩, hW₁, X', ⟨g', mk, t, L, e1, e2, hq, h1, hL, h2, h3⟩, st⟩ := vx_callVW X hx (C := C) (hh := hh) (bytes := bytes) (maxL := maxL) (ret := ret) ho hl hin hse hcode hy hK (by rw [hT]; exact hcB) hoB hclB hg (hsize.trans hml.symm) (argsL := As) (rest := rest) (fun sig h => hn.trans (hlen sig h)) hstack hW (by rw [hb]; exact hdg)
    (fun vm₁ hW₁ => ⟨hf.1, hf.2, hPc (T.setVm vm₁) hT hW₁⟩)
  dsimp only [Pt.U, Pt.locs, Pt.cells, Pt.slots] at X' e1 e2 h1 h2 h3 st
  subst h1; subst h2; subst h3
  exact ⟨v, (T.setVm vm₁).calling g' mk (Value.ref b :: As).toArray, t, U', L, hT, X', hL, e1, e2, hq, st⟩
section
variable {y : MethodName} {bytes cc : ByteArray} {maxL nL mc ms n index : Nat} {ret : Option FieldType} {ws : List Cond} {rm : Room} {Pc : Array Value → State → Prop} {Qc : Array Value → State → Outcome → State → Prop} {XC : String → State → State → Prop} {free : Addr → Prop} {Ts : List Cond} {own C : String} {b : Addr} {As rest : List Value} {g : JFrame}
theorem vx_runVX {hh : List (Nat × Nat × Nat × Nat)} (S : CallFix p m c cc nL s args Ts own) (hM : vx_Met l y ws rm Pc Qc XC mc ms free) (cw : vx_CVW R s args own C index y bytes maxL ret hh ws rm mc ms n) (hp : PreV s H C b Pc As)
    (hg : g.method = m) (hn : As.length = n) (hsize : g.locals.size = nL) (hstack : g.stack = As.reverse ++ .ref b :: rest) (hW : 2 * g.monitorRoom + (rest.map fun v => v.category).sum ≤ 8) (hdg : decode cc g.pc = .ok (.invokevirtual index, 3)) (hf : cells + mc ≤ R.cells ∧ slots + ms ≤ R.slots) :
    vx_Run p l e R s m args below meth c H locs cells slots mc ms g rest (Qc (Value.ref b :: As).toArray) XC free := by
  obtain ⟨⟨hrc, hrs, hfr, hlo, hws, hcw⟩, hcode, hini, hy, hlen, hl, hin, hse⟩ := cw
  have hK : vx_Back l R p e below s args y 3 8 (PreOf R mc ms Pc) (PostOf Qc mc ms free) (vx_Post XC mc ms free) := vx_backW (hh := hh) (bytes := bytes) (maxL := maxL) (ret := ret) hM hp.1 hrc hrs hfr hlo hws hcw (fun a' U hW => word_at hW (Or.inl (by first | rfl | simp [Cond.onTables, Cond.keeps, Cond.steady])) hini)
  obtain ⟨hx, hb, hml, ho, -⟩ := S
  obtain ⟨-, ⟨cellB, hcB, hoB, hclB⟩, hPc⟩ := hp
  intro T hT X
  rcases vx_callVX X hx (C := C) (hh := hh) (bytes := bytes) (maxL := maxL) (ret := ret) ho hl hin hse hcode hy hK (by rw [hT]; exact hcB) hoB hclB hg (hsize.trans hml.symm) (argsL := As) (rest := rest) (fun sig h => hn.trans (hlen sig h)) hstack hW (by rw [hb]; exact hdg)
    (fun vm₁ hW₁ => ⟨hf.1, hf.2, hPc (T.setVm vm₁) hT hW₁⟩) with ⟨v, vm₁, ⟨U', l2, c2, s2⟩, hW₁, X', ⟨g', mk, t, L, e1, e2, hq, h1, hL, h2, h3⟩, st⟩ | ⟨q, vm₁, ⟨U', l2, c2, s2⟩, hW₁, X', ⟨g', mk, t, L, E, ce, e1, e2, hq, hce, hcv, hcl, h1, hL, h2, h3⟩, st⟩
  · dsimp only [Pt.U, Pt.locs, Pt.cells, Pt.slots] at X' e1 e2 h1 h2 h3 st
    subst h1; subst h2; subst h3
    exact Or.inl ⟨v, (T.setVm vm₁).calling g' mk (Value.ref b :: As).toArray, t, U', L, hT, X', hL, e1, e2, hq, st⟩
  · dsimp only [Pt.U, Pt.locs, Pt.cells, Pt.slots] at X' e1 e2 h1 h2 h3 st hcl
    subst h1; subst h2; subst h3
    exact Or.inr ⟨q, (T.setVm vm₁).calling g' mk (Value.ref b :: As).toArray, t, U', L, E, ce, hT, X', hL, e1, e2, hq, hce, hcv, vx_cls hW₁ hcl, st⟩
theorem vx_runSX {hh : List (Nat × Nat × Nat × Nat)} (S : CallFix p m c cc nL s args Ts own) (hM : vx_Met l y ws rm Pc Qc XC mc ms free) (cw : vx_CSW R s args own index y bytes maxL ret hh ws rm mc ms n) (hp : PreS s H Pc As)
    (hg : g.method = m) (hn : As.length = n) (hsize : g.locals.size = nL) (hstack : g.stack = As.reverse ++ rest) (hW : 2 * g.monitorRoom + (rest.map fun v => v.category).sum ≤ 8) (hdg : decode cc g.pc = .ok (.invokestatic index, 3)) (hf : cells + mc ≤ R.cells ∧ slots + ms ≤ R.slots) :
    vx_Run p l e R s m args below meth c H locs cells slots mc ms g rest (Qc As.toArray) XC free := by
  obtain ⟨⟨hrc, hrs, hfr, hlo, hws, hcw⟩, hcode, hini, hy, hlen, hl, hstt⟩ := cw
  have hK : vx_Back l R p e below s args y 3 8 (PreOf R mc ms Pc) (PostOf Qc mc ms free) (vx_Post XC mc ms free) := vx_backW (hh := hh) (bytes := bytes) (maxL := maxL) (ret := ret) hM hp.1 hrc hrs hfr hlo hws hcw (fun a' U hW => word_at hW (Or.inl (by first | rfl | simp [Cond.onTables, Cond.keeps, Cond.steady])) hini)
  obtain ⟨hx, hb, hml, ho, -⟩ := S
  intro T hT X
  rcases vx_callSX X hx (hh := hh) (bytes := bytes) (maxL := maxL) (ret := ret) ho hl hstt hini hcode hy hK hg (hsize.trans hml.symm) (argsL := As) (rest := rest) (fun sig h => hn.trans (hlen sig h)) hstack hW (by rw [hb]; exact hdg)
    (fun vm₁ hW₁ => ⟨hf.1, hf.2, hp.2 (T.setVm vm₁) hT hW₁⟩) with ⟨v, vm₁, ⟨U', l2, c2, s2⟩, hW₁, X', ⟨g', mk, t, L, e1, e2, hq, h1, hL, h2, h3⟩, st⟩ | ⟨q, vm₁, ⟨U', l2, c2, s2⟩, hW₁, X', ⟨g', mk, t, L, E, ce, e1, e2, hq, hce, hcv, hcl, h1, hL, h2, h3⟩, st⟩
  · dsimp only [Pt.U, Pt.locs, Pt.cells, Pt.slots] at X' e1 e2 h1 h2 h3 st
    subst h1; subst h2; subst h3
    exact Or.inl ⟨v, (T.setVm vm₁).calling g' mk As.toArray, t, U', L, hT, X', hL, e1, e2, hq, st⟩
  · dsimp only [Pt.U, Pt.locs, Pt.cells, Pt.slots] at X' e1 e2 h1 h2 h3 st hcl
    subst h1; subst h2; subst h3
    exact Or.inr ⟨q, (T.setVm vm₁).calling g' mk As.toArray, t, U', L, E, ce, hT, X', hL, e1, e2, hq, hce, hcv, vx_cls hW₁ hcl, st⟩
end
end VXH
theorem vx_ofWH {l : Launch} {y : MethodName} {ws ws' : List Cond} {rm : Room} {Pc : Array Value → State → Prop} {Qc : Array Value → State → Outcome → State → Prop} {XC : String → State → State → Prop} {mc ms : Nat} {free : Addr → Prop} {cc : ByteArray} {maxL : Nat} {ret : Option FieldType} {hh : List (Nat × Nat × Nat × Nat)}
    (hy : plainName y.cls = true) (hw : ws = Cond.codeWith y cc maxL ret hh :: ws')
    (body : ∀ p e s m args below meth c s₁, BodyLoose p l y (headSpec ws rm) cc maxL ret e s m args below meth c s₁ → c.maxLocals = maxL → Pc args s →
      W p l e (headSpec ws rm).room s m args below meth c s.heap [] 0 0 (vx_MQ below Qc XC args s mc ms free) (entryFrame m args maxL)) : vx_Met l y ws rm Pc Qc XC mc ms free := by
  refine MetFree.of_bodyS (code := cc) (maxLocals := maxL) (ret := ret) hy ?_ ?_
  · intro args s m h hn
    obtain ⟨m9, meth, c, hn9, h1, h2, h3, h4, -, h5, h6, -⟩ := Cond.codeWith_spec (atoms_spec (ws := ws) h _ (by rw [hw]; exact List.mem_cons_self))
    cases hn.symm.trans hn9
    exact ⟨meth, c, h1, h2, h3, h4, h5, h6⟩
  · intro p e s m args below meth c s₁ B hml hP _
    have hh0 : s₁.heap = s.heap := by rw [B.state]; rfl
    obtain ⟨t, a1, o, b1, b2, b3⟩ := body p e s m args below meth c s₁ B hml hP s₁ hh0 (Stand.of_body B)
    exact ⟨t, o, a1, b1, b2, b3⟩
/-! ===== END ===== -/
end
section
/-! ===== BEGIN printed: names, fields, word lists, decode rows ===== -/
def RX0 : String := "Tollweave$Accounts"
def TX0 : u_T := fun k => match k with
  | 0 => ("Tollweave$Accounts", "wallet", "[J", true)
  | 1 => ("Tollweave$Accounts", "own", "[J", true)
  | 2 => ("Tollweave$Accounts", "billed", "[J", true)
  | _ => ("Tollweave$Accounts", "got", "[J", true)
def tyX0 : Nat → FieldType := fun k => match k with
  | 0 => .array .long
  | 1 => .array .long
  | 2 => .array .long
  | _ => .array .long
abbrev wsX00 : List Cond := u_ws RX0 TX0 4
theorem nmX0 : ∀ a, a < 4 → ∀ b, b < 4 → a ≠ b → (TX0 a).2.1 ≠ (TX0 b).2.1 := by decide +kernel
theorem tyX0_ok : ∀ k, k < 4 → parseFieldDescriptor (TX0 k).2.2.1 = some (tyX0 k) := by decide +kernel
abbrev cX0_init : ByteArray := prog_2_method_1_code
def yX0_init : MethodName := ⟨RX0, "<init>", "()V"⟩
abbrev cX0_forgetShares : ByteArray := prog_2_method_2_code
def yX0_forgetShares : MethodName := ⟨RX0, "forgetShares", "()V"⟩
abbrev cX0_charge : ByteArray := prog_2_method_3_code
def yX0_charge : MethodName := ⟨RX0, "charge", "(IIJ)J"⟩
def RX1 : String := "Tollweave$Journeys"
def TX1 : u_T := fun k => match k with
  | 0 => ("Tollweave$Journeys", "firstMinute", "[I", true)
  | 1 => ("Tollweave$Journeys", "lastMinute", "[I", true)
  | 2 => ("Tollweave$Journeys", "counting", "[I", true)
  | 3 => ("Tollweave$Journeys", "toPay", "[[I", true)
  | 4 => ("Tollweave$Journeys", "journeyOf", "[I", true)
  | 5 => ("Tollweave$Journeys", "isDouble", "[Z", true)
  | _ => ("Tollweave$Journeys", "count", "I", false)
def tyX1 : Nat → FieldType := fun k => match k with
  | 0 => .array .int
  | 1 => .array .int
  | 2 => .array .int
  | 3 => .array (.array .int)
  | 4 => .array .int
  | 5 => .array .boolean
  | _ => .int
abbrev wsX10 : List Cond := u_ws RX1 TX1 7
theorem nmX1 : ∀ a, a < 7 → ∀ b, b < 7 → a ≠ b → (TX1 a).2.1 ≠ (TX1 b).2.1 := by decide +kernel
theorem tyX1_ok : ∀ k, k < 7 → parseFieldDescriptor (TX1 k).2.2.1 = some (tyX1 k) := by decide +kernel
abbrev cX1_init : ByteArray := prog_3_method_1_code
def yX1_init : MethodName := ⟨RX1, "<init>", "()V"⟩
abbrev cX1_forgetAll : ByteArray := prog_3_method_2_code
def yX1_forgetAll : MethodName := ⟨RX1, "forgetAll", "()V"⟩
abbrev cX1_begin : ByteArray := prog_3_method_3_code
def yX1_begin : MethodName := ⟨RX1, "begin", "(II)V"⟩
abbrev cX1_goOn : ByteArray := prog_3_method_4_code
def yX1_goOn : MethodName := ⟨RX1, "goOn", "(III)V"⟩
abbrev cX1_putDouble : ByteArray := prog_3_method_5_code
def yX1_putDouble : MethodName := ⟨RX1, "putDouble", "(II)V"⟩
abbrev cX1_pay : ByteArray := prog_3_method_6_code
def yX1_pay : MethodName := ⟨RX1, "pay", "(III)V"⟩
abbrev cX1_isOver : ByteArray := prog_3_method_7_code
def yX1_isOver : MethodName := ⟨RX1, "isOver", "(II)Z"⟩
abbrev cX1_wholeOf : ByteArray := prog_3_method_8_code
def yX1_wholeOf : MethodName := ⟨RX1, "wholeOf", "(I)I"⟩
abbrev cX1_fareOf : ByteArray := prog_3_method_9_code
def yX1_fareOf : MethodName := ⟨RX1, "fareOf", "(II)I"⟩
abbrev cX1_shareOf : ByteArray := prog_3_method_10_code
def yX1_shareOf : MethodName := ⟨RX1, "shareOf", "(III)I"⟩
abbrev cX1_cutShare : ByteArray := prog_3_method_11_code
def yX1_cutShare : MethodName := ⟨RX1, "cutShare", "(IIII)I"⟩
abbrev cX1_ownerOfTheMost : ByteArray := prog_3_method_12_code
def yX1_ownerOfTheMost : MethodName := ⟨RX1, "ownerOfTheMost", "(I)I"⟩
abbrev cX1_sumFares : ByteArray := prog_3_method_13_code
def yX1_sumFares : MethodName := ⟨RX1, "sumFares", "(II)J"⟩
abbrev cX1_sumShares : ByteArray := prog_3_method_14_code
def yX1_sumShares : MethodName := ⟨RX1, "sumShares", "(III)J"⟩
def RX2 : String := "Tollweave$Plates"
def TX2 : u_T := fun k => match k with
  | 0 => ("Tollweave$Plates", "kind", "[I", true)
  | 1 => ("Tollweave$Plates", "holder", "[I", true)
  | 2 => ("Tollweave$Plates", "spanPlate", "[I", true)
  | 3 => ("Tollweave$Plates", "spanFrom", "[I", true)
  | 4 => ("Tollweave$Plates", "spanTo", "[I", true)
  | _ => ("Tollweave$Plates", "spanCount", "I", false)
def tyX2 : Nat → FieldType := fun k => match k with
  | 0 => .array .int
  | 1 => .array .int
  | 2 => .array .int
  | 3 => .array .int
  | 4 => .array .int
  | _ => .int
abbrev wsX20 : List Cond := u_ws RX2 TX2 6
theorem nmX2 : ∀ a, a < 6 → ∀ b, b < 6 → a ≠ b → (TX2 a).2.1 ≠ (TX2 b).2.1 := by decide +kernel
theorem tyX2_ok : ∀ k, k < 6 → parseFieldDescriptor (TX2 k).2.2.1 = some (tyX2 k) := by decide +kernel
abbrev cX2_init : ByteArray := prog_4_method_1_code
def yX2_init : MethodName := ⟨RX2, "<init>", "()V"⟩
abbrev cX2_addSpan : ByteArray := prog_4_method_2_code
def yX2_addSpan : MethodName := ⟨RX2, "addSpan", "(III)I"⟩
abbrev cX2_isExempt : ByteArray := prog_4_method_3_code
def yX2_isExempt : MethodName := ⟨RX2, "isExempt", "(II)Z"⟩
def RX3 : String := "Tollweave$Readings"
def TX3 : u_T := fun k => match k with
  | 0 => ("Tollweave$Readings", "gateOf", "[I", true)
  | 1 => ("Tollweave$Readings", "plateOf", "[I", true)
  | 2 => ("Tollweave$Readings", "minuteOf", "[I", true)
  | 3 => ("Tollweave$Readings", "isStruck", "[Z", true)
  | 4 => ("Tollweave$Readings", "inOrder", "[I", true)
  | _ => ("Tollweave$Readings", "count", "I", false)
def tyX3 : Nat → FieldType := fun k => match k with
  | 0 => .array .int
  | 1 => .array .int
  | 2 => .array .int
  | 3 => .array .boolean
  | 4 => .array .int
  | _ => .int
abbrev wsX30 : List Cond := u_ws RX3 TX3 6
theorem nmX3 : ∀ a, a < 6 → ∀ b, b < 6 → a ≠ b → (TX3 a).2.1 ≠ (TX3 b).2.1 := by decide +kernel
theorem tyX3_ok : ∀ k, k < 6 → parseFieldDescriptor (TX3 k).2.2.1 = some (tyX3 k) := by decide +kernel
abbrev cX3_init : ByteArray := prog_5_method_1_code
def yX3_init : MethodName := ⟨RX3, "<init>", "()V"⟩
abbrev cX3_add : ByteArray := prog_5_method_2_code
def yX3_add : MethodName := ⟨RX3, "add", "(III)I"⟩
abbrev cX3_minutesBetween : ByteArray := prog_5_method_3_code
def yX3_minutesBetween : MethodName := ⟨RX3, "minutesBetween", "(II)I"⟩
def RX4 : String := "Tollweave$Roads"
def TX4 : u_T := fun k => match k with
  | 0 => ("Tollweave$Roads", "one", "[I", true)
  | 1 => ("Tollweave$Roads", "other", "[I", true)
  | 2 => ("Tollweave$Roads", "length", "[I", true)
  | 3 => ("Tollweave$Roads", "owner", "[I", true)
  | 4 => ("Tollweave$Roads", "distance", "[[I", true)
  | 5 => ("Tollweave$Roads", "gateCount", "I", false)
  | _ => ("Tollweave$Roads", "roadCount", "I", false)
def tyX4 : Nat → FieldType := fun k => match k with
  | 0 => .array .int
  | 1 => .array .int
  | 2 => .array .int
  | 3 => .array .int
  | 4 => .array (.array .int)
  | 5 => .int
  | _ => .int
abbrev wsX40 : List Cond := u_ws RX4 TX4 7
theorem nmX4 : ∀ a, a < 7 → ∀ b, b < 7 → a ≠ b → (TX4 a).2.1 ≠ (TX4 b).2.1 := by decide +kernel
theorem tyX4_ok : ∀ k, k < 7 → parseFieldDescriptor (TX4 k).2.2.1 = some (tyX4 k) := by decide +kernel
abbrev cX4_init : ByteArray := prog_6_method_1_code
def yX4_init : MethodName := ⟨RX4, "<init>", "()V"⟩
abbrev cX4_addGate : ByteArray := prog_6_method_2_code
def yX4_addGate : MethodName := ⟨RX4, "addGate", "()I"⟩
abbrev cX4_addRoad : ByteArray := prog_6_method_3_code
def yX4_addRoad : MethodName := ⟨RX4, "addRoad", "(IIII)I"⟩
abbrev cX4_shortenDistances : ByteArray := prog_6_method_4_code
def yX4_shortenDistances : MethodName := ⟨RX4, "shortenDistances", "(III)V"⟩
abbrev cX4_hasWay : ByteArray := prog_6_method_5_code
def yX4_hasWay : MethodName := ⟨RX4, "hasWay", "(II)Z"⟩
abbrev cX4_roadOfWay : ByteArray := prog_6_method_6_code
def yX4_roadOfWay : MethodName := ⟨RX4, "roadOfWay", "(III)I"⟩
abbrev cX4_roadTowards : ByteArray := prog_6_method_7_code
def yX4_roadTowards : MethodName := ⟨RX4, "roadTowards", "(II)I"⟩
abbrev cX4_otherEnd : ByteArray := prog_6_method_8_code
def yX4_otherEnd : MethodName := ⟨RX4, "otherEnd", "(II)I"⟩
def RX5 : String := "Tollweave$Tariff"
def TX5 : u_T := fun k => match k with
  | 0 => ("Tollweave$Tariff", "rate", "[I", true)
  | 1 => ("Tollweave$Tariff", "busyPercent", "[I", true)
  | _ => ("Tollweave$Tariff", "mostCents", "I", false)
def tyX5 : Nat → FieldType := fun k => match k with
  | 0 => .array .int
  | 1 => .array .int
  | _ => .int
abbrev wsX50 : List Cond := u_ws RX5 TX5 3
theorem nmX5 : ∀ a, a < 3 → ∀ b, b < 3 → a ≠ b → (TX5 a).2.1 ≠ (TX5 b).2.1 := by decide +kernel
theorem tyX5_ok : ∀ k, k < 3 → parseFieldDescriptor (TX5 k).2.2.1 = some (tyX5 k) := by decide +kernel
abbrev cX5_init : ByteArray := prog_7_method_1_code
def yX5_init : MethodName := ⟨RX5, "<init>", "()V"⟩
abbrev cX5_centsFor : ByteArray := prog_7_method_2_code
def yX5_centsFor : MethodName := ⟨RX5, "centsFor", "(III)I"⟩
abbrev cX5_isBusy : ByteArray := prog_7_method_3_code
def yX5_isBusy : MethodName := ⟨RX5, "isBusy", "(I)Z"⟩
def RX6 : String := "Tollweave"
def TX6 : u_T := fun k => match k with
  | 0 => ("Tollweave", "roads", "LTollweave$Roads;", true)
  | 1 => ("Tollweave", "tariff", "LTollweave$Tariff;", true)
  | 2 => ("Tollweave", "plates", "LTollweave$Plates;", true)
  | 3 => ("Tollweave", "readings", "LTollweave$Readings;", true)
  | 4 => ("Tollweave", "journeys", "LTollweave$Journeys;", true)
  | 5 => ("Tollweave", "accounts", "LTollweave$Accounts;", true)
  | _ => ("Tollweave", "now", "I", false)
def tyX6 : Nat → FieldType := fun k => match k with
  | 0 => .object "Tollweave$Roads"
  | 1 => .object "Tollweave$Tariff"
  | 2 => .object "Tollweave$Plates"
  | 3 => .object "Tollweave$Readings"
  | 4 => .object "Tollweave$Journeys"
  | 5 => .object "Tollweave$Accounts"
  | _ => .int
abbrev wsX60 : List Cond := u_ws RX6 TX6 7
theorem nmX6 : ∀ a, a < 7 → ∀ b, b < 7 → a ≠ b → (TX6 a).2.1 ≠ (TX6 b).2.1 := by decide +kernel
theorem tyX6_ok : ∀ k, k < 7 → parseFieldDescriptor (TX6 k).2.2.1 = some (tyX6 k) := by decide +kernel
abbrev cX6_init : ByteArray := prog_1_method_1_code
def yX6_init : MethodName := ⟨RX6, "<init>", "()V"⟩
abbrev cX6_gate : ByteArray := prog_1_method_2_code
def yX6_gate : MethodName := ⟨RX6, "gate", "()I"⟩
abbrev cX6_road : ByteArray := prog_1_method_3_code
def yX6_road : MethodName := ⟨RX6, "road", "(IIII)I"⟩
abbrev cX6_rate : ByteArray := prog_1_method_4_code
def yX6_rate : MethodName := ⟨RX6, "rate", "(III)V"⟩
abbrev cX6_most : ByteArray := prog_1_method_5_code
def yX6_most : MethodName := ⟨RX6, "most", "(I)I"⟩
abbrev cX6_plate : ByteArray := prog_1_method_6_code
def yX6_plate : MethodName := ⟨RX6, "plate", "(III)V"⟩
abbrev cX6_top : ByteArray := prog_1_method_7_code
def yX6_top : MethodName := ⟨RX6, "top", "(II)J"⟩
abbrev cX6_exempt : ByteArray := prog_1_method_8_code
def yX6_exempt : MethodName := ⟨RX6, "exempt", "(III)I"⟩
abbrev cX6_read : ByteArray := prog_1_method_9_code
def yX6_read : MethodName := ⟨RX6, "read", "(III)I"⟩
abbrev cX6_strike : ByteArray := prog_1_method_10_code
def yX6_strike : MethodName := ⟨RX6, "strike", "(I)V"⟩
abbrev cX6_pass : ByteArray := prog_1_method_11_code
def yX6_pass : MethodName := ⟨RX6, "pass", "(I)I"⟩
abbrev cX6_bill : ByteArray := prog_1_method_12_code
def yX6_bill : MethodName := ⟨RX6, "bill", "()J"⟩
abbrev cX6_distance : ByteArray := prog_1_method_13_code
def yX6_distance : MethodName := ⟨RX6, "distance", "(II)I"⟩
abbrev cX6_way : ByteArray := prog_1_method_14_code
def yX6_way : MethodName := ⟨RX6, "way", "(III)I"⟩
abbrev cX6_journeys : ByteArray := prog_1_method_15_code
def yX6_journeys : MethodName := ⟨RX6, "journeys", "(I)I"⟩
abbrev cX6_journey : ByteArray := prog_1_method_16_code
def yX6_journey : MethodName := ⟨RX6, "journey", "(III)I"⟩
abbrev cX6_ofReading : ByteArray := prog_1_method_17_code
def yX6_ofReading : MethodName := ⟨RX6, "ofReading", "(II)I"⟩
abbrev cX6_due : ByteArray := prog_1_method_18_code
def yX6_due : MethodName := ⟨RX6, "due", "(I)J"⟩
abbrev cX6_billed : ByteArray := prog_1_method_19_code
def yX6_billed : MethodName := ⟨RX6, "billed", "(I)J"⟩
abbrev cX6_wallet : ByteArray := prog_1_method_20_code
def yX6_wallet : MethodName := ⟨RX6, "wallet", "(I)J"⟩
abbrev cX6_own : ByteArray := prog_1_method_21_code
def yX6_own : MethodName := ⟨RX6, "own", "(I)J"⟩
abbrev cX6_share : ByteArray := prog_1_method_22_code
def yX6_share : MethodName := ⟨RX6, "share", "(IZ)J"⟩
abbrev cX6_requireGate : ByteArray := prog_1_method_23_code
def yX6_requireGate : MethodName := ⟨RX6, "requireGate", "(I)V"⟩
abbrev cX6_requireReading : ByteArray := prog_1_method_24_code
def yX6_requireReading : MethodName := ⟨RX6, "requireReading", "(I)V"⟩
abbrev cX6_requirePlate : ByteArray := prog_1_method_25_code
def yX6_requirePlate : MethodName := ⟨RX6, "requirePlate", "(I)V"⟩
abbrev cX6_requireHolder : ByteArray := prog_1_method_26_code
def yX6_requireHolder : MethodName := ⟨RX6, "requireHolder", "(I)V"⟩
abbrev cX6_requireRange : ByteArray := prog_1_method_27_code
def yX6_requireRange : MethodName := ⟨RX6, "requireRange", "(III)V"⟩
abbrev cX6_findJourneys : ByteArray := prog_1_method_28_code
def yX6_findJourneys : MethodName := ⟨RX6, "findJourneys", "(I)V"⟩
abbrev cX6_placeReading : ByteArray := prog_1_method_29_code
def yX6_placeReading : MethodName := ⟨RX6, "placeReading", "(II)I"⟩
abbrev cX6_isDoubleOf : ByteArray := prog_1_method_30_code
def yX6_isDoubleOf : MethodName := ⟨RX6, "isDoubleOf", "(II)Z"⟩
abbrev cX6_goesOnFrom : ByteArray := prog_1_method_31_code
def yX6_goesOnFrom : MethodName := ⟨RX6, "goesOnFrom", "(II)Z"⟩
abbrev cX6_payWay : ByteArray := prog_1_method_32_code
def yX6_payWay : MethodName := ⟨RX6, "payWay", "(III)V"⟩
abbrev cX6_isDoubleNow : ByteArray := prog_1_method_33_code
def yX6_isDoubleNow : MethodName := ⟨RX6, "isDoubleNow", "(I)Z"⟩
abbrev cX6_journeyNow : ByteArray := prog_1_method_34_code
def yX6_journeyNow : MethodName := ⟨RX6, "journeyNow", "(I)I"⟩
abbrev cX6_dueToOwner : ByteArray := prog_1_method_35_code
def yX6_dueToOwner : MethodName := ⟨RX6, "dueToOwner", "(I)J"⟩
def RX7 : String := "TollweaveModel"
def TX7 : u_T := fun k => match k with
  | 0 => ("TollweaveModel", "thrown", "I", false)
  | 1 => ("TollweaveModel", "now", "I", false)
  | 2 => ("TollweaveModel", "gateMany", "I", false)
  | 3 => ("TollweaveModel", "roadMany", "I", false)
  | 4 => ("TollweaveModel", "ones", "[I", true)
  | 5 => ("TollweaveModel", "others", "[I", true)
  | 6 => ("TollweaveModel", "lengths", "[I", true)
  | 7 => ("TollweaveModel", "owners", "[I", true)
  | 8 => ("TollweaveModel", "far", "[I", true)
  | 9 => ("TollweaveModel", "rates", "[I", true)
  | 10 => ("TollweaveModel", "percents", "[I", true)
  | 11 => ("TollweaveModel", "most", "I", false)
  | 12 => ("TollweaveModel", "kinds", "[I", true)
  | 13 => ("TollweaveModel", "holders", "[I", true)
  | 14 => ("TollweaveModel", "billed", "[J", true)
  | 15 => ("TollweaveModel", "own", "[J", true)
  | 16 => ("TollweaveModel", "wallets", "[J", true)
  | 17 => ("TollweaveModel", "got", "[J", true)
  | 18 => ("TollweaveModel", "spanMany", "I", false)
  | 19 => ("TollweaveModel", "spanPlate", "[I", true)
  | 20 => ("TollweaveModel", "spanFrom", "[I", true)
  | 21 => ("TollweaveModel", "spanTo", "[I", true)
  | 22 => ("TollweaveModel", "readingMany", "I", false)
  | 23 => ("TollweaveModel", "readGate", "[I", true)
  | 24 => ("TollweaveModel", "readPlate", "[I", true)
  | 25 => ("TollweaveModel", "readMinute", "[I", true)
  | 26 => ("TollweaveModel", "isStruck", "[Z", true)
  | 27 => ("TollweaveModel", "isDouble", "[Z", true)
  | 28 => ("TollweaveModel", "journeyOf", "[I", true)
  | 29 => ("TollweaveModel", "isDone", "[Z", true)
  | 30 => ("TollweaveModel", "journeyMany", "I", false)
  | 31 => ("TollweaveModel", "first", "[I", true)
  | 32 => ("TollweaveModel", "last", "[I", true)
  | 33 => ("TollweaveModel", "counts", "[I", true)
  | 34 => ("TollweaveModel", "paid", "[J", true)
  | 35 => ("TollweaveModel", "fares", "[J", true)
  | _ => ("TollweaveModel", "shares", "[J", true)
def tyX7 : Nat → FieldType := fun k => match k with
  | 0 => .int
  | 1 => .int
  | 2 => .int
  | 3 => .int
  | 4 => .array .int
  | 5 => .array .int
  | 6 => .array .int
  | 7 => .array .int
  | 8 => .array .int
  | 9 => .array .int
  | 10 => .array .int
  | 11 => .int
  | 12 => .array .int
  | 13 => .array .int
  | 14 => .array .long
  | 15 => .array .long
  | 16 => .array .long
  | 17 => .array .long
  | 18 => .int
  | 19 => .array .int
  | 20 => .array .int
  | 21 => .array .int
  | 22 => .int
  | 23 => .array .int
  | 24 => .array .int
  | 25 => .array .int
  | 26 => .array .boolean
  | 27 => .array .boolean
  | 28 => .array .int
  | 29 => .array .boolean
  | 30 => .int
  | 31 => .array .int
  | 32 => .array .int
  | 33 => .array .int
  | 34 => .array .long
  | 35 => .array .long
  | _ => .array .long
abbrev wsX70 : List Cond := u_ws RX7 TX7 37
theorem nmX7 : ∀ a, a < 37 → ∀ b, b < 37 → a ≠ b → (TX7 a).2.1 ≠ (TX7 b).2.1 := by decide +kernel
theorem tyX7_ok : ∀ k, k < 37 → parseFieldDescriptor (TX7 k).2.2.1 = some (tyX7 k) := by decide +kernel
abbrev cX7_init : ByteArray := prog_9_method_1_code
def yX7_init : MethodName := ⟨RX7, "<init>", "()V"⟩
abbrev cX7_thrown : ByteArray := prog_9_method_2_code
def yX7_thrown : MethodName := ⟨RX7, "thrown", "()I"⟩
abbrev cX7_in : ByteArray := prog_9_method_3_code
def yX7_in : MethodName := ⟨RX7, "in", "(III)Z"⟩
abbrev cX7_isGate : ByteArray := prog_9_method_4_code
def yX7_isGate : MethodName := ⟨RX7, "isGate", "(I)Z"⟩
abbrev cX7_isPlate : ByteArray := prog_9_method_5_code
def yX7_isPlate : MethodName := ⟨RX7, "isPlate", "(I)Z"⟩
abbrev cX7_isHolder : ByteArray := prog_9_method_6_code
def yX7_isHolder : MethodName := ⟨RX7, "isHolder", "(I)Z"⟩
abbrev cX7_isReading : ByteArray := prog_9_method_7_code
def yX7_isReading : MethodName := ⟨RX7, "isReading", "(I)Z"⟩
abbrev cX7_measures : ByteArray := prog_9_method_8_code
def yX7_measures : MethodName := ⟨RX7, "measures", "()V"⟩
abbrev cX7_away : ByteArray := prog_9_method_9_code
def yX7_away : MethodName := ⟨RX7, "away", "(II)I"⟩
abbrev cX7_next : ByteArray := prog_9_method_10_code
def yX7_next : MethodName := ⟨RX7, "next", "(II)I"⟩
abbrev cX7_otherEnd : ByteArray := prog_9_method_11_code
def yX7_otherEnd : MethodName := ⟨RX7, "otherEnd", "(II)I"⟩
abbrev cX7_gate : ByteArray := prog_9_method_12_code
def yX7_gate : MethodName := ⟨RX7, "gate", "()I"⟩
abbrev cX7_road : ByteArray := prog_9_method_13_code
def yX7_road : MethodName := ⟨RX7, "road", "(IIII)I"⟩
abbrev cX7_rate : ByteArray := prog_9_method_14_code
def yX7_rate : MethodName := ⟨RX7, "rate", "(III)V"⟩
abbrev cX7_most : ByteArray := prog_9_method_15_code
def yX7_most : MethodName := ⟨RX7, "most", "(I)I"⟩
abbrev cX7_plate : ByteArray := prog_9_method_16_code
def yX7_plate : MethodName := ⟨RX7, "plate", "(III)V"⟩
abbrev cX7_top : ByteArray := prog_9_method_17_code
def yX7_top : MethodName := ⟨RX7, "top", "(II)J"⟩
abbrev cX7_exempt : ByteArray := prog_9_method_18_code
def yX7_exempt : MethodName := ⟨RX7, "exempt", "(III)I"⟩
abbrev cX7_isExempt : ByteArray := prog_9_method_19_code
def yX7_isExempt : MethodName := ⟨RX7, "isExempt", "(II)Z"⟩
abbrev cX7_read : ByteArray := prog_9_method_20_code
def yX7_read : MethodName := ⟨RX7, "read", "(III)I"⟩
abbrev cX7_strike : ByteArray := prog_9_method_21_code
def yX7_strike : MethodName := ⟨RX7, "strike", "(I)V"⟩
abbrev cX7_pass : ByteArray := prog_9_method_22_code
def yX7_pass : MethodName := ⟨RX7, "pass", "(I)I"⟩
abbrev cX7_nextReading : ByteArray := prog_9_method_23_code
def yX7_nextReading : MethodName := ⟨RX7, "nextReading", "(I)I"⟩
abbrev cX7_pays : ByteArray := prog_9_method_24_code
def yX7_pays : MethodName := ⟨RX7, "pays", "(IIII)V"⟩
abbrev cX7_begins : ByteArray := prog_9_method_25_code
def yX7_begins : MethodName := ⟨RX7, "begins", "(I)V"⟩
abbrev cX7_shares : ByteArray := prog_9_method_26_code
def yX7_shares : MethodName := ⟨RX7, "shares", "(I)V"⟩
abbrev cX7_goes : ByteArray := prog_9_method_27_code
def yX7_goes : MethodName := ⟨RX7, "goes", "(I)V"⟩
abbrev cX7_isOver : ByteArray := prog_9_method_28_code
def yX7_isOver : MethodName := ⟨RX7, "isOver", "(I)Z"⟩
abbrev cX7_dueOf : ByteArray := prog_9_method_29_code
def yX7_dueOf : MethodName := ⟨RX7, "dueOf", "(I)J"⟩
abbrev cX7_dueTo : ByteArray := prog_9_method_30_code
def yX7_dueTo : MethodName := ⟨RX7, "dueTo", "(I)J"⟩
abbrev cX7_bill : ByteArray := prog_9_method_31_code
def yX7_bill : MethodName := ⟨RX7, "bill", "()J"⟩
abbrev cX7_distance : ByteArray := prog_9_method_32_code
def yX7_distance : MethodName := ⟨RX7, "distance", "(II)I"⟩
abbrev cX7_way : ByteArray := prog_9_method_33_code
def yX7_way : MethodName := ⟨RX7, "way", "(III)I"⟩
abbrev cX7_journeys : ByteArray := prog_9_method_34_code
def yX7_journeys : MethodName := ⟨RX7, "journeys", "(I)I"⟩
abbrev cX7_journey : ByteArray := prog_9_method_35_code
def yX7_journey : MethodName := ⟨RX7, "journey", "(III)I"⟩
abbrev cX7_ofReading : ByteArray := prog_9_method_36_code
def yX7_ofReading : MethodName := ⟨RX7, "ofReading", "(II)I"⟩
abbrev cX7_due : ByteArray := prog_9_method_37_code
def yX7_due : MethodName := ⟨RX7, "due", "(I)J"⟩
abbrev cX7_billed : ByteArray := prog_9_method_38_code
def yX7_billed : MethodName := ⟨RX7, "billed", "(I)J"⟩
abbrev cX7_wallet : ByteArray := prog_9_method_39_code
def yX7_wallet : MethodName := ⟨RX7, "wallet", "(I)J"⟩
abbrev cX7_own : ByteArray := prog_9_method_40_code
def yX7_own : MethodName := ⟨RX7, "own", "(I)J"⟩
abbrev cX7_share : ByteArray := prog_9_method_41_code
def yX7_share : MethodName := ⟨RX7, "share", "(IZ)J"⟩
def RJ9 : String := "java/lang/Math"
def TJ9 : u_T := fun k => match k with
  | _ => ("", "", "", false)
def tyJ9 : Nat → FieldType := fun k => match k with
  | _ => .int
abbrev wsJ90 : List Cond := u_ws RJ9 TJ9 0
theorem nmJ9 : ∀ a, a < 0 → ∀ b, b < 0 → a ≠ b → (TJ9 a).2.1 ≠ (TJ9 b).2.1 := by decide +kernel
theorem tyJ9_ok : ∀ k, k < 0 → parseFieldDescriptor (TJ9 k).2.2.1 = some (tyJ9 k) := by decide +kernel
abbrev cJ9_min_7cf53 : ByteArray := prog_14_method_69_code
def yJ9_min_7cf53 : MethodName := ⟨RJ9, "min", "(II)I"⟩
def RJ0 : String := "java/lang/String"
def TJ0 : u_T := fun k => match k with
  | _ => ("", "", "", false)
def tyJ0 : Nat → FieldType := fun k => match k with
  | _ => .int
abbrev wsJ00 : List Cond := u_ws RJ0 TJ0 0
theorem nmJ0 : ∀ a, a < 0 → ∀ b, b < 0 → a ≠ b → (TJ0 a).2.1 ≠ (TJ0 b).2.1 := by decide +kernel
theorem tyJ0_ok : ∀ k, k < 0 → parseFieldDescriptor (TJ0 k).2.2.1 = some (tyJ0 k) := by decide +kernel
def RL : String := "TollweaveLaw"
abbrev cL_gate : ByteArray := method_3_code
def yL_gate : MethodName := ⟨RL, "gate", "(LTollweave;[J)I"⟩
abbrev cL_road : ByteArray := method_4_code
def yL_road : MethodName := ⟨RL, "road", "(LTollweave;IIII[J)I"⟩
abbrev cL_rate : ByteArray := method_5_code
def yL_rate : MethodName := ⟨RL, "rate", "(LTollweave;III)I"⟩
abbrev cL_most : ByteArray := method_6_code
def yL_most : MethodName := ⟨RL, "most", "(LTollweave;I[J)I"⟩
abbrev cL_plate : ByteArray := method_7_code
def yL_plate : MethodName := ⟨RL, "plate", "(LTollweave;III)I"⟩
abbrev cL_top : ByteArray := method_8_code
def yL_top : MethodName := ⟨RL, "top", "(LTollweave;II[J)I"⟩
abbrev cL_exempt : ByteArray := method_9_code
def yL_exempt : MethodName := ⟨RL, "exempt", "(LTollweave;III[J)I"⟩
abbrev cL_read : ByteArray := method_10_code
def yL_read : MethodName := ⟨RL, "read", "(LTollweave;III[J)I"⟩
abbrev cL_strike : ByteArray := method_11_code
def yL_strike : MethodName := ⟨RL, "strike", "(LTollweave;I)I"⟩
abbrev cL_pass : ByteArray := method_12_code
def yL_pass : MethodName := ⟨RL, "pass", "(LTollweave;I[J)I"⟩
abbrev cL_distance : ByteArray := method_13_code
def yL_distance : MethodName := ⟨RL, "distance", "(LTollweave;II[J)I"⟩
abbrev cL_way : ByteArray := method_14_code
def yL_way : MethodName := ⟨RL, "way", "(LTollweave;III[J)I"⟩
abbrev cL_journeys : ByteArray := method_15_code
def yL_journeys : MethodName := ⟨RL, "journeys", "(LTollweave;I[J)I"⟩
abbrev cL_journey : ByteArray := method_16_code
def yL_journey : MethodName := ⟨RL, "journey", "(LTollweave;III[J)I"⟩
abbrev cL_ofReading : ByteArray := method_17_code
def yL_ofReading : MethodName := ⟨RL, "ofReading", "(LTollweave;II[J)I"⟩
abbrev cL_due : ByteArray := method_18_code
def yL_due : MethodName := ⟨RL, "due", "(LTollweave;I[J)I"⟩
abbrev cL_billed : ByteArray := method_19_code
def yL_billed : MethodName := ⟨RL, "billed", "(LTollweave;I[J)I"⟩
abbrev cL_wallet : ByteArray := method_20_code
def yL_wallet : MethodName := ⟨RL, "wallet", "(LTollweave;I[J)I"⟩
abbrev cL_own : ByteArray := method_21_code
def yL_own : MethodName := ⟨RL, "own", "(LTollweave;I[J)I"⟩
abbrev cL_share : ByteArray := method_22_code
def yL_share : MethodName := ⟨RL, "share", "(LTollweave;IZ[J)I"⟩
abbrev cL_law : ByteArray := code
def yL_law : MethodName := ⟨RL, "law", "([I)Z"⟩
end
section
/-- the words of the tables that any walk may take along -/
def TT : List Cond := lw_tbl.filter goodWord
theorem tt_of {w : Cond} (n : Nat) (h : lw_tbl[n]? = some w) (g : goodWord w = true) : w ∈ TT := List.mem_filter.mpr ⟨List.mem_of_getElem? h, g⟩
theorem tt_good {w : Cond} (h : w ∈ TT) : (w.onTables && w.keeps) = true ∨ ∃ ty, w = .arrayClass ty := good_of_word (List.mem_filter.mp h).2
theorem tt_in {args : Array Value} {s : State} (h : ∀ w ∈ lw_tbl, w.before args s = true) : ∀ w ∈ TT, w.before args s = true := fun w hw => h w (List.mem_filter.mp hw).1
theorem tw_0 : Cond.selects "Tollweave" yX6_findJourneys yX6_findJourneys ∈ TT := tt_of 0 rfl rfl
theorem tw_1 : Cond.selects "Tollweave" yX6_placeReading yX6_placeReading ∈ TT := tt_of 1 rfl rfl
theorem tw_2 : Cond.selects "Tollweave" yX6_isDoubleOf yX6_isDoubleOf ∈ TT := tt_of 2 rfl rfl
theorem tw_3 : Cond.selects "Tollweave" yX6_goesOnFrom yX6_goesOnFrom ∈ TT := tt_of 3 rfl rfl
theorem tw_4 : Cond.selects "Tollweave" yX6_payWay yX6_payWay ∈ TT := tt_of 4 rfl rfl
theorem tw_5 : Cond.selects "Tollweave$Journeys" yX1_wholeOf yX1_wholeOf ∈ TT := tt_of 5 rfl rfl
theorem tw_6 : Cond.selects "Tollweave$Journeys" yX1_ownerOfTheMost yX1_ownerOfTheMost ∈ TT := tt_of 6 rfl rfl
theorem tw_7 : Cond.selects "Tollweave$Journeys" yX1_cutShare yX1_cutShare ∈ TT := tt_of 7 rfl rfl
theorem tw_8 : Cond.selects "java/lang/Throwable" ⟨"java/lang/Throwable","fillInStackTrace","(I)Ljava/lang/Throwable;"⟩ ⟨"java/lang/Throwable","fillInStackTrace","(I)Ljava/lang/Throwable;"⟩ ∈ TT := tt_of 8 rfl rfl
theorem tw_9 : Cond.selects "Tollweave" yX6_requireGate yX6_requireGate ∈ TT := tt_of 9 rfl rfl
theorem tw_10 : Cond.selects "Tollweave$Roads" yX4_shortenDistances yX4_shortenDistances ∈ TT := tt_of 10 rfl rfl
theorem tw_11 : Cond.selects "Tollweave" yX6_requireReading yX6_requireReading ∈ TT := tt_of 11 rfl rfl
theorem tw_12 : Cond.selects "Tollweave" yX6_isDoubleNow yX6_isDoubleNow ∈ TT := tt_of 12 rfl rfl
theorem tw_13 : Cond.selects "Tollweave" yX6_journeyNow yX6_journeyNow ∈ TT := tt_of 13 rfl rfl
theorem tw_14 : Cond.selects "Tollweave" yX6_dueToOwner yX6_dueToOwner ∈ TT := tt_of 14 rfl rfl
theorem tw_15 : Cond.selects "TollweaveModel" yX7_measures yX7_measures ∈ TT := tt_of 15 rfl rfl
theorem tw_16 : Cond.selects "TollweaveModel" yX7_isGate yX7_isGate ∈ TT := tt_of 16 rfl rfl
theorem tw_17 : Cond.selects "TollweaveModel" yX7_isReading yX7_isReading ∈ TT := tt_of 17 rfl rfl
theorem tw_18 : Cond.selects "TollweaveModel" yX7_dueOf yX7_dueOf ∈ TT := tt_of 18 rfl rfl
theorem tw_19 : Cond.selects "TollweaveModel" yX7_goes yX7_goes ∈ TT := tt_of 19 rfl rfl
theorem tw_20 : Cond.selects "TollweaveModel" yX7_nextReading yX7_nextReading ∈ TT := tt_of 20 rfl rfl
theorem tw_21 : Cond.selects "TollweaveModel" yX7_away yX7_away ∈ TT := tt_of 21 rfl rfl
theorem tw_22 : Cond.selects "TollweaveModel" yX7_pays yX7_pays ∈ TT := tt_of 22 rfl rfl
theorem tw_23 : Cond.selects "TollweaveModel" yX7_isExempt yX7_isExempt ∈ TT := tt_of 23 rfl rfl
theorem tw_24 : Cond.selects "TollweaveModel" yX7_next yX7_next ∈ TT := tt_of 24 rfl rfl
theorem tw_25 : Cond.selects "TollweaveModel" yX7_otherEnd yX7_otherEnd ∈ TT := tt_of 25 rfl rfl
theorem tw_26 : Cond.selects "TollweaveModel" yX7_begins yX7_begins ∈ TT := tt_of 26 rfl rfl
theorem tw_27 : Cond.selects "TollweaveModel" yX7_shares yX7_shares ∈ TT := tt_of 27 rfl rfl
theorem tw_28 : Cond.selects "TollweaveModel" yX7_isOver yX7_isOver ∈ TT := tt_of 28 rfl rfl
theorem tw_29 : Cond.selects "TollweaveModel" yX7_dueTo yX7_dueTo ∈ TT := tt_of 29 rfl rfl
theorem tw_30 : Cond.initialized "TollweaveLaw" ∈ TT := tt_of 30 rfl rfl
theorem tw_31 : Cond.initialized "Tollweave" ∈ TT := tt_of 31 rfl rfl
theorem tw_32 : Cond.initialized "Tollweave$Roads" ∈ TT := tt_of 32 rfl rfl
theorem tw_33 : Cond.initialized "Tollweave$Tariff" ∈ TT := tt_of 33 rfl rfl
theorem tw_34 : Cond.initialized "Tollweave$Plates" ∈ TT := tt_of 34 rfl rfl
theorem tw_35 : Cond.initialized "Tollweave$Readings" ∈ TT := tt_of 35 rfl rfl
theorem tw_36 : Cond.initialized "Tollweave$Journeys" ∈ TT := tt_of 36 rfl rfl
theorem tw_37 : Cond.initialized "Tollweave$Accounts" ∈ TT := tt_of 37 rfl rfl
theorem tw_38 : Cond.initialized "TollweaveModel" ∈ TT := tt_of 38 rfl rfl
theorem tw_39 : Cond.initialized "java/lang/Throwable" ∈ TT := tt_of 39 rfl rfl
theorem tw_40 : Cond.initialized "java/lang/Exception" ∈ TT := tt_of 40 rfl rfl
theorem tw_41 : Cond.initialized "java/lang/RuntimeException" ∈ TT := tt_of 41 rfl rfl
theorem tw_42 : Cond.initialized "java/lang/IllegalStateException" ∈ TT := tt_of 42 rfl rfl
theorem tw_43 : Cond.initialized "java/lang/IndexOutOfBoundsException" ∈ TT := tt_of 43 rfl rfl
theorem tw_44 : Cond.initialized "java/lang/IllegalArgumentException" ∈ TT := tt_of 44 rfl rfl
theorem tw_45 : Cond.initialized "java/lang/Math" ∈ TT := tt_of 45 rfl rfl
theorem tw_46 : Cond.classLink "TollweaveLaw" 8 "Tollweave" ∈ TT := tt_of 46 rfl rfl
theorem tw_47 : Cond.instantiable "Tollweave" 7 ∈ TT := tt_of 47 rfl rfl
theorem tw_48 : Cond.methodLink "TollweaveLaw" 85 yX6_init ∈ TT := tt_of 48 rfl rfl
theorem tw_49 : Cond.instanceMethod yX6_init ∈ TT := tt_of 49 rfl rfl
theorem tw_50 : Cond.code yX6_init cX6_init 1 ((Option.none : Option ClassFile.FieldType)) ∈ TT := tt_of 50 rfl rfl
theorem tw_51 : Cond.methodLink "Tollweave" 1 ⟨"java/lang/Object","<init>","()V"⟩ ∈ TT := tt_of 51 rfl rfl
theorem tw_52 : Cond.instanceMethod ⟨"java/lang/Object","<init>","()V"⟩ ∈ TT := tt_of 52 rfl rfl
theorem tw_53 : Cond.code ⟨"java/lang/Object","<init>","()V"⟩ object_method_1_code 1 ((Option.none : Option ClassFile.FieldType)) ∈ TT := tt_of 53 rfl rfl
theorem tw_54 : Cond.classLink "Tollweave" 7 "Tollweave$Roads" ∈ TT := tt_of 54 rfl rfl
theorem tw_55 : Cond.instantiable "Tollweave$Roads" 7 ∈ TT := tt_of 55 rfl rfl
theorem tw_56 : Cond.methodLink "Tollweave" 9 yX4_init ∈ TT := tt_of 56 rfl rfl
theorem tw_57 : Cond.instanceMethod yX4_init ∈ TT := tt_of 57 rfl rfl
theorem tw_58 : Cond.code yX4_init cX4_init 3 ((Option.none : Option ClassFile.FieldType)) ∈ TT := tt_of 58 rfl rfl
theorem tw_59 : Cond.methodLink "Tollweave$Roads" 3 ⟨"java/lang/Object","<init>","()V"⟩ ∈ TT := tt_of 59 rfl rfl
theorem tw_60 : Cond.classLink "Tollweave$Roads" 24 "[[I" ∈ TT := tt_of 60 rfl rfl
theorem tw_62 : Cond.constant "Tollweave$Roads" 29 1000000 ∈ TT := tt_of 62 rfl rfl
theorem tw_63 : Cond.fieldLink "Tollweave$Roads" 9 "Tollweave$Roads" "one" "[I" ∈ TT := tt_of 63 rfl rfl
theorem tw_64 : Cond.fieldLink "Tollweave$Roads" 15 "Tollweave$Roads" "other" "[I" ∈ TT := tt_of 64 rfl rfl
theorem tw_65 : Cond.fieldLink "Tollweave$Roads" 18 "Tollweave$Roads" "length" "[I" ∈ TT := tt_of 65 rfl rfl
theorem tw_67 : Cond.fieldLink "Tollweave$Roads" 21 "Tollweave$Roads" "owner" "[I" ∈ TT := tt_of 67 rfl rfl
theorem tw_69 : Cond.fieldLink "Tollweave$Roads" 26 "Tollweave$Roads" "distance" "[[I" ∈ TT := tt_of 69 rfl rfl
theorem tw_71 : Cond.fieldLink "Tollweave$Roads" 30 "Tollweave$Roads" "gateCount" "I" ∈ TT := tt_of 71 rfl rfl
theorem tw_73 : Cond.fieldLink "Tollweave$Roads" 34 "Tollweave$Roads" "roadCount" "I" ∈ TT := tt_of 73 rfl rfl
theorem tw_75 : Cond.laysFinal "Tollweave$Roads" "Tollweave$Roads" "one" "[I" ∈ TT := tt_of 75 rfl rfl
theorem tw_77 : Cond.laysFinal "Tollweave$Roads" "Tollweave$Roads" "other" "[I" ∈ TT := tt_of 77 rfl rfl
theorem tw_79 : Cond.laysFinal "Tollweave$Roads" "Tollweave$Roads" "length" "[I" ∈ TT := tt_of 79 rfl rfl
theorem tw_81 : Cond.laysFinal "Tollweave$Roads" "Tollweave$Roads" "owner" "[I" ∈ TT := tt_of 81 rfl rfl
theorem tw_83 : Cond.laysFinal "Tollweave$Roads" "Tollweave$Roads" "distance" "[[I" ∈ TT := tt_of 83 rfl rfl
theorem tw_85 : Cond.lays "Tollweave$Roads" "Tollweave$Roads" "gateCount" "I" ∈ TT := tt_of 85 rfl rfl
theorem tw_87 : Cond.lays "Tollweave$Roads" "Tollweave$Roads" "roadCount" "I" ∈ TT := tt_of 87 rfl rfl
theorem tw_90 : Cond.arrayClass .int ∈ TT := tt_of 90 rfl rfl
theorem tw_91 : Cond.classLink "Tollweave" 16 "Tollweave$Tariff" ∈ TT := tt_of 91 rfl rfl
theorem tw_92 : Cond.instantiable "Tollweave$Tariff" 3 ∈ TT := tt_of 92 rfl rfl
theorem tw_93 : Cond.methodLink "Tollweave" 18 yX5_init ∈ TT := tt_of 93 rfl rfl
theorem tw_94 : Cond.instanceMethod yX5_init ∈ TT := tt_of 94 rfl rfl
theorem tw_95 : Cond.code yX5_init cX5_init 2 ((Option.none : Option ClassFile.FieldType)) ∈ TT := tt_of 95 rfl rfl
theorem tw_96 : Cond.methodLink "Tollweave$Tariff" 3 ⟨"java/lang/Object","<init>","()V"⟩ ∈ TT := tt_of 96 rfl rfl
theorem tw_97 : Cond.fieldLink "Tollweave$Tariff" 9 "Tollweave$Tariff" "rate" "[I" ∈ TT := tt_of 97 rfl rfl
theorem tw_99 : Cond.fieldLink "Tollweave$Tariff" 15 "Tollweave$Tariff" "busyPercent" "[I" ∈ TT := tt_of 99 rfl rfl
theorem tw_101 : Cond.fieldLink "Tollweave$Tariff" 18 "Tollweave$Tariff" "mostCents" "I" ∈ TT := tt_of 101 rfl rfl
theorem tw_103 : Cond.laysFinal "Tollweave$Tariff" "Tollweave$Tariff" "rate" "[I" ∈ TT := tt_of 103 rfl rfl
theorem tw_105 : Cond.laysFinal "Tollweave$Tariff" "Tollweave$Tariff" "busyPercent" "[I" ∈ TT := tt_of 105 rfl rfl
theorem tw_107 : Cond.lays "Tollweave$Tariff" "Tollweave$Tariff" "mostCents" "I" ∈ TT := tt_of 107 rfl rfl
theorem tw_110 : Cond.classLink "Tollweave" 23 "Tollweave$Plates" ∈ TT := tt_of 110 rfl rfl
theorem tw_111 : Cond.instantiable "Tollweave$Plates" 6 ∈ TT := tt_of 111 rfl rfl
theorem tw_112 : Cond.methodLink "Tollweave" 25 yX2_init ∈ TT := tt_of 112 rfl rfl
theorem tw_113 : Cond.instanceMethod yX2_init ∈ TT := tt_of 113 rfl rfl
theorem tw_114 : Cond.code yX2_init cX2_init 2 ((Option.none : Option ClassFile.FieldType)) ∈ TT := tt_of 114 rfl rfl
theorem tw_115 : Cond.methodLink "Tollweave$Plates" 3 ⟨"java/lang/Object","<init>","()V"⟩ ∈ TT := tt_of 115 rfl rfl
theorem tw_116 : Cond.fieldLink "Tollweave$Plates" 9 "Tollweave$Plates" "kind" "[I" ∈ TT := tt_of 116 rfl rfl
theorem tw_118 : Cond.fieldLink "Tollweave$Plates" 15 "Tollweave$Plates" "holder" "[I" ∈ TT := tt_of 118 rfl rfl
theorem tw_120 : Cond.fieldLink "Tollweave$Plates" 18 "Tollweave$Plates" "spanPlate" "[I" ∈ TT := tt_of 120 rfl rfl
theorem tw_121 : Cond.fieldLink "Tollweave$Plates" 21 "Tollweave$Plates" "spanFrom" "[I" ∈ TT := tt_of 121 rfl rfl
theorem tw_122 : Cond.fieldLink "Tollweave$Plates" 24 "Tollweave$Plates" "spanTo" "[I" ∈ TT := tt_of 122 rfl rfl
theorem tw_123 : Cond.fieldLink "Tollweave$Plates" 27 "Tollweave$Plates" "spanCount" "I" ∈ TT := tt_of 123 rfl rfl
theorem tw_125 : Cond.laysFinal "Tollweave$Plates" "Tollweave$Plates" "kind" "[I" ∈ TT := tt_of 125 rfl rfl
theorem tw_127 : Cond.laysFinal "Tollweave$Plates" "Tollweave$Plates" "holder" "[I" ∈ TT := tt_of 127 rfl rfl
theorem tw_129 : Cond.laysFinal "Tollweave$Plates" "Tollweave$Plates" "spanPlate" "[I" ∈ TT := tt_of 129 rfl rfl
theorem tw_131 : Cond.laysFinal "Tollweave$Plates" "Tollweave$Plates" "spanFrom" "[I" ∈ TT := tt_of 131 rfl rfl
theorem tw_133 : Cond.laysFinal "Tollweave$Plates" "Tollweave$Plates" "spanTo" "[I" ∈ TT := tt_of 133 rfl rfl
theorem tw_135 : Cond.lays "Tollweave$Plates" "Tollweave$Plates" "spanCount" "I" ∈ TT := tt_of 135 rfl rfl
theorem tw_138 : Cond.classLink "Tollweave" 30 "Tollweave$Readings" ∈ TT := tt_of 138 rfl rfl
theorem tw_139 : Cond.instantiable "Tollweave$Readings" 6 ∈ TT := tt_of 139 rfl rfl
theorem tw_140 : Cond.methodLink "Tollweave" 32 yX3_init ∈ TT := tt_of 140 rfl rfl
theorem tw_141 : Cond.instanceMethod yX3_init ∈ TT := tt_of 141 rfl rfl
theorem tw_142 : Cond.code yX3_init cX3_init 1 ((Option.none : Option ClassFile.FieldType)) ∈ TT := tt_of 142 rfl rfl
theorem tw_143 : Cond.methodLink "Tollweave$Readings" 3 ⟨"java/lang/Object","<init>","()V"⟩ ∈ TT := tt_of 143 rfl rfl
theorem tw_144 : Cond.fieldLink "Tollweave$Readings" 9 "Tollweave$Readings" "gateOf" "[I" ∈ TT := tt_of 144 rfl rfl
theorem tw_146 : Cond.fieldLink "Tollweave$Readings" 15 "Tollweave$Readings" "plateOf" "[I" ∈ TT := tt_of 146 rfl rfl
theorem tw_148 : Cond.fieldLink "Tollweave$Readings" 18 "Tollweave$Readings" "minuteOf" "[I" ∈ TT := tt_of 148 rfl rfl
theorem tw_150 : Cond.fieldLink "Tollweave$Readings" 21 "Tollweave$Readings" "isStruck" "[Z" ∈ TT := tt_of 150 rfl rfl
theorem tw_152 : Cond.fieldLink "Tollweave$Readings" 25 "Tollweave$Readings" "inOrder" "[I" ∈ TT := tt_of 152 rfl rfl
theorem tw_154 : Cond.fieldLink "Tollweave$Readings" 28 "Tollweave$Readings" "count" "I" ∈ TT := tt_of 154 rfl rfl
theorem tw_156 : Cond.laysFinal "Tollweave$Readings" "Tollweave$Readings" "gateOf" "[I" ∈ TT := tt_of 156 rfl rfl
theorem tw_158 : Cond.laysFinal "Tollweave$Readings" "Tollweave$Readings" "plateOf" "[I" ∈ TT := tt_of 158 rfl rfl
theorem tw_160 : Cond.laysFinal "Tollweave$Readings" "Tollweave$Readings" "minuteOf" "[I" ∈ TT := tt_of 160 rfl rfl
theorem tw_162 : Cond.laysFinal "Tollweave$Readings" "Tollweave$Readings" "isStruck" "[Z" ∈ TT := tt_of 162 rfl rfl
theorem tw_164 : Cond.laysFinal "Tollweave$Readings" "Tollweave$Readings" "inOrder" "[I" ∈ TT := tt_of 164 rfl rfl
theorem tw_166 : Cond.lays "Tollweave$Readings" "Tollweave$Readings" "count" "I" ∈ TT := tt_of 166 rfl rfl
theorem tw_169 : Cond.arrayClass .boolean ∈ TT := tt_of 169 rfl rfl
theorem tw_170 : Cond.classLink "Tollweave" 37 "Tollweave$Journeys" ∈ TT := tt_of 170 rfl rfl
theorem tw_171 : Cond.instantiable "Tollweave$Journeys" 7 ∈ TT := tt_of 171 rfl rfl
theorem tw_172 : Cond.methodLink "Tollweave" 39 yX1_init ∈ TT := tt_of 172 rfl rfl
theorem tw_173 : Cond.instanceMethod yX1_init ∈ TT := tt_of 173 rfl rfl
theorem tw_174 : Cond.code yX1_init cX1_init 1 ((Option.none : Option ClassFile.FieldType)) ∈ TT := tt_of 174 rfl rfl
theorem tw_175 : Cond.methodLink "Tollweave$Journeys" 3 ⟨"java/lang/Object","<init>","()V"⟩ ∈ TT := tt_of 175 rfl rfl
theorem tw_176 : Cond.classLink "Tollweave$Journeys" 21 "[[I" ∈ TT := tt_of 176 rfl rfl
theorem tw_177 : Cond.fieldLink "Tollweave$Journeys" 9 "Tollweave$Journeys" "firstMinute" "[I" ∈ TT := tt_of 177 rfl rfl
theorem tw_179 : Cond.fieldLink "Tollweave$Journeys" 15 "Tollweave$Journeys" "lastMinute" "[I" ∈ TT := tt_of 179 rfl rfl
theorem tw_181 : Cond.fieldLink "Tollweave$Journeys" 18 "Tollweave$Journeys" "counting" "[I" ∈ TT := tt_of 181 rfl rfl
theorem tw_183 : Cond.fieldLink "Tollweave$Journeys" 23 "Tollweave$Journeys" "toPay" "[[I" ∈ TT := tt_of 183 rfl rfl
theorem tw_184 : Cond.fieldLink "Tollweave$Journeys" 26 "Tollweave$Journeys" "journeyOf" "[I" ∈ TT := tt_of 184 rfl rfl
theorem tw_186 : Cond.fieldLink "Tollweave$Journeys" 29 "Tollweave$Journeys" "isDouble" "[Z" ∈ TT := tt_of 186 rfl rfl
theorem tw_188 : Cond.fieldLink "Tollweave$Journeys" 33 "Tollweave$Journeys" "count" "I" ∈ TT := tt_of 188 rfl rfl
theorem tw_190 : Cond.laysFinal "Tollweave$Journeys" "Tollweave$Journeys" "firstMinute" "[I" ∈ TT := tt_of 190 rfl rfl
theorem tw_192 : Cond.laysFinal "Tollweave$Journeys" "Tollweave$Journeys" "lastMinute" "[I" ∈ TT := tt_of 192 rfl rfl
theorem tw_194 : Cond.laysFinal "Tollweave$Journeys" "Tollweave$Journeys" "counting" "[I" ∈ TT := tt_of 194 rfl rfl
theorem tw_196 : Cond.laysFinal "Tollweave$Journeys" "Tollweave$Journeys" "toPay" "[[I" ∈ TT := tt_of 196 rfl rfl
theorem tw_198 : Cond.laysFinal "Tollweave$Journeys" "Tollweave$Journeys" "journeyOf" "[I" ∈ TT := tt_of 198 rfl rfl
theorem tw_200 : Cond.laysFinal "Tollweave$Journeys" "Tollweave$Journeys" "isDouble" "[Z" ∈ TT := tt_of 200 rfl rfl
theorem tw_202 : Cond.lays "Tollweave$Journeys" "Tollweave$Journeys" "count" "I" ∈ TT := tt_of 202 rfl rfl
theorem tw_205 : Cond.classLink "Tollweave" 44 "Tollweave$Accounts" ∈ TT := tt_of 205 rfl rfl
theorem tw_206 : Cond.instantiable "Tollweave$Accounts" 4 ∈ TT := tt_of 206 rfl rfl
theorem tw_207 : Cond.methodLink "Tollweave" 46 yX0_init ∈ TT := tt_of 207 rfl rfl
theorem tw_208 : Cond.instanceMethod yX0_init ∈ TT := tt_of 208 rfl rfl
theorem tw_209 : Cond.code yX0_init cX0_init 1 ((Option.none : Option ClassFile.FieldType)) ∈ TT := tt_of 209 rfl rfl
theorem tw_210 : Cond.methodLink "Tollweave$Accounts" 3 ⟨"java/lang/Object","<init>","()V"⟩ ∈ TT := tt_of 210 rfl rfl
theorem tw_211 : Cond.fieldLink "Tollweave$Accounts" 9 "Tollweave$Accounts" "wallet" "[J" ∈ TT := tt_of 211 rfl rfl
theorem tw_213 : Cond.fieldLink "Tollweave$Accounts" 15 "Tollweave$Accounts" "own" "[J" ∈ TT := tt_of 213 rfl rfl
theorem tw_215 : Cond.fieldLink "Tollweave$Accounts" 18 "Tollweave$Accounts" "billed" "[J" ∈ TT := tt_of 215 rfl rfl
theorem tw_217 : Cond.fieldLink "Tollweave$Accounts" 21 "Tollweave$Accounts" "got" "[J" ∈ TT := tt_of 217 rfl rfl
theorem tw_219 : Cond.laysFinal "Tollweave$Accounts" "Tollweave$Accounts" "wallet" "[J" ∈ TT := tt_of 219 rfl rfl
theorem tw_221 : Cond.laysFinal "Tollweave$Accounts" "Tollweave$Accounts" "own" "[J" ∈ TT := tt_of 221 rfl rfl
theorem tw_223 : Cond.laysFinal "Tollweave$Accounts" "Tollweave$Accounts" "billed" "[J" ∈ TT := tt_of 223 rfl rfl
theorem tw_225 : Cond.laysFinal "Tollweave$Accounts" "Tollweave$Accounts" "got" "[J" ∈ TT := tt_of 225 rfl rfl
theorem tw_228 : Cond.arrayClass .long ∈ TT := tt_of 228 rfl rfl
theorem tw_229 : Cond.fieldLink "Tollweave" 10 "Tollweave" "roads" "LTollweave$Roads;" ∈ TT := tt_of 229 rfl rfl
theorem tw_230 : Cond.fieldLink "Tollweave" 19 "Tollweave" "tariff" "LTollweave$Tariff;" ∈ TT := tt_of 230 rfl rfl
theorem tw_231 : Cond.fieldLink "Tollweave" 26 "Tollweave" "plates" "LTollweave$Plates;" ∈ TT := tt_of 231 rfl rfl
theorem tw_232 : Cond.fieldLink "Tollweave" 33 "Tollweave" "readings" "LTollweave$Readings;" ∈ TT := tt_of 232 rfl rfl
theorem tw_233 : Cond.fieldLink "Tollweave" 40 "Tollweave" "journeys" "LTollweave$Journeys;" ∈ TT := tt_of 233 rfl rfl
theorem tw_234 : Cond.fieldLink "Tollweave" 47 "Tollweave" "accounts" "LTollweave$Accounts;" ∈ TT := tt_of 234 rfl rfl
theorem tw_235 : Cond.fieldLink "Tollweave" 51 "Tollweave" "now" "I" ∈ TT := tt_of 235 rfl rfl
theorem tw_236 : Cond.laysFinal "Tollweave" "Tollweave" "roads" "LTollweave$Roads;" ∈ TT := tt_of 236 rfl rfl
theorem tw_238 : Cond.laysFinal "Tollweave" "Tollweave" "tariff" "LTollweave$Tariff;" ∈ TT := tt_of 238 rfl rfl
theorem tw_240 : Cond.laysFinal "Tollweave" "Tollweave" "plates" "LTollweave$Plates;" ∈ TT := tt_of 240 rfl rfl
theorem tw_242 : Cond.laysFinal "Tollweave" "Tollweave" "readings" "LTollweave$Readings;" ∈ TT := tt_of 242 rfl rfl
theorem tw_244 : Cond.laysFinal "Tollweave" "Tollweave" "journeys" "LTollweave$Journeys;" ∈ TT := tt_of 244 rfl rfl
theorem tw_246 : Cond.laysFinal "Tollweave" "Tollweave" "accounts" "LTollweave$Accounts;" ∈ TT := tt_of 246 rfl rfl
theorem tw_248 : Cond.lays "Tollweave" "Tollweave" "now" "I" ∈ TT := tt_of 248 rfl rfl
theorem tw_251 : Cond.methodLink "TollweaveLaw" 131 yX6_bill ∈ TT := tt_of 251 rfl rfl
theorem tw_252 : Cond.instanceMethod yX6_bill ∈ TT := tt_of 252 rfl rfl
theorem tw_253 : Cond.selects "Tollweave" yX6_bill yX6_bill ∈ TT := tt_of 253 rfl rfl
theorem tw_254 : Cond.code yX6_bill cX6_bill 7 ((Option.some .long)) ∈ TT := tt_of 254 rfl rfl
theorem tw_255 : Cond.methodLink "Tollweave" 146 yX0_forgetShares ∈ TT := tt_of 255 rfl rfl
theorem tw_256 : Cond.instanceMethod yX0_forgetShares ∈ TT := tt_of 256 rfl rfl
theorem tw_257 : Cond.selects "Tollweave$Accounts" yX0_forgetShares yX0_forgetShares ∈ TT := tt_of 257 rfl rfl
theorem tw_258 : Cond.code yX0_forgetShares cX0_forgetShares 2 ((Option.none : Option ClassFile.FieldType)) ∈ TT := tt_of 258 rfl rfl
theorem tw_259 : Cond.methodLink "Tollweave" 149 yX6_findJourneys ∈ TT := tt_of 259 rfl rfl
theorem tw_261 : Cond.instanceMethod yX6_findJourneys ∈ TT := tt_of 261 rfl rfl
theorem tw_262 : Cond.code yX6_findJourneys cX6_findJourneys 5 ((Option.none : Option ClassFile.FieldType)) ∈ TT := tt_of 262 rfl rfl
theorem tw_263 : Cond.methodLink "Tollweave" 244 yX1_forgetAll ∈ TT := tt_of 263 rfl rfl
theorem tw_264 : Cond.instanceMethod yX1_forgetAll ∈ TT := tt_of 264 rfl rfl
theorem tw_265 : Cond.selects "Tollweave$Journeys" yX1_forgetAll yX1_forgetAll ∈ TT := tt_of 265 rfl rfl
theorem tw_266 : Cond.code yX1_forgetAll cX1_forgetAll 1 ((Option.none : Option ClassFile.FieldType)) ∈ TT := tt_of 266 rfl rfl
theorem tw_267 : Cond.methodLink "Tollweave" 250 yX6_placeReading ∈ TT := tt_of 267 rfl rfl
theorem tw_269 : Cond.instanceMethod yX6_placeReading ∈ TT := tt_of 269 rfl rfl
theorem tw_270 : Cond.code yX6_placeReading cX6_placeReading 5 ((Option.some .int)) ∈ TT := tt_of 270 rfl rfl
theorem tw_271 : Cond.methodLink "Tollweave" 253 yX1_begin ∈ TT := tt_of 271 rfl rfl
theorem tw_272 : Cond.instanceMethod yX1_begin ∈ TT := tt_of 272 rfl rfl
theorem tw_273 : Cond.selects "Tollweave$Journeys" yX1_begin yX1_begin ∈ TT := tt_of 273 rfl rfl
theorem tw_274 : Cond.code yX1_begin cX1_begin 5 ((Option.none : Option ClassFile.FieldType)) ∈ TT := tt_of 274 rfl rfl
theorem tw_275 : Cond.methodLink "Tollweave" 260 yX6_isDoubleOf ∈ TT := tt_of 275 rfl rfl
theorem tw_277 : Cond.instanceMethod yX6_isDoubleOf ∈ TT := tt_of 277 rfl rfl
theorem tw_278 : Cond.code yX6_isDoubleOf cX6_isDoubleOf 3 ((Option.some .boolean)) ∈ TT := tt_of 278 rfl rfl
theorem tw_279 : Cond.methodLink "Tollweave" 275 yX3_minutesBetween ∈ TT := tt_of 279 rfl rfl
theorem tw_280 : Cond.instanceMethod yX3_minutesBetween ∈ TT := tt_of 280 rfl rfl
theorem tw_281 : Cond.selects "Tollweave$Readings" yX3_minutesBetween yX3_minutesBetween ∈ TT := tt_of 281 rfl rfl
theorem tw_282 : Cond.code yX3_minutesBetween cX3_minutesBetween 3 ((Option.some .int)) ∈ TT := tt_of 282 rfl rfl
theorem tw_283 : Cond.methodLink "Tollweave" 263 yX1_putDouble ∈ TT := tt_of 283 rfl rfl
theorem tw_284 : Cond.instanceMethod yX1_putDouble ∈ TT := tt_of 284 rfl rfl
theorem tw_285 : Cond.selects "Tollweave$Journeys" yX1_putDouble yX1_putDouble ∈ TT := tt_of 285 rfl rfl
theorem tw_286 : Cond.code yX1_putDouble cX1_putDouble 3 ((Option.none : Option ClassFile.FieldType)) ∈ TT := tt_of 286 rfl rfl
theorem tw_287 : Cond.methodLink "Tollweave" 266 yX6_goesOnFrom ∈ TT := tt_of 287 rfl rfl
theorem tw_289 : Cond.instanceMethod yX6_goesOnFrom ∈ TT := tt_of 289 rfl rfl
theorem tw_290 : Cond.code yX6_goesOnFrom cX6_goesOnFrom 7 ((Option.some .boolean)) ∈ TT := tt_of 290 rfl rfl
theorem tw_291 : Cond.methodLink "Tollweave" 167 yX4_hasWay ∈ TT := tt_of 291 rfl rfl
theorem tw_292 : Cond.instanceMethod yX4_hasWay ∈ TT := tt_of 292 rfl rfl
theorem tw_293 : Cond.selects "Tollweave$Roads" yX4_hasWay yX4_hasWay ∈ TT := tt_of 293 rfl rfl
theorem tw_294 : Cond.code yX4_hasWay cX4_hasWay 3 ((Option.some .boolean)) ∈ TT := tt_of 294 rfl rfl
theorem tw_295 : Cond.methodLink "Tollweave" 269 yX1_goOn ∈ TT := tt_of 295 rfl rfl
theorem tw_296 : Cond.instanceMethod yX1_goOn ∈ TT := tt_of 296 rfl rfl
theorem tw_297 : Cond.selects "Tollweave$Journeys" yX1_goOn yX1_goOn ∈ TT := tt_of 297 rfl rfl
theorem tw_298 : Cond.code yX1_goOn cX1_goOn 4 ((Option.none : Option ClassFile.FieldType)) ∈ TT := tt_of 298 rfl rfl
theorem tw_299 : Cond.methodLink "Tollweave" 272 yX6_payWay ∈ TT := tt_of 299 rfl rfl
set_option maxRecDepth 20000 in
theorem tw_301 : Cond.instanceMethod yX6_payWay ∈ TT := tt_of 301 rfl rfl
set_option maxRecDepth 20000 in
theorem tw_302 : Cond.code yX6_payWay cX6_payWay 11 ((Option.none : Option ClassFile.FieldType)) ∈ TT := tt_of 302 rfl rfl
set_option maxRecDepth 20000 in
theorem tw_303 : Cond.methodLink "Tollweave" 278 yX2_isExempt ∈ TT := tt_of 303 rfl rfl
set_option maxRecDepth 20000 in
theorem tw_304 : Cond.instanceMethod yX2_isExempt ∈ TT := tt_of 304 rfl rfl
set_option maxRecDepth 20000 in
theorem tw_305 : Cond.selects "Tollweave$Plates" yX2_isExempt yX2_isExempt ∈ TT := tt_of 305 rfl rfl
set_option maxRecDepth 20000 in
theorem tw_306 : Cond.code yX2_isExempt cX2_isExempt 4 ((Option.some .boolean)) ∈ TT := tt_of 306 rfl rfl
set_option maxRecDepth 20000 in
theorem tw_307 : Cond.methodLink "Tollweave" 281 yX4_roadTowards ∈ TT := tt_of 307 rfl rfl
set_option maxRecDepth 20000 in
theorem tw_308 : Cond.instanceMethod yX4_roadTowards ∈ TT := tt_of 308 rfl rfl
set_option maxRecDepth 20000 in
theorem tw_309 : Cond.selects "Tollweave$Roads" yX4_roadTowards yX4_roadTowards ∈ TT := tt_of 309 rfl rfl
set_option maxRecDepth 20000 in
theorem tw_310 : Cond.code yX4_roadTowards cX4_roadTowards 5 ((Option.some .int)) ∈ TT := tt_of 310 rfl rfl
set_option maxRecDepth 20000 in
theorem tw_311 : Cond.methodLink "Tollweave$Roads" 50 yX4_otherEnd ∈ TT := tt_of 311 rfl rfl
set_option maxRecDepth 20000 in
theorem tw_312 : Cond.instanceMethod yX4_otherEnd ∈ TT := tt_of 312 rfl rfl
set_option maxRecDepth 20000 in
theorem tw_313 : Cond.selects "Tollweave$Roads" yX4_otherEnd yX4_otherEnd ∈ TT := tt_of 313 rfl rfl
set_option maxRecDepth 20000 in
theorem tw_314 : Cond.code yX4_otherEnd cX4_otherEnd 3 ((Option.some .int)) ∈ TT := tt_of 314 rfl rfl
set_option maxRecDepth 20000 in
theorem tw_315 : Cond.methodLink "Tollweave" 287 yX5_centsFor ∈ TT := tt_of 315 rfl rfl
set_option maxRecDepth 20000 in
theorem tw_316 : Cond.instanceMethod yX5_centsFor ∈ TT := tt_of 316 rfl rfl
set_option maxRecDepth 20000 in
theorem tw_317 : Cond.selects "Tollweave$Tariff" yX5_centsFor yX5_centsFor ∈ TT := tt_of 317 rfl rfl
set_option maxRecDepth 20000 in
theorem tw_318 : Cond.code yX5_centsFor cX5_centsFor 5 ((Option.some .int)) ∈ TT := tt_of 318 rfl rfl
set_option maxRecDepth 20000 in
theorem tw_319 : Cond.methodLink "Tollweave$Tariff" 22 yX5_isBusy ∈ TT := tt_of 319 rfl rfl
set_option maxRecDepth 20000 in
theorem tw_320 : Cond.static yX5_isBusy ∈ TT := tt_of 320 rfl rfl
set_option maxRecDepth 20000 in
theorem tw_321 : Cond.code yX5_isBusy cX5_isBusy 2 ((Option.some .boolean)) ∈ TT := tt_of 321 rfl rfl
set_option maxRecDepth 20000 in
theorem tw_322 : Cond.methodLink "Tollweave" 293 yX1_pay ∈ TT := tt_of 322 rfl rfl
set_option maxRecDepth 20000 in
theorem tw_323 : Cond.instanceMethod yX1_pay ∈ TT := tt_of 323 rfl rfl
set_option maxRecDepth 20000 in
theorem tw_324 : Cond.selects "Tollweave$Journeys" yX1_pay yX1_pay ∈ TT := tt_of 324 rfl rfl
set_option maxRecDepth 20000 in
theorem tw_325 : Cond.code yX1_pay cX1_pay 4 ((Option.none : Option ClassFile.FieldType)) ∈ TT := tt_of 325 rfl rfl
set_option maxRecDepth 20000 in
theorem tw_326 : Cond.methodLink "Tollweave" 296 yX4_otherEnd ∈ TT := tt_of 326 rfl rfl
set_option maxRecDepth 20000 in
theorem tw_327 : Cond.methodLink "Tollweave" 152 yX1_sumFares ∈ TT := tt_of 327 rfl rfl
set_option maxRecDepth 20000 in
theorem tw_328 : Cond.instanceMethod yX1_sumFares ∈ TT := tt_of 328 rfl rfl
set_option maxRecDepth 20000 in
theorem tw_329 : Cond.selects "Tollweave$Journeys" yX1_sumFares yX1_sumFares ∈ TT := tt_of 329 rfl rfl
set_option maxRecDepth 20000 in
theorem tw_330 : Cond.code yX1_sumFares cX1_sumFares 6 ((Option.some .long)) ∈ TT := tt_of 330 rfl rfl
set_option maxRecDepth 20000 in
theorem tw_331 : Cond.methodLink "Tollweave$Journeys" 54 yX1_isOver ∈ TT := tt_of 331 rfl rfl
set_option maxRecDepth 20000 in
theorem tw_332 : Cond.instanceMethod yX1_isOver ∈ TT := tt_of 332 rfl rfl
set_option maxRecDepth 20000 in
theorem tw_333 : Cond.selects "Tollweave$Journeys" yX1_isOver yX1_isOver ∈ TT := tt_of 333 rfl rfl
set_option maxRecDepth 20000 in
theorem tw_334 : Cond.code yX1_isOver cX1_isOver 3 ((Option.some .boolean)) ∈ TT := tt_of 334 rfl rfl
set_option maxRecDepth 20000 in
theorem tw_335 : Cond.methodLink "Tollweave$Journeys" 58 yX1_fareOf ∈ TT := tt_of 335 rfl rfl
set_option maxRecDepth 20000 in
theorem tw_336 : Cond.instanceMethod yX1_fareOf ∈ TT := tt_of 336 rfl rfl
set_option maxRecDepth 20000 in
theorem tw_337 : Cond.selects "Tollweave$Journeys" yX1_fareOf yX1_fareOf ∈ TT := tt_of 337 rfl rfl
set_option maxRecDepth 20000 in
theorem tw_338 : Cond.code yX1_fareOf cX1_fareOf 3 ((Option.some .int)) ∈ TT := tt_of 338 rfl rfl
set_option maxRecDepth 20000 in
theorem tw_339 : Cond.methodLink "Tollweave$Journeys" 37 yX1_wholeOf ∈ TT := tt_of 339 rfl rfl
set_option maxRecDepth 20000 in
theorem tw_341 : Cond.instanceMethod yX1_wholeOf ∈ TT := tt_of 341 rfl rfl
set_option maxRecDepth 20000 in
theorem tw_342 : Cond.code yX1_wholeOf cX1_wholeOf 4 ((Option.some .int)) ∈ TT := tt_of 342 rfl rfl
set_option maxRecDepth 20000 in
theorem tw_343 : Cond.methodLink "Tollweave$Journeys" 41 yJ9_min_7cf53 ∈ TT := tt_of 343 rfl rfl
set_option maxRecDepth 20000 in
theorem tw_344 : Cond.static yJ9_min_7cf53 ∈ TT := tt_of 344 rfl rfl
set_option maxRecDepth 20000 in
theorem tw_345 : Cond.code yJ9_min_7cf53 cJ9_min_7cf53 2 ((Option.some .int)) ∈ TT := tt_of 345 rfl rfl
set_option maxRecDepth 20000 in
theorem tw_346 : Cond.methodLink "Tollweave" 156 yX0_charge ∈ TT := tt_of 346 rfl rfl
set_option maxRecDepth 20000 in
theorem tw_347 : Cond.instanceMethod yX0_charge ∈ TT := tt_of 347 rfl rfl
set_option maxRecDepth 20000 in
theorem tw_348 : Cond.selects "Tollweave$Accounts" yX0_charge yX0_charge ∈ TT := tt_of 348 rfl rfl
set_option maxRecDepth 20000 in
theorem tw_349 : Cond.code yX0_charge cX0_charge 7 ((Option.some .long)) ∈ TT := tt_of 349 rfl rfl
set_option maxRecDepth 20000 in
theorem tw_350 : Cond.methodLink "Tollweave" 163 yX1_sumShares ∈ TT := tt_of 350 rfl rfl
set_option maxRecDepth 20000 in
theorem tw_351 : Cond.instanceMethod yX1_sumShares ∈ TT := tt_of 351 rfl rfl
set_option maxRecDepth 20000 in
theorem tw_352 : Cond.selects "Tollweave$Journeys" yX1_sumShares yX1_sumShares ∈ TT := tt_of 352 rfl rfl
set_option maxRecDepth 20000 in
theorem tw_353 : Cond.code yX1_sumShares cX1_sumShares 7 ((Option.some .long)) ∈ TT := tt_of 353 rfl rfl
set_option maxRecDepth 20000 in
theorem tw_354 : Cond.methodLink "Tollweave$Journeys" 61 yX1_shareOf ∈ TT := tt_of 354 rfl rfl
set_option maxRecDepth 20000 in
theorem tw_355 : Cond.instanceMethod yX1_shareOf ∈ TT := tt_of 355 rfl rfl
set_option maxRecDepth 20000 in
theorem tw_356 : Cond.selects "Tollweave$Journeys" yX1_shareOf yX1_shareOf ∈ TT := tt_of 356 rfl rfl
set_option maxRecDepth 20000 in
theorem tw_357 : Cond.code yX1_shareOf cX1_shareOf 7 ((Option.some .int)) ∈ TT := tt_of 357 rfl rfl
set_option maxRecDepth 20000 in
theorem tw_358 : Cond.methodLink "Tollweave$Journeys" 47 yX1_ownerOfTheMost ∈ TT := tt_of 358 rfl rfl
set_option maxRecDepth 20000 in
theorem tw_360 : Cond.instanceMethod yX1_ownerOfTheMost ∈ TT := tt_of 360 rfl rfl
set_option maxRecDepth 20000 in
theorem tw_361 : Cond.code yX1_ownerOfTheMost cX1_ownerOfTheMost 4 ((Option.some .int)) ∈ TT := tt_of 361 rfl rfl
set_option maxRecDepth 20000 in
theorem tw_362 : Cond.methodLink "Tollweave$Journeys" 50 yX1_cutShare ∈ TT := tt_of 362 rfl rfl
set_option maxRecDepth 20000 in
theorem tw_364 : Cond.instanceMethod yX1_cutShare ∈ TT := tt_of 364 rfl rfl
set_option maxRecDepth 20000 in
theorem tw_365 : Cond.code yX1_cutShare cX1_cutShare 5 ((Option.some .int)) ∈ TT := tt_of 365 rfl rfl
set_option maxRecDepth 20000 in
theorem tw_366 : Cond.methodLink "TollweaveLaw" 89 yL_gate ∈ TT := tt_of 366 rfl rfl
set_option maxRecDepth 20000 in
theorem tw_367 : Cond.static yL_gate ∈ TT := tt_of 367 rfl rfl
set_option maxRecDepth 20000 in
theorem tw_368 : Cond.codeWith yL_gate cL_gate 3 ((Option.some .int)) [((0 : Nat), (8 : Nat), (11 : Nat), (13 : Nat))] ∈ TT := tt_of 368 rfl rfl
set_option maxRecDepth 20000 in
theorem tw_369 : Cond.classLink "TollweaveLaw" 13 "java/lang/IllegalStateException" ∈ TT := tt_of 369 rfl rfl
set_option maxRecDepth 20000 in
theorem tw_370 : Cond.methodLink "TollweaveLaw" 7 yX6_gate ∈ TT := tt_of 370 rfl rfl
set_option maxRecDepth 20000 in
theorem tw_371 : Cond.instanceMethod yX6_gate ∈ TT := tt_of 371 rfl rfl
set_option maxRecDepth 20000 in
theorem tw_372 : Cond.selects "Tollweave" yX6_gate yX6_gate ∈ TT := tt_of 372 rfl rfl
set_option maxRecDepth 20000 in
theorem tw_373 : Cond.code yX6_gate cX6_gate 1 ((Option.some .int)) ∈ TT := tt_of 373 rfl rfl
set_option maxRecDepth 20000 in
theorem tw_374 : Cond.classLink "Tollweave" 58 "java/lang/IllegalStateException" ∈ TT := tt_of 374 rfl rfl
set_option maxRecDepth 20000 in
theorem tw_375 : Cond.instantiable "java/lang/IllegalStateException" 6 ∈ TT := tt_of 375 rfl rfl
set_option maxRecDepth 20000 in
theorem tw_383 : Cond.selects "java/lang/IllegalStateException" ⟨"java/lang/Throwable","fillInStackTrace","(I)Ljava/lang/Throwable;"⟩ ⟨"java/lang/Throwable","fillInStackTrace","(I)Ljava/lang/Throwable;"⟩ ∈ TT := tt_of 383 rfl rfl
set_option maxRecDepth 20000 in
theorem tw_384 : Cond.selects "java/lang/IllegalStateException" ⟨"java/lang/Throwable","fillInStackTrace","()Ljava/lang/Throwable;"⟩ ⟨"java/lang/Throwable","fillInStackTrace","()Ljava/lang/Throwable;"⟩ ∈ TT := tt_of 384 rfl rfl
set_option maxRecDepth 20000 in
theorem tw_385 : Cond.lays "java/lang/IllegalStateException" "java/lang/Throwable" "cause" "Ljava/lang/Throwable;" ∈ TT := tt_of 385 rfl rfl
set_option maxRecDepth 20000 in
theorem tw_386 : Cond.lays "java/lang/Throwable" "java/lang/Throwable" "cause" "Ljava/lang/Throwable;" ∈ TT := tt_of 386 rfl rfl
set_option maxRecDepth 20000 in
theorem tw_387 : Cond.lays "java/lang/IllegalStateException" "java/lang/Throwable" "stackTrace" "[Ljava/lang/StackTraceElement;" ∈ TT := tt_of 387 rfl rfl
set_option maxRecDepth 20000 in
theorem tw_388 : Cond.lays "java/lang/Throwable" "java/lang/Throwable" "stackTrace" "[Ljava/lang/StackTraceElement;" ∈ TT := tt_of 388 rfl rfl
set_option maxRecDepth 20000 in
theorem tw_389 : Cond.lays "java/lang/IllegalStateException" "java/lang/Throwable" "suppressedExceptions" "Ljava/util/List;" ∈ TT := tt_of 389 rfl rfl
set_option maxRecDepth 20000 in
theorem tw_390 : Cond.lays "java/lang/Throwable" "java/lang/Throwable" "suppressedExceptions" "Ljava/util/List;" ∈ TT := tt_of 390 rfl rfl
set_option maxRecDepth 20000 in
theorem tw_391 : Cond.lays "java/lang/IllegalStateException" "java/lang/Throwable" "detailMessage" "Ljava/lang/String;" ∈ TT := tt_of 391 rfl rfl
set_option maxRecDepth 20000 in
theorem tw_392 : Cond.lays "java/lang/Throwable" "java/lang/Throwable" "detailMessage" "Ljava/lang/String;" ∈ TT := tt_of 392 rfl rfl
set_option maxRecDepth 20000 in
theorem tw_393 : Cond.lays "java/lang/IllegalStateException" "java/lang/Throwable" "backtrace" "Ljava/lang/Object;" ∈ TT := tt_of 393 rfl rfl
set_option maxRecDepth 20000 in
theorem tw_394 : Cond.lays "java/lang/Throwable" "java/lang/Throwable" "backtrace" "Ljava/lang/Object;" ∈ TT := tt_of 394 rfl rfl
set_option maxRecDepth 20000 in
theorem tw_395 : Cond.fieldLink "java/lang/Throwable" 198 "java/lang/Throwable" "backtrace" "Ljava/lang/Object;" ∈ TT := tt_of 395 rfl rfl
set_option maxRecDepth 20000 in
theorem tw_397 : Cond.instanceMethod ⟨"java/lang/Throwable","<init>","()V"⟩ ∈ TT := tt_of 397 rfl rfl
set_option maxRecDepth 20000 in
theorem tw_399 : Cond.methodLink "java/lang/Throwable" 1 ⟨"java/lang/Object","<init>","()V"⟩ ∈ TT := tt_of 399 rfl rfl
set_option maxRecDepth 20000 in
theorem tw_400 : Cond.fieldLink "java/lang/Throwable" 13 "java/lang/Throwable" "UNASSIGNED_STACK" "[Ljava/lang/StackTraceElement;" ∈ TT := tt_of 400 rfl rfl
set_option maxRecDepth 20000 in
theorem tw_402 : Cond.fieldLink "java/lang/Throwable" 20 "java/lang/Throwable" "SUPPRESSED_SENTINEL" "Ljava/util/List;" ∈ TT := tt_of 402 rfl rfl
set_option maxRecDepth 20000 in
theorem tw_404 : Cond.methodLink "java/lang/Throwable" 27 ⟨"java/lang/Throwable","fillInStackTrace","()Ljava/lang/Throwable;"⟩ ∈ TT := tt_of 404 rfl rfl
set_option maxRecDepth 20000 in
theorem tw_405 : Cond.instanceMethod ⟨"java/lang/Throwable","fillInStackTrace","()Ljava/lang/Throwable;"⟩ ∈ TT := tt_of 405 rfl rfl
set_option maxRecDepth 20000 in
theorem tw_407 : Cond.selects "java/lang/IllegalArgumentException" ⟨"java/lang/Throwable","fillInStackTrace","()Ljava/lang/Throwable;"⟩ ⟨"java/lang/Throwable","fillInStackTrace","()Ljava/lang/Throwable;"⟩ ∈ TT := tt_of 407 rfl rfl
set_option maxRecDepth 20000 in
theorem tw_408 : Cond.selects "java/lang/IndexOutOfBoundsException" ⟨"java/lang/Throwable","fillInStackTrace","()Ljava/lang/Throwable;"⟩ ⟨"java/lang/Throwable","fillInStackTrace","()Ljava/lang/Throwable;"⟩ ∈ TT := tt_of 408 rfl rfl
set_option maxRecDepth 20000 in
theorem tw_410 : Cond.methodLink "java/lang/Throwable" 202 ⟨"java/lang/Throwable","fillInStackTrace","(I)Ljava/lang/Throwable;"⟩ ∈ TT := tt_of 410 rfl rfl
set_option maxRecDepth 20000 in
theorem tw_412 : Cond.instanceMethod ⟨"java/lang/Throwable","fillInStackTrace","(I)Ljava/lang/Throwable;"⟩ ∈ TT := tt_of 412 rfl rfl
set_option maxRecDepth 20000 in
theorem tw_413 : Cond.instantiable "java/lang/Throwable" 6 ∈ TT := tt_of 413 rfl rfl
set_option maxRecDepth 20000 in
theorem tw_416 : Cond.methodLink "Tollweave" 62 ⟨"java/lang/IllegalStateException","<init>","(Ljava/lang/String;)V"⟩ ∈ TT := tt_of 416 rfl rfl
set_option maxRecDepth 20000 in
theorem tw_417 : Cond.instanceMethod ⟨"java/lang/IllegalStateException","<init>","(Ljava/lang/String;)V"⟩ ∈ TT := tt_of 417 rfl rfl
set_option maxRecDepth 20000 in
theorem tw_418 : Cond.code ⟨"java/lang/IllegalStateException","<init>","(Ljava/lang/String;)V"⟩ prog_12_method_2_code 2 ((Option.none : Option ClassFile.FieldType)) ∈ TT := tt_of 418 rfl rfl
set_option maxRecDepth 20000 in
theorem tw_419 : Cond.methodLink "java/lang/IllegalStateException" 7 ⟨"java/lang/RuntimeException","<init>","(Ljava/lang/String;)V"⟩ ∈ TT := tt_of 419 rfl rfl
set_option maxRecDepth 20000 in
theorem tw_420 : Cond.instanceMethod ⟨"java/lang/RuntimeException","<init>","(Ljava/lang/String;)V"⟩ ∈ TT := tt_of 420 rfl rfl
set_option maxRecDepth 20000 in
theorem tw_421 : Cond.code ⟨"java/lang/RuntimeException","<init>","(Ljava/lang/String;)V"⟩ prog_15_method_2_code 2 ((Option.none : Option ClassFile.FieldType)) ∈ TT := tt_of 421 rfl rfl
set_option maxRecDepth 20000 in
theorem tw_422 : Cond.methodLink "java/lang/RuntimeException" 7 ⟨"java/lang/Exception","<init>","(Ljava/lang/String;)V"⟩ ∈ TT := tt_of 422 rfl rfl
set_option maxRecDepth 20000 in
theorem tw_423 : Cond.instanceMethod ⟨"java/lang/Exception","<init>","(Ljava/lang/String;)V"⟩ ∈ TT := tt_of 423 rfl rfl
set_option maxRecDepth 20000 in
theorem tw_424 : Cond.code ⟨"java/lang/Exception","<init>","(Ljava/lang/String;)V"⟩ prog_10_method_2_code 2 ((Option.none : Option ClassFile.FieldType)) ∈ TT := tt_of 424 rfl rfl
set_option maxRecDepth 20000 in
theorem tw_425 : Cond.methodLink "java/lang/Exception" 7 ⟨"java/lang/Throwable","<init>","(Ljava/lang/String;)V"⟩ ∈ TT := tt_of 425 rfl rfl
set_option maxRecDepth 20000 in
theorem tw_426 : Cond.instanceMethod ⟨"java/lang/Throwable","<init>","(Ljava/lang/String;)V"⟩ ∈ TT := tt_of 426 rfl rfl
set_option maxRecDepth 20000 in
theorem tw_429 : Cond.fieldLink "java/lang/Throwable" 31 "java/lang/Throwable" "detailMessage" "Ljava/lang/String;" ∈ TT := tt_of 429 rfl rfl
set_option maxRecDepth 20000 in
theorem tw_430 : Cond.fieldLink "java/lang/Throwable" 7 "java/lang/Throwable" "cause" "Ljava/lang/Throwable;" ∈ TT := tt_of 430 rfl rfl
set_option maxRecDepth 20000 in
theorem tw_431 : Cond.fieldLink "java/lang/Throwable" 17 "java/lang/Throwable" "stackTrace" "[Ljava/lang/StackTraceElement;" ∈ TT := tt_of 431 rfl rfl
set_option maxRecDepth 20000 in
theorem tw_432 : Cond.fieldLink "java/lang/Throwable" 24 "java/lang/Throwable" "suppressedExceptions" "Ljava/util/List;" ∈ TT := tt_of 432 rfl rfl
set_option maxRecDepth 20000 in
theorem tw_437 : Cond.lays "java/lang/IllegalStateException" "java/lang/Throwable" "depth" "I" ∈ TT := tt_of 437 rfl rfl
set_option maxRecDepth 20000 in
theorem tw_441 : Cond.arrayClass .byte ∈ TT := tt_of 441 rfl rfl
set_option maxRecDepth 20000 in
theorem tw_442 : Cond.methodLink "Tollweave" 65 yX4_addGate ∈ TT := tt_of 442 rfl rfl
set_option maxRecDepth 20000 in
theorem tw_443 : Cond.instanceMethod yX4_addGate ∈ TT := tt_of 443 rfl rfl
set_option maxRecDepth 20000 in
theorem tw_444 : Cond.selects "Tollweave$Roads" yX4_addGate yX4_addGate ∈ TT := tt_of 444 rfl rfl
set_option maxRecDepth 20000 in
theorem tw_445 : Cond.code yX4_addGate cX4_addGate 2 ((Option.some .int)) ∈ TT := tt_of 445 rfl rfl
set_option maxRecDepth 20000 in
theorem tw_446 : Cond.methodLink "TollweaveLaw" 98 yL_road ∈ TT := tt_of 446 rfl rfl
set_option maxRecDepth 20000 in
theorem tw_447 : Cond.static yL_road ∈ TT := tt_of 447 rfl rfl
set_option maxRecDepth 20000 in
theorem tw_448 : Cond.codeWith yL_road cL_road 7 ((Option.some .int)) [((0 : Nat), (14 : Nat), (17 : Nat), (19 : Nat)), ((0 : Nat), (14 : Nat), (21 : Nat), (21 : Nat)), ((0 : Nat), (14 : Nat), (25 : Nat), (13 : Nat))] ∈ TT := tt_of 448 rfl rfl
set_option maxRecDepth 20000 in
theorem tw_449 : Cond.classLink "TollweaveLaw" 19 "java/lang/IndexOutOfBoundsException" ∈ TT := tt_of 449 rfl rfl
set_option maxRecDepth 20000 in
theorem tw_450 : Cond.classLink "TollweaveLaw" 21 "java/lang/IllegalArgumentException" ∈ TT := tt_of 450 rfl rfl
set_option maxRecDepth 20000 in
theorem tw_451 : Cond.methodLink "TollweaveLaw" 15 yX6_road ∈ TT := tt_of 451 rfl rfl
set_option maxRecDepth 20000 in
theorem tw_452 : Cond.instanceMethod yX6_road ∈ TT := tt_of 452 rfl rfl
set_option maxRecDepth 20000 in
theorem tw_453 : Cond.selects "Tollweave" yX6_road yX6_road ∈ TT := tt_of 453 rfl rfl
set_option maxRecDepth 20000 in
theorem tw_454 : Cond.code yX6_road cX6_road 5 ((Option.some .int)) ∈ TT := tt_of 454 rfl rfl
set_option maxRecDepth 20000 in
theorem tw_455 : Cond.methodLink "Tollweave" 69 yX6_requireGate ∈ TT := tt_of 455 rfl rfl
set_option maxRecDepth 20000 in
theorem tw_457 : Cond.instanceMethod yX6_requireGate ∈ TT := tt_of 457 rfl rfl
set_option maxRecDepth 20000 in
theorem tw_458 : Cond.code yX6_requireGate cX6_requireGate 2 ((Option.none : Option ClassFile.FieldType)) ∈ TT := tt_of 458 rfl rfl
set_option maxRecDepth 20000 in
theorem tw_459 : Cond.classLink "Tollweave" 175 "java/lang/IndexOutOfBoundsException" ∈ TT := tt_of 459 rfl rfl
set_option maxRecDepth 20000 in
theorem tw_460 : Cond.instantiable "java/lang/IndexOutOfBoundsException" 6 ∈ TT := tt_of 460 rfl rfl
set_option maxRecDepth 20000 in
theorem tw_462 : Cond.selects "java/lang/IndexOutOfBoundsException" ⟨"java/lang/Throwable","fillInStackTrace","(I)Ljava/lang/Throwable;"⟩ ⟨"java/lang/Throwable","fillInStackTrace","(I)Ljava/lang/Throwable;"⟩ ∈ TT := tt_of 462 rfl rfl
set_option maxRecDepth 20000 in
theorem tw_463 : Cond.lays "java/lang/IndexOutOfBoundsException" "java/lang/Throwable" "cause" "Ljava/lang/Throwable;" ∈ TT := tt_of 463 rfl rfl
set_option maxRecDepth 20000 in
theorem tw_464 : Cond.lays "java/lang/IndexOutOfBoundsException" "java/lang/Throwable" "stackTrace" "[Ljava/lang/StackTraceElement;" ∈ TT := tt_of 464 rfl rfl
set_option maxRecDepth 20000 in
theorem tw_465 : Cond.lays "java/lang/IndexOutOfBoundsException" "java/lang/Throwable" "suppressedExceptions" "Ljava/util/List;" ∈ TT := tt_of 465 rfl rfl
set_option maxRecDepth 20000 in
theorem tw_466 : Cond.lays "java/lang/IndexOutOfBoundsException" "java/lang/Throwable" "detailMessage" "Ljava/lang/String;" ∈ TT := tt_of 466 rfl rfl
set_option maxRecDepth 20000 in
theorem tw_467 : Cond.lays "java/lang/IndexOutOfBoundsException" "java/lang/Throwable" "backtrace" "Ljava/lang/Object;" ∈ TT := tt_of 467 rfl rfl
set_option maxRecDepth 20000 in
theorem tw_469 : Cond.methodLink "Tollweave" 179 ⟨"java/lang/IndexOutOfBoundsException","<init>","(Ljava/lang/String;)V"⟩ ∈ TT := tt_of 469 rfl rfl
set_option maxRecDepth 20000 in
theorem tw_470 : Cond.instanceMethod ⟨"java/lang/IndexOutOfBoundsException","<init>","(Ljava/lang/String;)V"⟩ ∈ TT := tt_of 470 rfl rfl
set_option maxRecDepth 20000 in
theorem tw_471 : Cond.code ⟨"java/lang/IndexOutOfBoundsException","<init>","(Ljava/lang/String;)V"⟩ prog_13_method_2_code 2 ((Option.none : Option ClassFile.FieldType)) ∈ TT := tt_of 471 rfl rfl
set_option maxRecDepth 20000 in
theorem tw_472 : Cond.methodLink "java/lang/IndexOutOfBoundsException" 7 ⟨"java/lang/RuntimeException","<init>","(Ljava/lang/String;)V"⟩ ∈ TT := tt_of 472 rfl rfl
set_option maxRecDepth 20000 in
theorem tw_473 : Cond.lays "java/lang/IndexOutOfBoundsException" "java/lang/Throwable" "depth" "I" ∈ TT := tt_of 473 rfl rfl
set_option maxRecDepth 20000 in
theorem tw_475 : Cond.methodLink "Tollweave" 73 yX6_requireRange ∈ TT := tt_of 475 rfl rfl
set_option maxRecDepth 20000 in
theorem tw_476 : Cond.static yX6_requireRange ∈ TT := tt_of 476 rfl rfl
set_option maxRecDepth 20000 in
theorem tw_477 : Cond.code yX6_requireRange cX6_requireRange 3 ((Option.none : Option ClassFile.FieldType)) ∈ TT := tt_of 477 rfl rfl
set_option maxRecDepth 20000 in
theorem tw_478 : Cond.classLink "Tollweave" 77 "java/lang/IllegalArgumentException" ∈ TT := tt_of 478 rfl rfl
set_option maxRecDepth 20000 in
theorem tw_479 : Cond.instantiable "java/lang/IllegalArgumentException" 6 ∈ TT := tt_of 479 rfl rfl
set_option maxRecDepth 20000 in
theorem tw_481 : Cond.selects "java/lang/IllegalArgumentException" ⟨"java/lang/Throwable","fillInStackTrace","(I)Ljava/lang/Throwable;"⟩ ⟨"java/lang/Throwable","fillInStackTrace","(I)Ljava/lang/Throwable;"⟩ ∈ TT := tt_of 481 rfl rfl
set_option maxRecDepth 20000 in
theorem tw_482 : Cond.lays "java/lang/IllegalArgumentException" "java/lang/Throwable" "cause" "Ljava/lang/Throwable;" ∈ TT := tt_of 482 rfl rfl
set_option maxRecDepth 20000 in
theorem tw_483 : Cond.lays "java/lang/IllegalArgumentException" "java/lang/Throwable" "stackTrace" "[Ljava/lang/StackTraceElement;" ∈ TT := tt_of 483 rfl rfl
set_option maxRecDepth 20000 in
theorem tw_484 : Cond.lays "java/lang/IllegalArgumentException" "java/lang/Throwable" "suppressedExceptions" "Ljava/util/List;" ∈ TT := tt_of 484 rfl rfl
set_option maxRecDepth 20000 in
theorem tw_485 : Cond.lays "java/lang/IllegalArgumentException" "java/lang/Throwable" "detailMessage" "Ljava/lang/String;" ∈ TT := tt_of 485 rfl rfl
set_option maxRecDepth 20000 in
theorem tw_486 : Cond.lays "java/lang/IllegalArgumentException" "java/lang/Throwable" "backtrace" "Ljava/lang/Object;" ∈ TT := tt_of 486 rfl rfl
set_option maxRecDepth 20000 in
theorem tw_488 : Cond.methodLink "Tollweave" 81 ⟨"java/lang/IllegalArgumentException","<init>","(Ljava/lang/String;)V"⟩ ∈ TT := tt_of 488 rfl rfl
set_option maxRecDepth 20000 in
theorem tw_489 : Cond.instanceMethod ⟨"java/lang/IllegalArgumentException","<init>","(Ljava/lang/String;)V"⟩ ∈ TT := tt_of 489 rfl rfl
set_option maxRecDepth 20000 in
theorem tw_490 : Cond.code ⟨"java/lang/IllegalArgumentException","<init>","(Ljava/lang/String;)V"⟩ prog_11_method_2_code 2 ((Option.none : Option ClassFile.FieldType)) ∈ TT := tt_of 490 rfl rfl
set_option maxRecDepth 20000 in
theorem tw_491 : Cond.methodLink "java/lang/IllegalArgumentException" 7 ⟨"java/lang/RuntimeException","<init>","(Ljava/lang/String;)V"⟩ ∈ TT := tt_of 491 rfl rfl
set_option maxRecDepth 20000 in
theorem tw_492 : Cond.lays "java/lang/IllegalArgumentException" "java/lang/Throwable" "depth" "I" ∈ TT := tt_of 492 rfl rfl
set_option maxRecDepth 20000 in
theorem tw_496 : Cond.methodLink "Tollweave" 87 yX4_addRoad ∈ TT := tt_of 496 rfl rfl
set_option maxRecDepth 20000 in
theorem tw_497 : Cond.instanceMethod yX4_addRoad ∈ TT := tt_of 497 rfl rfl
set_option maxRecDepth 20000 in
theorem tw_498 : Cond.selects "Tollweave$Roads" yX4_addRoad yX4_addRoad ∈ TT := tt_of 498 rfl rfl
set_option maxRecDepth 20000 in
theorem tw_499 : Cond.code yX4_addRoad cX4_addRoad 6 ((Option.some .int)) ∈ TT := tt_of 499 rfl rfl
set_option maxRecDepth 20000 in
theorem tw_500 : Cond.methodLink "Tollweave$Roads" 37 yX4_shortenDistances ∈ TT := tt_of 500 rfl rfl
set_option maxRecDepth 20000 in
theorem tw_502 : Cond.instanceMethod yX4_shortenDistances ∈ TT := tt_of 502 rfl rfl
set_option maxRecDepth 20000 in
theorem tw_503 : Cond.code yX4_shortenDistances cX4_shortenDistances 9 ((Option.none : Option ClassFile.FieldType)) ∈ TT := tt_of 503 rfl rfl
set_option maxRecDepth 20000 in
theorem tw_504 : Cond.methodLink "Tollweave$Roads" 41 yJ9_min_7cf53 ∈ TT := tt_of 504 rfl rfl
set_option maxRecDepth 20000 in
theorem tw_505 : Cond.methodLink "TollweaveLaw" 102 yL_rate ∈ TT := tt_of 505 rfl rfl
set_option maxRecDepth 20000 in
theorem tw_506 : Cond.static yL_rate ∈ TT := tt_of 506 rfl rfl
set_option maxRecDepth 20000 in
theorem tw_507 : Cond.codeWith yL_rate cL_rate 5 ((Option.some .int)) [((0 : Nat), (7 : Nat), (10 : Nat), (21 : Nat))] ∈ TT := tt_of 507 rfl rfl
set_option maxRecDepth 20000 in
theorem tw_508 : Cond.methodLink "TollweaveLaw" 23 yX6_rate ∈ TT := tt_of 508 rfl rfl
set_option maxRecDepth 20000 in
theorem tw_509 : Cond.instanceMethod yX6_rate ∈ TT := tt_of 509 rfl rfl
set_option maxRecDepth 20000 in
theorem tw_510 : Cond.selects "Tollweave" yX6_rate yX6_rate ∈ TT := tt_of 510 rfl rfl
set_option maxRecDepth 20000 in
theorem tw_511 : Cond.code yX6_rate cX6_rate 4 ((Option.none : Option ClassFile.FieldType)) ∈ TT := tt_of 511 rfl rfl
set_option maxRecDepth 20000 in
theorem tw_512 : Cond.methodLink "TollweaveLaw" 106 yL_most ∈ TT := tt_of 512 rfl rfl
set_option maxRecDepth 20000 in
theorem tw_513 : Cond.static yL_most ∈ TT := tt_of 513 rfl rfl
set_option maxRecDepth 20000 in
theorem tw_514 : Cond.codeWith yL_most cL_most 4 ((Option.some .int)) [((0 : Nat), (9 : Nat), (12 : Nat), (21 : Nat))] ∈ TT := tt_of 514 rfl rfl
set_option maxRecDepth 20000 in
theorem tw_515 : Cond.methodLink "TollweaveLaw" 27 yX6_most ∈ TT := tt_of 515 rfl rfl
set_option maxRecDepth 20000 in
theorem tw_516 : Cond.instanceMethod yX6_most ∈ TT := tt_of 516 rfl rfl
set_option maxRecDepth 20000 in
theorem tw_517 : Cond.selects "Tollweave" yX6_most yX6_most ∈ TT := tt_of 517 rfl rfl
set_option maxRecDepth 20000 in
theorem tw_518 : Cond.code yX6_most cX6_most 3 ((Option.some .int)) ∈ TT := tt_of 518 rfl rfl
set_option maxRecDepth 20000 in
theorem tw_519 : Cond.constant "Tollweave" 98 100000 ∈ TT := tt_of 519 rfl rfl
set_option maxRecDepth 20000 in
theorem tw_520 : Cond.methodLink "TollweaveLaw" 110 yL_plate ∈ TT := tt_of 520 rfl rfl
set_option maxRecDepth 20000 in
theorem tw_521 : Cond.static yL_plate ∈ TT := tt_of 521 rfl rfl
set_option maxRecDepth 20000 in
theorem tw_522 : Cond.codeWith yL_plate cL_plate 5 ((Option.some .int)) [((0 : Nat), (7 : Nat), (10 : Nat), (19 : Nat)), ((0 : Nat), (7 : Nat), (14 : Nat), (21 : Nat))] ∈ TT := tt_of 522 rfl rfl
set_option maxRecDepth 20000 in
theorem tw_523 : Cond.methodLink "TollweaveLaw" 31 yX6_plate ∈ TT := tt_of 523 rfl rfl
set_option maxRecDepth 20000 in
theorem tw_524 : Cond.instanceMethod yX6_plate ∈ TT := tt_of 524 rfl rfl
set_option maxRecDepth 20000 in
theorem tw_525 : Cond.selects "Tollweave" yX6_plate yX6_plate ∈ TT := tt_of 525 rfl rfl
set_option maxRecDepth 20000 in
theorem tw_526 : Cond.code yX6_plate cX6_plate 4 ((Option.none : Option ClassFile.FieldType)) ∈ TT := tt_of 526 rfl rfl
set_option maxRecDepth 20000 in
theorem tw_527 : Cond.methodLink "Tollweave" 102 yX6_requirePlate ∈ TT := tt_of 527 rfl rfl
set_option maxRecDepth 20000 in
theorem tw_528 : Cond.static yX6_requirePlate ∈ TT := tt_of 528 rfl rfl
set_option maxRecDepth 20000 in
theorem tw_529 : Cond.code yX6_requirePlate cX6_requirePlate 1 ((Option.none : Option ClassFile.FieldType)) ∈ TT := tt_of 529 rfl rfl
set_option maxRecDepth 20000 in
theorem tw_531 : Cond.methodLink "TollweaveLaw" 113 yL_top ∈ TT := tt_of 531 rfl rfl
set_option maxRecDepth 20000 in
theorem tw_532 : Cond.static yL_top ∈ TT := tt_of 532 rfl rfl
set_option maxRecDepth 20000 in
theorem tw_533 : Cond.codeWith yL_top cL_top 5 ((Option.some .int)) [((0 : Nat), (9 : Nat), (12 : Nat), (19 : Nat)), ((0 : Nat), (9 : Nat), (16 : Nat), (21 : Nat))] ∈ TT := tt_of 533 rfl rfl
set_option maxRecDepth 20000 in
theorem tw_534 : Cond.methodLink "TollweaveLaw" 34 yX6_top ∈ TT := tt_of 534 rfl rfl
set_option maxRecDepth 20000 in
theorem tw_535 : Cond.instanceMethod yX6_top ∈ TT := tt_of 535 rfl rfl
set_option maxRecDepth 20000 in
theorem tw_536 : Cond.selects "Tollweave" yX6_top yX6_top ∈ TT := tt_of 536 rfl rfl
set_option maxRecDepth 20000 in
theorem tw_537 : Cond.code yX6_top cX6_top 3 ((Option.some .long)) ∈ TT := tt_of 537 rfl rfl
set_option maxRecDepth 20000 in
theorem tw_538 : Cond.methodLink "Tollweave" 111 yX6_requireHolder ∈ TT := tt_of 538 rfl rfl
set_option maxRecDepth 20000 in
theorem tw_539 : Cond.static yX6_requireHolder ∈ TT := tt_of 539 rfl rfl
set_option maxRecDepth 20000 in
theorem tw_540 : Cond.code yX6_requireHolder cX6_requireHolder 1 ((Option.none : Option ClassFile.FieldType)) ∈ TT := tt_of 540 rfl rfl
set_option maxRecDepth 20000 in
theorem tw_542 : Cond.methodLink "TollweaveLaw" 117 yL_exempt ∈ TT := tt_of 542 rfl rfl
set_option maxRecDepth 20000 in
theorem tw_543 : Cond.static yL_exempt ∈ TT := tt_of 543 rfl rfl
set_option maxRecDepth 20000 in
theorem tw_544 : Cond.codeWith yL_exempt cL_exempt 6 ((Option.some .int)) [((0 : Nat), (12 : Nat), (15 : Nat), (19 : Nat)), ((0 : Nat), (12 : Nat), (19 : Nat), (21 : Nat)), ((0 : Nat), (12 : Nat), (23 : Nat), (13 : Nat))] ∈ TT := tt_of 544 rfl rfl
set_option maxRecDepth 20000 in
theorem tw_545 : Cond.methodLink "TollweaveLaw" 38 yX6_exempt ∈ TT := tt_of 545 rfl rfl
set_option maxRecDepth 20000 in
theorem tw_546 : Cond.instanceMethod yX6_exempt ∈ TT := tt_of 546 rfl rfl
set_option maxRecDepth 20000 in
theorem tw_547 : Cond.selects "Tollweave" yX6_exempt yX6_exempt ∈ TT := tt_of 547 rfl rfl
set_option maxRecDepth 20000 in
theorem tw_548 : Cond.code yX6_exempt cX6_exempt 4 ((Option.some .int)) ∈ TT := tt_of 548 rfl rfl
set_option maxRecDepth 20000 in
theorem tw_550 : Cond.methodLink "Tollweave" 123 yX2_addSpan ∈ TT := tt_of 550 rfl rfl
set_option maxRecDepth 20000 in
theorem tw_551 : Cond.instanceMethod yX2_addSpan ∈ TT := tt_of 551 rfl rfl
set_option maxRecDepth 20000 in
theorem tw_552 : Cond.selects "Tollweave$Plates" yX2_addSpan yX2_addSpan ∈ TT := tt_of 552 rfl rfl
set_option maxRecDepth 20000 in
theorem tw_553 : Cond.code yX2_addSpan cX2_addSpan 4 ((Option.some .int)) ∈ TT := tt_of 553 rfl rfl
set_option maxRecDepth 20000 in
theorem tw_554 : Cond.methodLink "TollweaveLaw" 121 yL_read ∈ TT := tt_of 554 rfl rfl
set_option maxRecDepth 20000 in
theorem tw_555 : Cond.static yL_read ∈ TT := tt_of 555 rfl rfl
set_option maxRecDepth 20000 in
theorem tw_556 : Cond.codeWith yL_read cL_read 6 ((Option.some .int)) [((0 : Nat), (12 : Nat), (15 : Nat), (19 : Nat)), ((0 : Nat), (12 : Nat), (19 : Nat), (21 : Nat)), ((0 : Nat), (12 : Nat), (23 : Nat), (13 : Nat))] ∈ TT := tt_of 556 rfl rfl
set_option maxRecDepth 20000 in
theorem tw_557 : Cond.methodLink "TollweaveLaw" 42 yX6_read ∈ TT := tt_of 557 rfl rfl
set_option maxRecDepth 20000 in
theorem tw_558 : Cond.instanceMethod yX6_read ∈ TT := tt_of 558 rfl rfl
set_option maxRecDepth 20000 in
theorem tw_559 : Cond.selects "Tollweave" yX6_read yX6_read ∈ TT := tt_of 559 rfl rfl
set_option maxRecDepth 20000 in
theorem tw_560 : Cond.code yX6_read cX6_read 4 ((Option.some .int)) ∈ TT := tt_of 560 rfl rfl
set_option maxRecDepth 20000 in
theorem tw_562 : Cond.methodLink "Tollweave" 132 yX3_add ∈ TT := tt_of 562 rfl rfl
set_option maxRecDepth 20000 in
theorem tw_563 : Cond.instanceMethod yX3_add ∈ TT := tt_of 563 rfl rfl
set_option maxRecDepth 20000 in
theorem tw_564 : Cond.selects "Tollweave$Readings" yX3_add yX3_add ∈ TT := tt_of 564 rfl rfl
set_option maxRecDepth 20000 in
theorem tw_565 : Cond.code yX3_add cX3_add 6 ((Option.some .int)) ∈ TT := tt_of 565 rfl rfl
set_option maxRecDepth 20000 in
theorem tw_566 : Cond.methodLink "TollweaveLaw" 124 yL_strike ∈ TT := tt_of 566 rfl rfl
set_option maxRecDepth 20000 in
theorem tw_567 : Cond.static yL_strike ∈ TT := tt_of 567 rfl rfl
set_option maxRecDepth 20000 in
theorem tw_568 : Cond.codeWith yL_strike cL_strike 3 ((Option.some .int)) [((0 : Nat), (5 : Nat), (8 : Nat), (19 : Nat)), ((0 : Nat), (5 : Nat), (11 : Nat), (13 : Nat))] ∈ TT := tt_of 568 rfl rfl
set_option maxRecDepth 20000 in
theorem tw_569 : Cond.methodLink "TollweaveLaw" 45 yX6_strike ∈ TT := tt_of 569 rfl rfl
set_option maxRecDepth 20000 in
theorem tw_570 : Cond.instanceMethod yX6_strike ∈ TT := tt_of 570 rfl rfl
set_option maxRecDepth 20000 in
theorem tw_571 : Cond.selects "Tollweave" yX6_strike yX6_strike ∈ TT := tt_of 571 rfl rfl
set_option maxRecDepth 20000 in
theorem tw_572 : Cond.code yX6_strike cX6_strike 2 ((Option.none : Option ClassFile.FieldType)) ∈ TT := tt_of 572 rfl rfl
set_option maxRecDepth 20000 in
theorem tw_573 : Cond.methodLink "Tollweave" 135 yX6_requireReading ∈ TT := tt_of 573 rfl rfl
set_option maxRecDepth 20000 in
theorem tw_575 : Cond.instanceMethod yX6_requireReading ∈ TT := tt_of 575 rfl rfl
set_option maxRecDepth 20000 in
theorem tw_576 : Cond.code yX6_requireReading cX6_requireReading 2 ((Option.none : Option ClassFile.FieldType)) ∈ TT := tt_of 576 rfl rfl
set_option maxRecDepth 20000 in
theorem tw_579 : Cond.methodLink "TollweaveLaw" 128 yL_pass ∈ TT := tt_of 579 rfl rfl
set_option maxRecDepth 20000 in
theorem tw_580 : Cond.static yL_pass ∈ TT := tt_of 580 rfl rfl
set_option maxRecDepth 20000 in
theorem tw_581 : Cond.codeWith yL_pass cL_pass 4 ((Option.some .int)) [((0 : Nat), (9 : Nat), (12 : Nat), (21 : Nat)), ((0 : Nat), (9 : Nat), (15 : Nat), (13 : Nat))] ∈ TT := tt_of 581 rfl rfl
set_option maxRecDepth 20000 in
theorem tw_582 : Cond.methodLink "TollweaveLaw" 49 yX6_pass ∈ TT := tt_of 582 rfl rfl
set_option maxRecDepth 20000 in
theorem tw_583 : Cond.instanceMethod yX6_pass ∈ TT := tt_of 583 rfl rfl
set_option maxRecDepth 20000 in
theorem tw_584 : Cond.selects "Tollweave" yX6_pass yX6_pass ∈ TT := tt_of 584 rfl rfl
set_option maxRecDepth 20000 in
theorem tw_585 : Cond.code yX6_pass cX6_pass 2 ((Option.some .int)) ∈ TT := tt_of 585 rfl rfl
set_option maxRecDepth 20000 in
theorem tw_587 : Cond.methodLink "TollweaveLaw" 136 yL_distance ∈ TT := tt_of 587 rfl rfl
set_option maxRecDepth 20000 in
theorem tw_588 : Cond.static yL_distance ∈ TT := tt_of 588 rfl rfl
set_option maxRecDepth 20000 in
theorem tw_589 : Cond.codeWith yL_distance cL_distance 5 ((Option.some .int)) [((0 : Nat), (10 : Nat), (13 : Nat), (19 : Nat))] ∈ TT := tt_of 589 rfl rfl
set_option maxRecDepth 20000 in
theorem tw_590 : Cond.methodLink "TollweaveLaw" 52 yX6_distance ∈ TT := tt_of 590 rfl rfl
set_option maxRecDepth 20000 in
theorem tw_591 : Cond.instanceMethod yX6_distance ∈ TT := tt_of 591 rfl rfl
set_option maxRecDepth 20000 in
theorem tw_592 : Cond.selects "Tollweave" yX6_distance yX6_distance ∈ TT := tt_of 592 rfl rfl
set_option maxRecDepth 20000 in
theorem tw_593 : Cond.code yX6_distance cX6_distance 3 ((Option.some .int)) ∈ TT := tt_of 593 rfl rfl
set_option maxRecDepth 20000 in
theorem tw_594 : Cond.methodLink "TollweaveLaw" 139 yL_way ∈ TT := tt_of 594 rfl rfl
set_option maxRecDepth 20000 in
theorem tw_595 : Cond.static yL_way ∈ TT := tt_of 595 rfl rfl
set_option maxRecDepth 20000 in
theorem tw_596 : Cond.codeWith yL_way cL_way 6 ((Option.some .int)) [((0 : Nat), (12 : Nat), (15 : Nat), (19 : Nat))] ∈ TT := tt_of 596 rfl rfl
set_option maxRecDepth 20000 in
theorem tw_597 : Cond.methodLink "TollweaveLaw" 56 yX6_way ∈ TT := tt_of 597 rfl rfl
set_option maxRecDepth 20000 in
theorem tw_598 : Cond.instanceMethod yX6_way ∈ TT := tt_of 598 rfl rfl
set_option maxRecDepth 20000 in
theorem tw_599 : Cond.selects "Tollweave" yX6_way yX6_way ∈ TT := tt_of 599 rfl rfl
set_option maxRecDepth 20000 in
theorem tw_600 : Cond.code yX6_way cX6_way 4 ((Option.some .int)) ∈ TT := tt_of 600 rfl rfl
set_option maxRecDepth 20000 in
theorem tw_602 : Cond.methodLink "Tollweave" 180 yX4_roadOfWay ∈ TT := tt_of 602 rfl rfl
set_option maxRecDepth 20000 in
theorem tw_603 : Cond.instanceMethod yX4_roadOfWay ∈ TT := tt_of 603 rfl rfl
set_option maxRecDepth 20000 in
theorem tw_604 : Cond.selects "Tollweave$Roads" yX4_roadOfWay yX4_roadOfWay ∈ TT := tt_of 604 rfl rfl
set_option maxRecDepth 20000 in
theorem tw_605 : Cond.code yX4_roadOfWay cX4_roadOfWay 7 ((Option.some .int)) ∈ TT := tt_of 605 rfl rfl
set_option maxRecDepth 20000 in
theorem tw_606 : Cond.methodLink "Tollweave$Roads" 47 yX4_roadTowards ∈ TT := tt_of 606 rfl rfl
set_option maxRecDepth 20000 in
theorem tw_607 : Cond.methodLink "TollweaveLaw" 142 yL_journeys ∈ TT := tt_of 607 rfl rfl
set_option maxRecDepth 20000 in
theorem tw_608 : Cond.static yL_journeys ∈ TT := tt_of 608 rfl rfl
set_option maxRecDepth 20000 in
theorem tw_609 : Cond.codeWith yL_journeys cL_journeys 4 ((Option.some .int)) [((0 : Nat), (9 : Nat), (12 : Nat), (19 : Nat))] ∈ TT := tt_of 609 rfl rfl
set_option maxRecDepth 20000 in
theorem tw_610 : Cond.methodLink "TollweaveLaw" 59 yX6_journeys ∈ TT := tt_of 610 rfl rfl
set_option maxRecDepth 20000 in
theorem tw_611 : Cond.instanceMethod yX6_journeys ∈ TT := tt_of 611 rfl rfl
set_option maxRecDepth 20000 in
theorem tw_612 : Cond.selects "Tollweave" yX6_journeys yX6_journeys ∈ TT := tt_of 612 rfl rfl
set_option maxRecDepth 20000 in
theorem tw_613 : Cond.code yX6_journeys cX6_journeys 2 ((Option.some .int)) ∈ TT := tt_of 613 rfl rfl
set_option maxRecDepth 20000 in
theorem tw_614 : Cond.methodLink "TollweaveLaw" 145 yL_journey ∈ TT := tt_of 614 rfl rfl
set_option maxRecDepth 20000 in
theorem tw_615 : Cond.static yL_journey ∈ TT := tt_of 615 rfl rfl
set_option maxRecDepth 20000 in
theorem tw_616 : Cond.codeWith yL_journey cL_journey 6 ((Option.some .int)) [((0 : Nat), (12 : Nat), (15 : Nat), (19 : Nat)), ((0 : Nat), (12 : Nat), (19 : Nat), (21 : Nat))] ∈ TT := tt_of 616 rfl rfl
set_option maxRecDepth 20000 in
theorem tw_617 : Cond.methodLink "TollweaveLaw" 62 yX6_journey ∈ TT := tt_of 617 rfl rfl
set_option maxRecDepth 20000 in
theorem tw_618 : Cond.instanceMethod yX6_journey ∈ TT := tt_of 618 rfl rfl
set_option maxRecDepth 20000 in
theorem tw_619 : Cond.selects "Tollweave" yX6_journey yX6_journey ∈ TT := tt_of 619 rfl rfl
set_option maxRecDepth 20000 in
theorem tw_620 : Cond.code yX6_journey cX6_journey 4 ((Option.some .int)) ∈ TT := tt_of 620 rfl rfl
set_option maxRecDepth 20000 in
theorem tw_622 : Cond.methodLink "Tollweave" 195 yX1_fareOf ∈ TT := tt_of 622 rfl rfl
set_option maxRecDepth 20000 in
theorem tw_623 : Cond.methodLink "Tollweave" 199 yX1_isOver ∈ TT := tt_of 623 rfl rfl
set_option maxRecDepth 20000 in
theorem tw_624 : Cond.methodLink "Tollweave" 202 yX1_shareOf ∈ TT := tt_of 624 rfl rfl
set_option maxRecDepth 20000 in
theorem tw_625 : Cond.methodLink "TollweaveLaw" 148 yL_ofReading ∈ TT := tt_of 625 rfl rfl
set_option maxRecDepth 20000 in
theorem tw_626 : Cond.static yL_ofReading ∈ TT := tt_of 626 rfl rfl
set_option maxRecDepth 20000 in
theorem tw_627 : Cond.codeWith yL_ofReading cL_ofReading 5 ((Option.some .int)) [((0 : Nat), (10 : Nat), (13 : Nat), (19 : Nat)), ((0 : Nat), (10 : Nat), (17 : Nat), (21 : Nat))] ∈ TT := tt_of 627 rfl rfl
set_option maxRecDepth 20000 in
theorem tw_628 : Cond.methodLink "TollweaveLaw" 65 yX6_ofReading ∈ TT := tt_of 628 rfl rfl
set_option maxRecDepth 20000 in
theorem tw_629 : Cond.instanceMethod yX6_ofReading ∈ TT := tt_of 629 rfl rfl
set_option maxRecDepth 20000 in
theorem tw_630 : Cond.selects "Tollweave" yX6_ofReading yX6_ofReading ∈ TT := tt_of 630 rfl rfl
set_option maxRecDepth 20000 in
theorem tw_631 : Cond.code yX6_ofReading cX6_ofReading 3 ((Option.some .int)) ∈ TT := tt_of 631 rfl rfl
set_option maxRecDepth 20000 in
theorem tw_632 : Cond.methodLink "Tollweave" 214 yX6_isDoubleNow ∈ TT := tt_of 632 rfl rfl
set_option maxRecDepth 20000 in
theorem tw_634 : Cond.instanceMethod yX6_isDoubleNow ∈ TT := tt_of 634 rfl rfl
set_option maxRecDepth 20000 in
theorem tw_635 : Cond.code yX6_isDoubleNow cX6_isDoubleNow 2 ((Option.some .boolean)) ∈ TT := tt_of 635 rfl rfl
set_option maxRecDepth 20000 in
theorem tw_636 : Cond.methodLink "Tollweave" 218 yX6_journeyNow ∈ TT := tt_of 636 rfl rfl
set_option maxRecDepth 20000 in
theorem tw_638 : Cond.instanceMethod yX6_journeyNow ∈ TT := tt_of 638 rfl rfl
set_option maxRecDepth 20000 in
theorem tw_639 : Cond.code yX6_journeyNow cX6_journeyNow 2 ((Option.some .int)) ∈ TT := tt_of 639 rfl rfl
set_option maxRecDepth 20000 in
theorem tw_640 : Cond.methodLink "TollweaveLaw" 151 yL_due ∈ TT := tt_of 640 rfl rfl
set_option maxRecDepth 20000 in
theorem tw_641 : Cond.static yL_due ∈ TT := tt_of 641 rfl rfl
set_option maxRecDepth 20000 in
theorem tw_642 : Cond.codeWith yL_due cL_due 4 ((Option.some .int)) [((0 : Nat), (8 : Nat), (11 : Nat), (19 : Nat))] ∈ TT := tt_of 642 rfl rfl
set_option maxRecDepth 20000 in
theorem tw_643 : Cond.methodLink "TollweaveLaw" 68 yX6_due ∈ TT := tt_of 643 rfl rfl
set_option maxRecDepth 20000 in
theorem tw_644 : Cond.instanceMethod yX6_due ∈ TT := tt_of 644 rfl rfl
set_option maxRecDepth 20000 in
theorem tw_645 : Cond.selects "Tollweave" yX6_due yX6_due ∈ TT := tt_of 645 rfl rfl
set_option maxRecDepth 20000 in
theorem tw_646 : Cond.code yX6_due cX6_due 2 ((Option.some .long)) ∈ TT := tt_of 646 rfl rfl
set_option maxRecDepth 20000 in
theorem tw_647 : Cond.methodLink "TollweaveLaw" 154 yL_billed ∈ TT := tt_of 647 rfl rfl
set_option maxRecDepth 20000 in
theorem tw_648 : Cond.static yL_billed ∈ TT := tt_of 648 rfl rfl
set_option maxRecDepth 20000 in
theorem tw_649 : Cond.codeWith yL_billed cL_billed 4 ((Option.some .int)) [((0 : Nat), (8 : Nat), (11 : Nat), (19 : Nat))] ∈ TT := tt_of 649 rfl rfl
set_option maxRecDepth 20000 in
theorem tw_650 : Cond.methodLink "TollweaveLaw" 72 yX6_billed ∈ TT := tt_of 650 rfl rfl
set_option maxRecDepth 20000 in
theorem tw_651 : Cond.instanceMethod yX6_billed ∈ TT := tt_of 651 rfl rfl
set_option maxRecDepth 20000 in
theorem tw_652 : Cond.selects "Tollweave" yX6_billed yX6_billed ∈ TT := tt_of 652 rfl rfl
set_option maxRecDepth 20000 in
theorem tw_653 : Cond.code yX6_billed cX6_billed 2 ((Option.some .long)) ∈ TT := tt_of 653 rfl rfl
set_option maxRecDepth 20000 in
theorem tw_654 : Cond.methodLink "TollweaveLaw" 157 yL_wallet ∈ TT := tt_of 654 rfl rfl
set_option maxRecDepth 20000 in
theorem tw_655 : Cond.static yL_wallet ∈ TT := tt_of 655 rfl rfl
set_option maxRecDepth 20000 in
theorem tw_656 : Cond.codeWith yL_wallet cL_wallet 4 ((Option.some .int)) [((0 : Nat), (8 : Nat), (11 : Nat), (19 : Nat))] ∈ TT := tt_of 656 rfl rfl
set_option maxRecDepth 20000 in
theorem tw_657 : Cond.methodLink "TollweaveLaw" 75 yX6_wallet ∈ TT := tt_of 657 rfl rfl
set_option maxRecDepth 20000 in
theorem tw_658 : Cond.instanceMethod yX6_wallet ∈ TT := tt_of 658 rfl rfl
set_option maxRecDepth 20000 in
theorem tw_659 : Cond.selects "Tollweave" yX6_wallet yX6_wallet ∈ TT := tt_of 659 rfl rfl
set_option maxRecDepth 20000 in
theorem tw_660 : Cond.code yX6_wallet cX6_wallet 2 ((Option.some .long)) ∈ TT := tt_of 660 rfl rfl
set_option maxRecDepth 20000 in
theorem tw_661 : Cond.methodLink "TollweaveLaw" 160 yL_own ∈ TT := tt_of 661 rfl rfl
set_option maxRecDepth 20000 in
theorem tw_662 : Cond.static yL_own ∈ TT := tt_of 662 rfl rfl
set_option maxRecDepth 20000 in
theorem tw_663 : Cond.codeWith yL_own cL_own 4 ((Option.some .int)) [((0 : Nat), (8 : Nat), (11 : Nat), (19 : Nat))] ∈ TT := tt_of 663 rfl rfl
set_option maxRecDepth 20000 in
theorem tw_664 : Cond.methodLink "TollweaveLaw" 78 yX6_own ∈ TT := tt_of 664 rfl rfl
set_option maxRecDepth 20000 in
theorem tw_665 : Cond.instanceMethod yX6_own ∈ TT := tt_of 665 rfl rfl
set_option maxRecDepth 20000 in
theorem tw_666 : Cond.selects "Tollweave" yX6_own yX6_own ∈ TT := tt_of 666 rfl rfl
set_option maxRecDepth 20000 in
theorem tw_667 : Cond.code yX6_own cX6_own 2 ((Option.some .long)) ∈ TT := tt_of 667 rfl rfl
set_option maxRecDepth 20000 in
theorem tw_668 : Cond.methodLink "TollweaveLaw" 163 yL_share ∈ TT := tt_of 668 rfl rfl
set_option maxRecDepth 20000 in
theorem tw_669 : Cond.static yL_share ∈ TT := tt_of 669 rfl rfl
set_option maxRecDepth 20000 in
theorem tw_670 : Cond.codeWith yL_share cL_share 5 ((Option.some .int)) [((0 : Nat), (9 : Nat), (12 : Nat), (19 : Nat))] ∈ TT := tt_of 670 rfl rfl
set_option maxRecDepth 20000 in
theorem tw_671 : Cond.methodLink "TollweaveLaw" 81 yX6_share ∈ TT := tt_of 671 rfl rfl
set_option maxRecDepth 20000 in
theorem tw_672 : Cond.instanceMethod yX6_share ∈ TT := tt_of 672 rfl rfl
set_option maxRecDepth 20000 in
theorem tw_673 : Cond.selects "Tollweave" yX6_share yX6_share ∈ TT := tt_of 673 rfl rfl
set_option maxRecDepth 20000 in
theorem tw_674 : Cond.code yX6_share cX6_share 3 ((Option.some .long)) ∈ TT := tt_of 674 rfl rfl
set_option maxRecDepth 20000 in
theorem tw_676 : Cond.methodLink "Tollweave" 230 yX6_dueToOwner ∈ TT := tt_of 676 rfl rfl
set_option maxRecDepth 20000 in
theorem tw_678 : Cond.instanceMethod yX6_dueToOwner ∈ TT := tt_of 678 rfl rfl
set_option maxRecDepth 20000 in
theorem tw_679 : Cond.code yX6_dueToOwner cX6_dueToOwner 5 ((Option.some .long)) ∈ TT := tt_of 679 rfl rfl
set_option maxRecDepth 20000 in
theorem tw_680 : Cond.classLink "TollweaveLaw" 86 "TollweaveModel" ∈ TT := tt_of 680 rfl rfl
set_option maxRecDepth 20000 in
theorem tw_681 : Cond.instantiable "TollweaveModel" 37 ∈ TT := tt_of 681 rfl rfl
set_option maxRecDepth 20000 in
theorem tw_682 : Cond.methodLink "TollweaveLaw" 88 yX7_init ∈ TT := tt_of 682 rfl rfl
set_option maxRecDepth 20000 in
theorem tw_683 : Cond.instanceMethod yX7_init ∈ TT := tt_of 683 rfl rfl
set_option maxRecDepth 20000 in
theorem tw_684 : Cond.code yX7_init cX7_init 2 ((Option.none : Option ClassFile.FieldType)) ∈ TT := tt_of 684 rfl rfl
set_option maxRecDepth 20000 in
theorem tw_685 : Cond.methodLink "TollweaveModel" 1 ⟨"java/lang/Object","<init>","()V"⟩ ∈ TT := tt_of 685 rfl rfl
set_option maxRecDepth 20000 in
theorem tw_686 : Cond.fieldLink "TollweaveModel" 103 "TollweaveModel" "thrown" "I" ∈ TT := tt_of 686 rfl rfl
set_option maxRecDepth 20000 in
theorem tw_687 : Cond.fieldLink "TollweaveModel" 141 "TollweaveModel" "now" "I" ∈ TT := tt_of 687 rfl rfl
set_option maxRecDepth 20000 in
theorem tw_688 : Cond.fieldLink "TollweaveModel" 106 "TollweaveModel" "gateMany" "I" ∈ TT := tt_of 688 rfl rfl
set_option maxRecDepth 20000 in
theorem tw_689 : Cond.fieldLink "TollweaveModel" 117 "TollweaveModel" "roadMany" "I" ∈ TT := tt_of 689 rfl rfl
set_option maxRecDepth 20000 in
theorem tw_690 : Cond.fieldLink "TollweaveModel" 7 "TollweaveModel" "ones" "[I" ∈ TT := tt_of 690 rfl rfl
set_option maxRecDepth 20000 in
theorem tw_691 : Cond.fieldLink "TollweaveModel" 13 "TollweaveModel" "others" "[I" ∈ TT := tt_of 691 rfl rfl
set_option maxRecDepth 20000 in
theorem tw_692 : Cond.fieldLink "TollweaveModel" 16 "TollweaveModel" "lengths" "[I" ∈ TT := tt_of 692 rfl rfl
set_option maxRecDepth 20000 in
theorem tw_693 : Cond.fieldLink "TollweaveModel" 19 "TollweaveModel" "owners" "[I" ∈ TT := tt_of 693 rfl rfl
set_option maxRecDepth 20000 in
theorem tw_694 : Cond.fieldLink "TollweaveModel" 22 "TollweaveModel" "far" "[I" ∈ TT := tt_of 694 rfl rfl
set_option maxRecDepth 20000 in
theorem tw_695 : Cond.fieldLink "TollweaveModel" 25 "TollweaveModel" "rates" "[I" ∈ TT := tt_of 695 rfl rfl
set_option maxRecDepth 20000 in
theorem tw_696 : Cond.fieldLink "TollweaveModel" 28 "TollweaveModel" "percents" "[I" ∈ TT := tt_of 696 rfl rfl
set_option maxRecDepth 20000 in
theorem tw_697 : Cond.fieldLink "TollweaveModel" 31 "TollweaveModel" "most" "I" ∈ TT := tt_of 697 rfl rfl
set_option maxRecDepth 20000 in
theorem tw_698 : Cond.fieldLink "TollweaveModel" 35 "TollweaveModel" "kinds" "[I" ∈ TT := tt_of 698 rfl rfl
set_option maxRecDepth 20000 in
theorem tw_699 : Cond.fieldLink "TollweaveModel" 38 "TollweaveModel" "holders" "[I" ∈ TT := tt_of 699 rfl rfl
set_option maxRecDepth 20000 in
theorem tw_700 : Cond.fieldLink "TollweaveModel" 41 "TollweaveModel" "billed" "[J" ∈ TT := tt_of 700 rfl rfl
set_option maxRecDepth 20000 in
theorem tw_701 : Cond.fieldLink "TollweaveModel" 45 "TollweaveModel" "own" "[J" ∈ TT := tt_of 701 rfl rfl
set_option maxRecDepth 20000 in
theorem tw_702 : Cond.fieldLink "TollweaveModel" 48 "TollweaveModel" "wallets" "[J" ∈ TT := tt_of 702 rfl rfl
set_option maxRecDepth 20000 in
theorem tw_703 : Cond.fieldLink "TollweaveModel" 51 "TollweaveModel" "got" "[J" ∈ TT := tt_of 703 rfl rfl
set_option maxRecDepth 20000 in
theorem tw_704 : Cond.fieldLink "TollweaveModel" 138 "TollweaveModel" "spanMany" "I" ∈ TT := tt_of 704 rfl rfl
set_option maxRecDepth 20000 in
theorem tw_705 : Cond.fieldLink "TollweaveModel" 54 "TollweaveModel" "spanPlate" "[I" ∈ TT := tt_of 705 rfl rfl
set_option maxRecDepth 20000 in
theorem tw_706 : Cond.fieldLink "TollweaveModel" 57 "TollweaveModel" "spanFrom" "[I" ∈ TT := tt_of 706 rfl rfl
set_option maxRecDepth 20000 in
theorem tw_707 : Cond.fieldLink "TollweaveModel" 60 "TollweaveModel" "spanTo" "[I" ∈ TT := tt_of 707 rfl rfl
set_option maxRecDepth 20000 in
theorem tw_708 : Cond.fieldLink "TollweaveModel" 113 "TollweaveModel" "readingMany" "I" ∈ TT := tt_of 708 rfl rfl
set_option maxRecDepth 20000 in
theorem tw_709 : Cond.fieldLink "TollweaveModel" 63 "TollweaveModel" "readGate" "[I" ∈ TT := tt_of 709 rfl rfl
set_option maxRecDepth 20000 in
theorem tw_710 : Cond.fieldLink "TollweaveModel" 66 "TollweaveModel" "readPlate" "[I" ∈ TT := tt_of 710 rfl rfl
set_option maxRecDepth 20000 in
theorem tw_711 : Cond.fieldLink "TollweaveModel" 69 "TollweaveModel" "readMinute" "[I" ∈ TT := tt_of 711 rfl rfl
set_option maxRecDepth 20000 in
theorem tw_712 : Cond.fieldLink "TollweaveModel" 72 "TollweaveModel" "isStruck" "[Z" ∈ TT := tt_of 712 rfl rfl
set_option maxRecDepth 20000 in
theorem tw_713 : Cond.fieldLink "TollweaveModel" 76 "TollweaveModel" "isDouble" "[Z" ∈ TT := tt_of 713 rfl rfl
set_option maxRecDepth 20000 in
theorem tw_714 : Cond.fieldLink "TollweaveModel" 79 "TollweaveModel" "journeyOf" "[I" ∈ TT := tt_of 714 rfl rfl
set_option maxRecDepth 20000 in
theorem tw_715 : Cond.fieldLink "TollweaveModel" 82 "TollweaveModel" "isDone" "[Z" ∈ TT := tt_of 715 rfl rfl
set_option maxRecDepth 20000 in
theorem tw_716 : Cond.fieldLink "TollweaveModel" 159 "TollweaveModel" "journeyMany" "I" ∈ TT := tt_of 716 rfl rfl
set_option maxRecDepth 20000 in
theorem tw_717 : Cond.fieldLink "TollweaveModel" 85 "TollweaveModel" "first" "[I" ∈ TT := tt_of 717 rfl rfl
set_option maxRecDepth 20000 in
theorem tw_718 : Cond.fieldLink "TollweaveModel" 88 "TollweaveModel" "last" "[I" ∈ TT := tt_of 718 rfl rfl
set_option maxRecDepth 20000 in
theorem tw_719 : Cond.fieldLink "TollweaveModel" 91 "TollweaveModel" "counts" "[I" ∈ TT := tt_of 719 rfl rfl
set_option maxRecDepth 20000 in
theorem tw_720 : Cond.fieldLink "TollweaveModel" 94 "TollweaveModel" "paid" "[J" ∈ TT := tt_of 720 rfl rfl
set_option maxRecDepth 20000 in
theorem tw_721 : Cond.fieldLink "TollweaveModel" 97 "TollweaveModel" "fares" "[J" ∈ TT := tt_of 721 rfl rfl
set_option maxRecDepth 20000 in
theorem tw_722 : Cond.fieldLink "TollweaveModel" 100 "TollweaveModel" "shares" "[J" ∈ TT := tt_of 722 rfl rfl
set_option maxRecDepth 20000 in
theorem tw_723 : Cond.lays "TollweaveModel" "TollweaveModel" "thrown" "I" ∈ TT := tt_of 723 rfl rfl
set_option maxRecDepth 20000 in
theorem tw_725 : Cond.lays "TollweaveModel" "TollweaveModel" "now" "I" ∈ TT := tt_of 725 rfl rfl
set_option maxRecDepth 20000 in
theorem tw_727 : Cond.lays "TollweaveModel" "TollweaveModel" "gateMany" "I" ∈ TT := tt_of 727 rfl rfl
set_option maxRecDepth 20000 in
theorem tw_729 : Cond.lays "TollweaveModel" "TollweaveModel" "roadMany" "I" ∈ TT := tt_of 729 rfl rfl
set_option maxRecDepth 20000 in
theorem tw_731 : Cond.laysFinal "TollweaveModel" "TollweaveModel" "ones" "[I" ∈ TT := tt_of 731 rfl rfl
set_option maxRecDepth 20000 in
theorem tw_733 : Cond.laysFinal "TollweaveModel" "TollweaveModel" "others" "[I" ∈ TT := tt_of 733 rfl rfl
set_option maxRecDepth 20000 in
theorem tw_735 : Cond.laysFinal "TollweaveModel" "TollweaveModel" "lengths" "[I" ∈ TT := tt_of 735 rfl rfl
set_option maxRecDepth 20000 in
theorem tw_737 : Cond.laysFinal "TollweaveModel" "TollweaveModel" "owners" "[I" ∈ TT := tt_of 737 rfl rfl
set_option maxRecDepth 20000 in
theorem tw_739 : Cond.laysFinal "TollweaveModel" "TollweaveModel" "far" "[I" ∈ TT := tt_of 739 rfl rfl
set_option maxRecDepth 20000 in
theorem tw_741 : Cond.laysFinal "TollweaveModel" "TollweaveModel" "rates" "[I" ∈ TT := tt_of 741 rfl rfl
set_option maxRecDepth 20000 in
theorem tw_743 : Cond.laysFinal "TollweaveModel" "TollweaveModel" "percents" "[I" ∈ TT := tt_of 743 rfl rfl
set_option maxRecDepth 20000 in
theorem tw_745 : Cond.lays "TollweaveModel" "TollweaveModel" "most" "I" ∈ TT := tt_of 745 rfl rfl
set_option maxRecDepth 20000 in
theorem tw_747 : Cond.laysFinal "TollweaveModel" "TollweaveModel" "kinds" "[I" ∈ TT := tt_of 747 rfl rfl
set_option maxRecDepth 20000 in
theorem tw_749 : Cond.laysFinal "TollweaveModel" "TollweaveModel" "holders" "[I" ∈ TT := tt_of 749 rfl rfl
set_option maxRecDepth 20000 in
theorem tw_751 : Cond.laysFinal "TollweaveModel" "TollweaveModel" "billed" "[J" ∈ TT := tt_of 751 rfl rfl
set_option maxRecDepth 20000 in
theorem tw_753 : Cond.laysFinal "TollweaveModel" "TollweaveModel" "own" "[J" ∈ TT := tt_of 753 rfl rfl
set_option maxRecDepth 20000 in
theorem tw_755 : Cond.laysFinal "TollweaveModel" "TollweaveModel" "wallets" "[J" ∈ TT := tt_of 755 rfl rfl
set_option maxRecDepth 20000 in
theorem tw_757 : Cond.laysFinal "TollweaveModel" "TollweaveModel" "got" "[J" ∈ TT := tt_of 757 rfl rfl
set_option maxRecDepth 20000 in
theorem tw_759 : Cond.lays "TollweaveModel" "TollweaveModel" "spanMany" "I" ∈ TT := tt_of 759 rfl rfl
set_option maxRecDepth 20000 in
theorem tw_761 : Cond.laysFinal "TollweaveModel" "TollweaveModel" "spanPlate" "[I" ∈ TT := tt_of 761 rfl rfl
set_option maxRecDepth 20000 in
theorem tw_763 : Cond.laysFinal "TollweaveModel" "TollweaveModel" "spanFrom" "[I" ∈ TT := tt_of 763 rfl rfl
set_option maxRecDepth 20000 in
theorem tw_765 : Cond.laysFinal "TollweaveModel" "TollweaveModel" "spanTo" "[I" ∈ TT := tt_of 765 rfl rfl
set_option maxRecDepth 20000 in
theorem tw_767 : Cond.lays "TollweaveModel" "TollweaveModel" "readingMany" "I" ∈ TT := tt_of 767 rfl rfl
set_option maxRecDepth 20000 in
theorem tw_769 : Cond.laysFinal "TollweaveModel" "TollweaveModel" "readGate" "[I" ∈ TT := tt_of 769 rfl rfl
set_option maxRecDepth 20000 in
theorem tw_771 : Cond.laysFinal "TollweaveModel" "TollweaveModel" "readPlate" "[I" ∈ TT := tt_of 771 rfl rfl
set_option maxRecDepth 20000 in
theorem tw_773 : Cond.laysFinal "TollweaveModel" "TollweaveModel" "readMinute" "[I" ∈ TT := tt_of 773 rfl rfl
set_option maxRecDepth 20000 in
theorem tw_775 : Cond.laysFinal "TollweaveModel" "TollweaveModel" "isStruck" "[Z" ∈ TT := tt_of 775 rfl rfl
set_option maxRecDepth 20000 in
theorem tw_777 : Cond.laysFinal "TollweaveModel" "TollweaveModel" "isDouble" "[Z" ∈ TT := tt_of 777 rfl rfl
set_option maxRecDepth 20000 in
theorem tw_779 : Cond.laysFinal "TollweaveModel" "TollweaveModel" "journeyOf" "[I" ∈ TT := tt_of 779 rfl rfl
set_option maxRecDepth 20000 in
theorem tw_781 : Cond.laysFinal "TollweaveModel" "TollweaveModel" "isDone" "[Z" ∈ TT := tt_of 781 rfl rfl
set_option maxRecDepth 20000 in
theorem tw_783 : Cond.lays "TollweaveModel" "TollweaveModel" "journeyMany" "I" ∈ TT := tt_of 783 rfl rfl
set_option maxRecDepth 20000 in
theorem tw_785 : Cond.laysFinal "TollweaveModel" "TollweaveModel" "first" "[I" ∈ TT := tt_of 785 rfl rfl
set_option maxRecDepth 20000 in
theorem tw_787 : Cond.laysFinal "TollweaveModel" "TollweaveModel" "last" "[I" ∈ TT := tt_of 787 rfl rfl
set_option maxRecDepth 20000 in
theorem tw_789 : Cond.laysFinal "TollweaveModel" "TollweaveModel" "counts" "[I" ∈ TT := tt_of 789 rfl rfl
set_option maxRecDepth 20000 in
theorem tw_791 : Cond.laysFinal "TollweaveModel" "TollweaveModel" "paid" "[J" ∈ TT := tt_of 791 rfl rfl
set_option maxRecDepth 20000 in
theorem tw_793 : Cond.laysFinal "TollweaveModel" "TollweaveModel" "fares" "[J" ∈ TT := tt_of 793 rfl rfl
set_option maxRecDepth 20000 in
theorem tw_795 : Cond.laysFinal "TollweaveModel" "TollweaveModel" "shares" "[J" ∈ TT := tt_of 795 rfl rfl
set_option maxRecDepth 20000 in
theorem tw_798 : Cond.methodLink "TollweaveLaw" 95 yX7_thrown ∈ TT := tt_of 798 rfl rfl
set_option maxRecDepth 20000 in
theorem tw_799 : Cond.instanceMethod yX7_thrown ∈ TT := tt_of 799 rfl rfl
set_option maxRecDepth 20000 in
theorem tw_800 : Cond.selects "TollweaveModel" yX7_thrown yX7_thrown ∈ TT := tt_of 800 rfl rfl
set_option maxRecDepth 20000 in
theorem tw_801 : Cond.code yX7_thrown cX7_thrown 1 ((Option.some .int)) ∈ TT := tt_of 801 rfl rfl
set_option maxRecDepth 20000 in
theorem tw_802 : Cond.methodLink "TollweaveLaw" 94 yX7_gate ∈ TT := tt_of 802 rfl rfl
set_option maxRecDepth 20000 in
theorem tw_803 : Cond.instanceMethod yX7_gate ∈ TT := tt_of 803 rfl rfl
set_option maxRecDepth 20000 in
theorem tw_804 : Cond.selects "TollweaveModel" yX7_gate yX7_gate ∈ TT := tt_of 804 rfl rfl
set_option maxRecDepth 20000 in
theorem tw_805 : Cond.code yX7_gate cX7_gate 1 ((Option.some .int)) ∈ TT := tt_of 805 rfl rfl
set_option maxRecDepth 20000 in
theorem tw_806 : Cond.methodLink "TollweaveModel" 124 yX7_measures ∈ TT := tt_of 806 rfl rfl
set_option maxRecDepth 20000 in
theorem tw_808 : Cond.instanceMethod yX7_measures ∈ TT := tt_of 808 rfl rfl
set_option maxRecDepth 20000 in
theorem tw_809 : Cond.code yX7_measures cX7_measures 6 ((Option.none : Option ClassFile.FieldType)) ∈ TT := tt_of 809 rfl rfl
set_option maxRecDepth 20000 in
theorem tw_810 : Cond.constant "TollweaveModel" 116 1000000 ∈ TT := tt_of 810 rfl rfl
set_option maxRecDepth 20000 in
theorem tw_811 : Cond.methodLink "TollweaveLaw" 101 yX7_road ∈ TT := tt_of 811 rfl rfl
set_option maxRecDepth 20000 in
theorem tw_812 : Cond.instanceMethod yX7_road ∈ TT := tt_of 812 rfl rfl
set_option maxRecDepth 20000 in
theorem tw_813 : Cond.selects "TollweaveModel" yX7_road yX7_road ∈ TT := tt_of 813 rfl rfl
set_option maxRecDepth 20000 in
theorem tw_814 : Cond.code yX7_road cX7_road 5 ((Option.some .int)) ∈ TT := tt_of 814 rfl rfl
set_option maxRecDepth 20000 in
theorem tw_815 : Cond.methodLink "TollweaveModel" 127 yX7_isGate ∈ TT := tt_of 815 rfl rfl
set_option maxRecDepth 20000 in
theorem tw_817 : Cond.instanceMethod yX7_isGate ∈ TT := tt_of 817 rfl rfl
set_option maxRecDepth 20000 in
theorem tw_818 : Cond.code yX7_isGate cX7_isGate 2 ((Option.some .boolean)) ∈ TT := tt_of 818 rfl rfl
set_option maxRecDepth 20000 in
theorem tw_819 : Cond.methodLink "TollweaveModel" 109 yX7_in ∈ TT := tt_of 819 rfl rfl
set_option maxRecDepth 20000 in
theorem tw_820 : Cond.static yX7_in ∈ TT := tt_of 820 rfl rfl
set_option maxRecDepth 20000 in
theorem tw_821 : Cond.code yX7_in cX7_in 3 ((Option.some .boolean)) ∈ TT := tt_of 821 rfl rfl
set_option maxRecDepth 20000 in
theorem tw_822 : Cond.methodLink "TollweaveLaw" 105 yX7_rate ∈ TT := tt_of 822 rfl rfl
set_option maxRecDepth 20000 in
theorem tw_823 : Cond.instanceMethod yX7_rate ∈ TT := tt_of 823 rfl rfl
set_option maxRecDepth 20000 in
theorem tw_824 : Cond.selects "TollweaveModel" yX7_rate yX7_rate ∈ TT := tt_of 824 rfl rfl
set_option maxRecDepth 20000 in
theorem tw_825 : Cond.code yX7_rate cX7_rate 4 ((Option.none : Option ClassFile.FieldType)) ∈ TT := tt_of 825 rfl rfl
set_option maxRecDepth 20000 in
theorem tw_826 : Cond.methodLink "TollweaveLaw" 109 yX7_most ∈ TT := tt_of 826 rfl rfl
set_option maxRecDepth 20000 in
theorem tw_827 : Cond.instanceMethod yX7_most ∈ TT := tt_of 827 rfl rfl
set_option maxRecDepth 20000 in
theorem tw_828 : Cond.selects "TollweaveModel" yX7_most yX7_most ∈ TT := tt_of 828 rfl rfl
set_option maxRecDepth 20000 in
theorem tw_829 : Cond.code yX7_most cX7_most 3 ((Option.some .int)) ∈ TT := tt_of 829 rfl rfl
set_option maxRecDepth 20000 in
theorem tw_830 : Cond.constant "TollweaveModel" 131 100000 ∈ TT := tt_of 830 rfl rfl
set_option maxRecDepth 20000 in
theorem tw_831 : Cond.methodLink "TollweaveLaw" 112 yX7_plate ∈ TT := tt_of 831 rfl rfl
set_option maxRecDepth 20000 in
theorem tw_832 : Cond.instanceMethod yX7_plate ∈ TT := tt_of 832 rfl rfl
set_option maxRecDepth 20000 in
theorem tw_833 : Cond.selects "TollweaveModel" yX7_plate yX7_plate ∈ TT := tt_of 833 rfl rfl
set_option maxRecDepth 20000 in
theorem tw_834 : Cond.code yX7_plate cX7_plate 4 ((Option.none : Option ClassFile.FieldType)) ∈ TT := tt_of 834 rfl rfl
set_option maxRecDepth 20000 in
theorem tw_835 : Cond.methodLink "TollweaveModel" 132 yX7_isPlate ∈ TT := tt_of 835 rfl rfl
set_option maxRecDepth 20000 in
theorem tw_836 : Cond.static yX7_isPlate ∈ TT := tt_of 836 rfl rfl
set_option maxRecDepth 20000 in
theorem tw_837 : Cond.code yX7_isPlate cX7_isPlate 1 ((Option.some .boolean)) ∈ TT := tt_of 837 rfl rfl
set_option maxRecDepth 20000 in
theorem tw_838 : Cond.methodLink "TollweaveModel" 135 yX7_isHolder ∈ TT := tt_of 838 rfl rfl
set_option maxRecDepth 20000 in
theorem tw_839 : Cond.static yX7_isHolder ∈ TT := tt_of 839 rfl rfl
set_option maxRecDepth 20000 in
theorem tw_840 : Cond.code yX7_isHolder cX7_isHolder 1 ((Option.some .boolean)) ∈ TT := tt_of 840 rfl rfl
set_option maxRecDepth 20000 in
theorem tw_841 : Cond.methodLink "TollweaveLaw" 116 yX7_top ∈ TT := tt_of 841 rfl rfl
set_option maxRecDepth 20000 in
theorem tw_842 : Cond.instanceMethod yX7_top ∈ TT := tt_of 842 rfl rfl
set_option maxRecDepth 20000 in
theorem tw_843 : Cond.selects "TollweaveModel" yX7_top yX7_top ∈ TT := tt_of 843 rfl rfl
set_option maxRecDepth 20000 in
theorem tw_844 : Cond.code yX7_top cX7_top 3 ((Option.some .long)) ∈ TT := tt_of 844 rfl rfl
set_option maxRecDepth 20000 in
theorem tw_845 : Cond.methodLink "TollweaveLaw" 120 yX7_exempt ∈ TT := tt_of 845 rfl rfl
set_option maxRecDepth 20000 in
theorem tw_846 : Cond.instanceMethod yX7_exempt ∈ TT := tt_of 846 rfl rfl
set_option maxRecDepth 20000 in
theorem tw_847 : Cond.selects "TollweaveModel" yX7_exempt yX7_exempt ∈ TT := tt_of 847 rfl rfl
set_option maxRecDepth 20000 in
theorem tw_848 : Cond.code yX7_exempt cX7_exempt 4 ((Option.some .int)) ∈ TT := tt_of 848 rfl rfl
set_option maxRecDepth 20000 in
theorem tw_849 : Cond.methodLink "TollweaveLaw" 123 yX7_read ∈ TT := tt_of 849 rfl rfl
set_option maxRecDepth 20000 in
theorem tw_850 : Cond.instanceMethod yX7_read ∈ TT := tt_of 850 rfl rfl
set_option maxRecDepth 20000 in
theorem tw_851 : Cond.selects "TollweaveModel" yX7_read yX7_read ∈ TT := tt_of 851 rfl rfl
set_option maxRecDepth 20000 in
theorem tw_852 : Cond.code yX7_read cX7_read 4 ((Option.some .int)) ∈ TT := tt_of 852 rfl rfl
set_option maxRecDepth 20000 in
theorem tw_853 : Cond.methodLink "TollweaveLaw" 127 yX7_strike ∈ TT := tt_of 853 rfl rfl
set_option maxRecDepth 20000 in
theorem tw_854 : Cond.instanceMethod yX7_strike ∈ TT := tt_of 854 rfl rfl
set_option maxRecDepth 20000 in
theorem tw_855 : Cond.selects "TollweaveModel" yX7_strike yX7_strike ∈ TT := tt_of 855 rfl rfl
set_option maxRecDepth 20000 in
theorem tw_856 : Cond.code yX7_strike cX7_strike 2 ((Option.none : Option ClassFile.FieldType)) ∈ TT := tt_of 856 rfl rfl
set_option maxRecDepth 20000 in
theorem tw_857 : Cond.methodLink "TollweaveModel" 144 yX7_isReading ∈ TT := tt_of 857 rfl rfl
set_option maxRecDepth 20000 in
theorem tw_859 : Cond.instanceMethod yX7_isReading ∈ TT := tt_of 859 rfl rfl
set_option maxRecDepth 20000 in
theorem tw_860 : Cond.code yX7_isReading cX7_isReading 2 ((Option.some .boolean)) ∈ TT := tt_of 860 rfl rfl
set_option maxRecDepth 20000 in
theorem tw_861 : Cond.methodLink "TollweaveLaw" 130 yX7_pass ∈ TT := tt_of 861 rfl rfl
set_option maxRecDepth 20000 in
theorem tw_862 : Cond.instanceMethod yX7_pass ∈ TT := tt_of 862 rfl rfl
set_option maxRecDepth 20000 in
theorem tw_863 : Cond.selects "TollweaveModel" yX7_pass yX7_pass ∈ TT := tt_of 863 rfl rfl
set_option maxRecDepth 20000 in
theorem tw_864 : Cond.code yX7_pass cX7_pass 2 ((Option.some .int)) ∈ TT := tt_of 864 rfl rfl
set_option maxRecDepth 20000 in
theorem tw_865 : Cond.methodLink "TollweaveLaw" 135 yX7_bill ∈ TT := tt_of 865 rfl rfl
set_option maxRecDepth 20000 in
theorem tw_866 : Cond.instanceMethod yX7_bill ∈ TT := tt_of 866 rfl rfl
set_option maxRecDepth 20000 in
theorem tw_867 : Cond.selects "TollweaveModel" yX7_bill yX7_bill ∈ TT := tt_of 867 rfl rfl
set_option maxRecDepth 20000 in
theorem tw_868 : Cond.code yX7_bill cX7_bill 8 ((Option.some .long)) ∈ TT := tt_of 868 rfl rfl
set_option maxRecDepth 20000 in
theorem tw_869 : Cond.methodLink "TollweaveModel" 182 yX7_dueOf ∈ TT := tt_of 869 rfl rfl
set_option maxRecDepth 20000 in
theorem tw_871 : Cond.instanceMethod yX7_dueOf ∈ TT := tt_of 871 rfl rfl
set_option maxRecDepth 20000 in
theorem tw_872 : Cond.code yX7_dueOf cX7_dueOf 5 ((Option.some .long)) ∈ TT := tt_of 872 rfl rfl
set_option maxRecDepth 20000 in
theorem tw_873 : Cond.methodLink "TollweaveModel" 176 yX7_goes ∈ TT := tt_of 873 rfl rfl
set_option maxRecDepth 20000 in
theorem tw_875 : Cond.instanceMethod yX7_goes ∈ TT := tt_of 875 rfl rfl
set_option maxRecDepth 20000 in
theorem tw_876 : Cond.code yX7_goes cX7_goes 7 ((Option.none : Option ClassFile.FieldType)) ∈ TT := tt_of 876 rfl rfl
set_option maxRecDepth 20000 in
theorem tw_877 : Cond.methodLink "TollweaveModel" 162 yX7_nextReading ∈ TT := tt_of 877 rfl rfl
set_option maxRecDepth 20000 in
theorem tw_879 : Cond.instanceMethod yX7_nextReading ∈ TT := tt_of 879 rfl rfl
set_option maxRecDepth 20000 in
theorem tw_880 : Cond.code yX7_nextReading cX7_nextReading 5 ((Option.some .int)) ∈ TT := tt_of 880 rfl rfl
set_option maxRecDepth 20000 in
theorem tw_881 : Cond.methodLink "TollweaveModel" 120 yX7_away ∈ TT := tt_of 881 rfl rfl
set_option maxRecDepth 20000 in
theorem tw_883 : Cond.instanceMethod yX7_away ∈ TT := tt_of 883 rfl rfl
set_option maxRecDepth 20000 in
theorem tw_884 : Cond.code yX7_away cX7_away 3 ((Option.some .int)) ∈ TT := tt_of 884 rfl rfl
set_option maxRecDepth 20000 in
theorem tw_885 : Cond.methodLink "TollweaveModel" 166 yX7_pays ∈ TT := tt_of 885 rfl rfl
set_option maxRecDepth 20000 in
theorem tw_887 : Cond.instanceMethod yX7_pays ∈ TT := tt_of 887 rfl rfl
set_option maxRecDepth 20000 in
theorem tw_888 : Cond.code yX7_pays cX7_pays 11 ((Option.none : Option ClassFile.FieldType)) ∈ TT := tt_of 888 rfl rfl
set_option maxRecDepth 20000 in
theorem tw_889 : Cond.methodLink "TollweaveModel" 147 yX7_isExempt ∈ TT := tt_of 889 rfl rfl
set_option maxRecDepth 20000 in
theorem tw_891 : Cond.instanceMethod yX7_isExempt ∈ TT := tt_of 891 rfl rfl
set_option maxRecDepth 20000 in
theorem tw_892 : Cond.code yX7_isExempt cX7_isExempt 5 ((Option.some .boolean)) ∈ TT := tt_of 892 rfl rfl
set_option maxRecDepth 20000 in
theorem tw_893 : Cond.methodLink "TollweaveModel" 151 yX7_next ∈ TT := tt_of 893 rfl rfl
set_option maxRecDepth 20000 in
theorem tw_895 : Cond.instanceMethod yX7_next ∈ TT := tt_of 895 rfl rfl
set_option maxRecDepth 20000 in
theorem tw_896 : Cond.code yX7_next cX7_next 7 ((Option.some .int)) ∈ TT := tt_of 896 rfl rfl
set_option maxRecDepth 20000 in
theorem tw_897 : Cond.constantLong "TollweaveModel" 154 100 ∈ TT := tt_of 897 rfl rfl
set_option maxRecDepth 20000 in
theorem tw_898 : Cond.methodLink "TollweaveModel" 156 yX7_otherEnd ∈ TT := tt_of 898 rfl rfl
set_option maxRecDepth 20000 in
theorem tw_900 : Cond.instanceMethod yX7_otherEnd ∈ TT := tt_of 900 rfl rfl
set_option maxRecDepth 20000 in
theorem tw_901 : Cond.code yX7_otherEnd cX7_otherEnd 3 ((Option.some .int)) ∈ TT := tt_of 901 rfl rfl
set_option maxRecDepth 20000 in
theorem tw_902 : Cond.methodLink "TollweaveModel" 170 yX7_begins ∈ TT := tt_of 902 rfl rfl
set_option maxRecDepth 20000 in
theorem tw_904 : Cond.instanceMethod yX7_begins ∈ TT := tt_of 904 rfl rfl
set_option maxRecDepth 20000 in
theorem tw_905 : Cond.code yX7_begins cX7_begins 4 ((Option.none : Option ClassFile.FieldType)) ∈ TT := tt_of 905 rfl rfl
set_option maxRecDepth 20000 in
theorem tw_906 : Cond.methodLink "TollweaveModel" 174 yX7_shares ∈ TT := tt_of 906 rfl rfl
set_option maxRecDepth 20000 in
theorem tw_908 : Cond.instanceMethod yX7_shares ∈ TT := tt_of 908 rfl rfl
set_option maxRecDepth 20000 in
theorem tw_909 : Cond.code yX7_shares cX7_shares 10 ((Option.none : Option ClassFile.FieldType)) ∈ TT := tt_of 909 rfl rfl
set_option maxRecDepth 20000 in
theorem tw_910 : Cond.methodLink "TollweaveModel" 179 yX7_isOver ∈ TT := tt_of 910 rfl rfl
set_option maxRecDepth 20000 in
theorem tw_912 : Cond.instanceMethod yX7_isOver ∈ TT := tt_of 912 rfl rfl
set_option maxRecDepth 20000 in
theorem tw_913 : Cond.code yX7_isOver cX7_isOver 2 ((Option.some .boolean)) ∈ TT := tt_of 913 rfl rfl
set_option maxRecDepth 20000 in
theorem tw_914 : Cond.methodLink "TollweaveModel" 186 yX7_dueTo ∈ TT := tt_of 914 rfl rfl
set_option maxRecDepth 20000 in
theorem tw_916 : Cond.instanceMethod yX7_dueTo ∈ TT := tt_of 916 rfl rfl
set_option maxRecDepth 20000 in
theorem tw_917 : Cond.code yX7_dueTo cX7_dueTo 6 ((Option.some .long)) ∈ TT := tt_of 917 rfl rfl
set_option maxRecDepth 20000 in
theorem tw_918 : Cond.methodLink "TollweaveLaw" 138 yX7_distance ∈ TT := tt_of 918 rfl rfl
set_option maxRecDepth 20000 in
theorem tw_919 : Cond.instanceMethod yX7_distance ∈ TT := tt_of 919 rfl rfl
set_option maxRecDepth 20000 in
theorem tw_920 : Cond.selects "TollweaveModel" yX7_distance yX7_distance ∈ TT := tt_of 920 rfl rfl
set_option maxRecDepth 20000 in
theorem tw_921 : Cond.code yX7_distance cX7_distance 3 ((Option.some .int)) ∈ TT := tt_of 921 rfl rfl
set_option maxRecDepth 20000 in
theorem tw_922 : Cond.methodLink "TollweaveLaw" 141 yX7_way ∈ TT := tt_of 922 rfl rfl
set_option maxRecDepth 20000 in
theorem tw_923 : Cond.instanceMethod yX7_way ∈ TT := tt_of 923 rfl rfl
set_option maxRecDepth 20000 in
theorem tw_924 : Cond.selects "TollweaveModel" yX7_way yX7_way ∈ TT := tt_of 924 rfl rfl
set_option maxRecDepth 20000 in
theorem tw_925 : Cond.code yX7_way cX7_way 7 ((Option.some .int)) ∈ TT := tt_of 925 rfl rfl
set_option maxRecDepth 20000 in
theorem tw_926 : Cond.methodLink "TollweaveLaw" 144 yX7_journeys ∈ TT := tt_of 926 rfl rfl
set_option maxRecDepth 20000 in
theorem tw_927 : Cond.instanceMethod yX7_journeys ∈ TT := tt_of 927 rfl rfl
set_option maxRecDepth 20000 in
theorem tw_928 : Cond.selects "TollweaveModel" yX7_journeys yX7_journeys ∈ TT := tt_of 928 rfl rfl
set_option maxRecDepth 20000 in
theorem tw_929 : Cond.code yX7_journeys cX7_journeys 2 ((Option.some .int)) ∈ TT := tt_of 929 rfl rfl
set_option maxRecDepth 20000 in
theorem tw_930 : Cond.methodLink "TollweaveLaw" 147 yX7_journey ∈ TT := tt_of 930 rfl rfl
set_option maxRecDepth 20000 in
theorem tw_931 : Cond.instanceMethod yX7_journey ∈ TT := tt_of 931 rfl rfl
set_option maxRecDepth 20000 in
theorem tw_932 : Cond.selects "TollweaveModel" yX7_journey yX7_journey ∈ TT := tt_of 932 rfl rfl
set_option maxRecDepth 20000 in
theorem tw_933 : Cond.code yX7_journey cX7_journey 4 ((Option.some .int)) ∈ TT := tt_of 933 rfl rfl
set_option maxRecDepth 20000 in
theorem tw_934 : Cond.methodLink "TollweaveLaw" 150 yX7_ofReading ∈ TT := tt_of 934 rfl rfl
set_option maxRecDepth 20000 in
theorem tw_935 : Cond.instanceMethod yX7_ofReading ∈ TT := tt_of 935 rfl rfl
set_option maxRecDepth 20000 in
theorem tw_936 : Cond.selects "TollweaveModel" yX7_ofReading yX7_ofReading ∈ TT := tt_of 936 rfl rfl
set_option maxRecDepth 20000 in
theorem tw_937 : Cond.code yX7_ofReading cX7_ofReading 3 ((Option.some .int)) ∈ TT := tt_of 937 rfl rfl
set_option maxRecDepth 20000 in
theorem tw_938 : Cond.methodLink "TollweaveLaw" 153 yX7_due ∈ TT := tt_of 938 rfl rfl
set_option maxRecDepth 20000 in
theorem tw_939 : Cond.instanceMethod yX7_due ∈ TT := tt_of 939 rfl rfl
set_option maxRecDepth 20000 in
theorem tw_940 : Cond.selects "TollweaveModel" yX7_due yX7_due ∈ TT := tt_of 940 rfl rfl
set_option maxRecDepth 20000 in
theorem tw_941 : Cond.code yX7_due cX7_due 2 ((Option.some .long)) ∈ TT := tt_of 941 rfl rfl
set_option maxRecDepth 20000 in
theorem tw_942 : Cond.methodLink "TollweaveLaw" 156 yX7_billed ∈ TT := tt_of 942 rfl rfl
set_option maxRecDepth 20000 in
theorem tw_943 : Cond.instanceMethod yX7_billed ∈ TT := tt_of 943 rfl rfl
set_option maxRecDepth 20000 in
theorem tw_944 : Cond.selects "TollweaveModel" yX7_billed yX7_billed ∈ TT := tt_of 944 rfl rfl
set_option maxRecDepth 20000 in
theorem tw_945 : Cond.code yX7_billed cX7_billed 2 ((Option.some .long)) ∈ TT := tt_of 945 rfl rfl
set_option maxRecDepth 20000 in
theorem tw_946 : Cond.methodLink "TollweaveLaw" 159 yX7_wallet ∈ TT := tt_of 946 rfl rfl
set_option maxRecDepth 20000 in
theorem tw_947 : Cond.instanceMethod yX7_wallet ∈ TT := tt_of 947 rfl rfl
set_option maxRecDepth 20000 in
theorem tw_948 : Cond.selects "TollweaveModel" yX7_wallet yX7_wallet ∈ TT := tt_of 948 rfl rfl
set_option maxRecDepth 20000 in
theorem tw_949 : Cond.code yX7_wallet cX7_wallet 2 ((Option.some .long)) ∈ TT := tt_of 949 rfl rfl
set_option maxRecDepth 20000 in
theorem tw_950 : Cond.methodLink "TollweaveLaw" 162 yX7_own ∈ TT := tt_of 950 rfl rfl
set_option maxRecDepth 20000 in
theorem tw_951 : Cond.instanceMethod yX7_own ∈ TT := tt_of 951 rfl rfl
set_option maxRecDepth 20000 in
theorem tw_952 : Cond.selects "TollweaveModel" yX7_own yX7_own ∈ TT := tt_of 952 rfl rfl
set_option maxRecDepth 20000 in
theorem tw_953 : Cond.code yX7_own cX7_own 2 ((Option.some .long)) ∈ TT := tt_of 953 rfl rfl
set_option maxRecDepth 20000 in
theorem tw_954 : Cond.methodLink "TollweaveLaw" 166 yX7_share ∈ TT := tt_of 954 rfl rfl
set_option maxRecDepth 20000 in
theorem tw_955 : Cond.instanceMethod yX7_share ∈ TT := tt_of 955 rfl rfl
set_option maxRecDepth 20000 in
theorem tw_956 : Cond.selects "TollweaveModel" yX7_share yX7_share ∈ TT := tt_of 956 rfl rfl
set_option maxRecDepth 20000 in
theorem tw_957 : Cond.code yX7_share cX7_share 3 ((Option.some .long)) ∈ TT := tt_of 957 rfl rfl
end
section
abbrev vwCl : List vw_C := [(RX0, TX0, 4), (RX1, TX1, 7), (RX2, TX2, 6), (RX3, TX3, 6), (RX4, TX4, 7), (RX5, TX5, 3), (RX6, TX6, 7), (RX7, TX7, 37)]
/-! THE ONE WORLD: every object and array of the class, of the reference and of the law, each by a number; what they hold is (V, I, J): the int fields, the int (and boolean) arrays, the long arrays -/
/-- the arrays by number from 8 on: kind (0 int, 1 boolean, 2 long, 3 rows of ints) and length -/
def wTab : List (Nat × Nat) := [(0,24),(0,24),(0,24),(0,24),(0,3),(0,3),(0,10),(0,10),(0,20),(0,20),(0,20),(0,100),(0,100),(0,100),(1,100),(0,100),(0,100),(0,100),(0,100),(0,100),(1,100),(2,6),(2,10),(2,10),(2,4),(3,12),(3,4),
  (0,12),(0,12),(0,12),(0,12),(0,12),(0,12),(0,12),(0,12),(0,12),(0,12),(0,12),(0,12),(0,100),(0,100),(0,100),(0,100),
  (0,24),(0,24),(0,24),(0,24),(0,144),(0,3),(0,3),(0,10),(0,10),(2,10),(2,10),(2,6),(2,4),(0,20),(0,20),(0,20),(0,100),(0,100),(0,100),(1,100),(1,100),(0,100),(1,100),(0,100),(0,100),(0,100),(2,400),(2,100),(2,400),(2,1)]
def wKd (k : Nat) : Nat := (wTab.getD (k - 8) (0, 0)).1
def wLn (k : Nat) : Nat := (wTab.getD (k - 8) (0, 0)).2
/-- where the rows of an array of rows begin -/
def wBs (k : Nat) : Nat := if k = 33 then 35 else 47
/-- the classes' numbers, the addresses, the heap's size at the law's start, the array classes -/
abbrev wG : Type := va_G × (Nat → Nat) × Nat × (Nat → ClassId)
abbrev wV : Type := Nat → Int32
abbrev wI : Type := Nat → Nat → Int32
abbrev wJ : Type := Nat → Nat → Int64
def wArr (G : wG) (I : wI) (J : wJ) (k : Nat) : va_E := .inl (G.2.2.2 (wKd k), wLn k, if wKd k = 2 then .inr (.inl (J k)) else if wKd k = 3 then .inr (.inr (.inr (.inr (fun j => if j < wLn k then some (G.2.1 (wBs k + j)) else none)))) else .inl (I k))
def wEnt (G : wG) (V : wV) (I : wI) (J : wJ) : Nat → va_E
  | 0 => .inr (6, [.ref (G.2.1 1), .ref (G.2.1 2), .ref (G.2.1 3), .ref (G.2.1 4), .ref (G.2.1 5), .ref (G.2.1 6), .int (V 0)])
  | 1 => .inr (4, [.ref (G.2.1 8), .ref (G.2.1 9), .ref (G.2.1 10), .ref (G.2.1 11), .ref (G.2.1 33), .int (V 1), .int (V 2)])
  | 2 => .inr (5, [.ref (G.2.1 12), .ref (G.2.1 13), .int (V 3)])
  | 3 => .inr (2, [.ref (G.2.1 14), .ref (G.2.1 15), .ref (G.2.1 16), .ref (G.2.1 17), .ref (G.2.1 18), .int (V 4)])
  | 4 => .inr (3, [.ref (G.2.1 19), .ref (G.2.1 20), .ref (G.2.1 21), .ref (G.2.1 22), .ref (G.2.1 23), .int (V 5)])
  | 5 => .inr (1, [.ref (G.2.1 24), .ref (G.2.1 25), .ref (G.2.1 26), .ref (G.2.1 34), .ref (G.2.1 27), .ref (G.2.1 28), .int (V 6)])
  | 6 => .inr (0, [.ref (G.2.1 29), .ref (G.2.1 30), .ref (G.2.1 31), .ref (G.2.1 32)])
  | 7 => .inr (7, [.int (V 7), .int (V 8), .int (V 9), .int (V 10), .ref (G.2.1 51), .ref (G.2.1 52), .ref (G.2.1 53), .ref (G.2.1 54), .ref (G.2.1 55), .ref (G.2.1 56), .ref (G.2.1 57), .int (V 11), .ref (G.2.1 58), .ref (G.2.1 59), .ref (G.2.1 60), .ref (G.2.1 61), .ref (G.2.1 62), .ref (G.2.1 63), .int (V 12), .ref (G.2.1 64), .ref (G.2.1 65), .ref (G.2.1 66), .int (V 13), .ref (G.2.1 67), .ref (G.2.1 68), .ref (G.2.1 69), .ref (G.2.1 70), .ref (G.2.1 71), .ref (G.2.1 72), .ref (G.2.1 73), .int (V 14), .ref (G.2.1 74), .ref (G.2.1 75), .ref (G.2.1 76), .ref (G.2.1 77), .ref (G.2.1 78), .ref (G.2.1 79)])
  | k + 8 => wArr G I J (k + 8)
def Wd (G : wG) (V : wV) (I : wI) (J : wJ) : va_W := (List.range 81).map (fun k => (G.2.1 k, wEnt G V I J k))
theorem wd_at (G : wG) (V : wV) (I : wI) (J : wJ) {k : Nat} (h : k < 81) : (Wd G V I J)[k]? = some (G.2.1 k, wEnt G V I J k) := by
  unfold Wd
  rw [List.getElem?_map, List.getElem?_range h]
  rfl
theorem wd_set {G : wG} {V V' : wV} {I I' : wI} {J J' : wJ} {k : Nat} {e : va_E} (hk : k < 81) (he : e = wEnt G V' I' J' k) (ho : ∀ j, j ≠ k → wEnt G V I J j = wEnt G V' I' J' j) : (Wd G V I J).set k (G.2.1 k, e) = Wd G V' I' J' := by
  apply List.ext_getElem?
  intro j
  rcases Nat.lt_or_ge j 81 with hj | hj
  · rw [wd_at G V' I' J' hj, List.getElem?_set]
    have hl : (Wd G V I J).length = 81 := by unfold Wd; rw [List.length_map, List.length_range]
    by_cases e1 : k = j
    · subst e1
      rw [if_pos rfl, if_pos (by rw [hl]; exact hk), he]
    · rw [if_neg e1, wd_at G V I J hj, ho j (fun q => e1 q.symm)]
  · have hl : (Wd G V I J).length = 81 := by unfold Wd; rw [List.length_map, List.length_range]
    have hl2 : (Wd G V' I' J').length = 81 := by unfold Wd; rw [List.length_map, List.length_range]
    rw [List.getElem?_eq_none (by rw [List.length_set, hl]; exact hj), List.getElem?_eq_none (by rw [hl2]; exact hj)]
theorem wEnt_arr (G : wG) (V : wV) (I : wI) (J : wJ) {k : Nat} (h : 8 ≤ k) : wEnt G V I J k = wArr G I J k := by
  obtain ⟨j, rfl⟩ : ∃ j, k = j + 8 := ⟨k - 8, by omega⟩
  rfl
/-- array number k holds f from now on -/
def uI (I : wI) (k : Nat) (f : Nat → Int32) : wI := fun a => if a = k then f else I a
def uJ (J : wJ) (k : Nat) (f : Nat → Int64) : wJ := fun a => if a = k then f else J a
theorem uI_s {I : wI} {k : Nat} {f : Nat → Int32} : uI I k f k = f := if_pos rfl
theorem uI_n {I : wI} {k j : Nat} {f : Nat → Int32} (h : j ≠ k) : uI I k f j = I j := if_neg h
theorem uJ_s {J : wJ} {k : Nat} {f : Nat → Int64} : uJ J k f k = f := if_pos rfl
theorem uJ_n {J : wJ} {k j : Nat} {f : Nat → Int64} (h : j ≠ k) : uJ J k f j = J j := if_neg h
theorem wd_setI {G : wG} {V : wV} {I : wI} {J : wJ} {k : Nat} {f : Nat → Int32} (hk : k < 81) (h8 : 8 ≤ k) (hd : wKd k ≠ 2) (hd3 : wKd k ≠ 3) : (Wd G V I J).set k (G.2.1 k, .inl (G.2.2.2 (wKd k), wLn k, .inl f)) = Wd G V (uI I k f) J := by
  refine wd_set hk ?_ (fun j hj => ?_)
  · rw [wEnt_arr G _ _ _ h8]
    unfold wArr
    rw [if_neg hd, if_neg hd3, uI_s]
  · rcases Nat.lt_or_ge j 8 with h | h
    · rcases (show j = 0 ∨ j = 1 ∨ j = 2 ∨ j = 3 ∨ j = 4 ∨ j = 5 ∨ j = 6 ∨ j = 7 by omega) with rfl | rfl | rfl | rfl | rfl | rfl | rfl | rfl <;> rfl
    · rw [wEnt_arr G _ _ _ h, wEnt_arr G _ _ _ h]
      unfold wArr
      rw [uI_n hj]
theorem wd_setJ {G : wG} {V : wV} {I : wI} {J : wJ} {k : Nat} {f : Nat → Int64} (hk : k < 81) (h8 : 8 ≤ k) (hd : wKd k = 2) : (Wd G V I J).set k (G.2.1 k, .inl (G.2.2.2 (wKd k), wLn k, .inr (.inl f))) = Wd G V I (uJ J k f) := by
  refine wd_set hk ?_ (fun j hj => ?_)
  · rw [wEnt_arr G _ _ _ h8]
    unfold wArr
    rw [if_pos hd, uJ_s]
  · rcases Nat.lt_or_ge j 8 with h | h
    · rcases (show j = 0 ∨ j = 1 ∨ j = 2 ∨ j = 3 ∨ j = 4 ∨ j = 5 ∨ j = 6 ∨ j = 7 by omega) with rfl | rfl | rfl | rfl | rfl | rfl | rfl | rfl <;> rfl
    · rw [wEnt_arr G _ _ _ h, wEnt_arr G _ _ _ h]
      unfold wArr
      rw [uJ_n hj]
theorem wd_atI (G : wG) (V : wV) (I : wI) (J : wJ) {k : Nat} (hk : k < 81) (h8 : 8 ≤ k) (hd : wKd k ≠ 2) (hd3 : wKd k ≠ 3) : (Wd G V I J)[k]? = some (G.2.1 k, .inl (G.2.2.2 (wKd k), wLn k, .inl (I k))) := by
  rw [wd_at G V I J hk, wEnt_arr G V I J h8]
  unfold wArr
  rw [if_neg hd, if_neg hd3]
theorem wd_atJ (G : wG) (V : wV) (I : wI) (J : wJ) {k : Nat} (hk : k < 81) (h8 : 8 ≤ k) (hd : wKd k = 2) : (Wd G V I J)[k]? = some (G.2.1 k, .inl (G.2.2.2 (wKd k), wLn k, .inr (.inl (J k)))) := by
  rw [wd_at G V I J hk, wEnt_arr G V I J h8]
  unfold wArr
  rw [if_pos hd]
theorem wd_atQ (G : wG) (V : wV) (I : wI) (J : wJ) {k : Nat} (hk : k < 81) (h8 : 8 ≤ k) (hd : wKd k = 3) : (Wd G V I J)[k]? = some (G.2.1 k, .inl (G.2.2.2 (wKd k), wLn k, .inr (.inr (.inr (.inr (fun j => if j < wLn k then some (G.2.1 (wBs k + j)) else none)))))) := by
  rw [wd_at G V I J hk, wEnt_arr G V I J h8]
  unfold wArr
  rw [if_neg (by rw [hd]; decide), if_pos hd]
/-- what the tables know of the array classes -/
def wTy (G : wG) : List (ClassId × FieldType) := [(G.2.2.2 0, .int), (G.2.2.2 1, .boolean), (G.2.2.2 2, .long), (G.2.2.2 3, .array .int)]

/-- the texts of what is thrown: places in the class's pool -/
def wStr : List (Nat × String) := [(60, "there are as many gates as there can be"), (234, "there is no such gate"), (242, "an argument is out of range"), (79, "a road joins two gates"), (85, "there are as many roads as there can be"), (238, "there is no such plate"), (240, "there is no such holde\x72"), (121, "there are as many spans as there can be"), (130, "there are as many readings as there can be"), (236, "there is no such reading"), (142, "the reading is struck"), (144, "now would be behind the last minute"), (177, "a place is from 0 on"), (184, "there is no such journey"), (228, "there is no such owne\x72")]
/-- fields of nest mates that the class reads and writes -/
def wNst : List (String × Nat × String × String × String × String) := [("Tollweave", 284, "Tollweave$Roads", "length", "[I", "Tollweave"), ("Tollweave", 290, "Tollweave$Roads", "owner", "[I", "Tollweave"), ("Tollweave", 171, "Tollweave$Roads", "distance", "[[I", "Tollweave"), ("Tollweave", 55, "Tollweave$Roads", "gateCount", "I", "Tollweave"), ("Tollweave", 82, "Tollweave$Roads", "roadCount", "I", "Tollweave"), ("Tollweave", 91, "Tollweave$Tariff", "rate", "[I", "Tollweave"), ("Tollweave", 95, "Tollweave$Tariff", "busyPercent", "[I", "Tollweave"), ("Tollweave", 99, "Tollweave$Tariff", "mostCents", "I", "Tollweave"), ("Tollweave", 105, "Tollweave$Plates", "kind", "[I", "Tollweave"), ("Tollweave", 108, "Tollweave$Plates", "holder", "[I", "Tollweave"), ("Tollweave", 118, "Tollweave$Plates", "spanCount", "I", "Tollweave"), ("Tollweave", 205, "Tollweave$Readings", "gateOf", "[I", "Tollweave"), ("Tollweave", 208, "Tollweave$Readings", "plateOf", "[I", "Tollweave"), ("Tollweave", 211, "Tollweave$Readings", "minuteOf", "[I", "Tollweave"), ("Tollweave", 138, "Tollweave$Readings", "isStruck", "[Z", "Tollweave"), ("Tollweave", 247, "Tollweave$Readings", "inOrder", "[I", "Tollweave"), ("Tollweave", 127, "Tollweave$Readings", "count", "I", "Tollweave"), ("Tollweave", 186, "Tollweave$Journeys", "firstMinute", "[I", "Tollweave"), ("Tollweave", 189, "Tollweave$Journeys", "lastMinute", "[I", "Tollweave"), ("Tollweave", 192, "Tollweave$Journeys", "counting", "[I", "Tollweave"), ("Tollweave", 257, "Tollweave$Journeys", "journeyOf", "[I", "Tollweave"), ("Tollweave", 299, "Tollweave$Journeys", "isDouble", "[Z", "Tollweave"), ("Tollweave", 183, "Tollweave$Journeys", "count", "I", "Tollweave"), ("Tollweave", 114, "Tollweave$Accounts", "wallet", "[J", "Tollweave"), ("Tollweave", 225, "Tollweave$Accounts", "own", "[J", "Tollweave"), ("Tollweave", 222, "Tollweave$Accounts", "billed", "[J", "Tollweave"), ("Tollweave", 160, "Tollweave$Accounts", "got", "[J", "Tollweave")]
def wDec : List MethodName := [⟨"java/lang/RuntimeException", "<init>", "(Ljava/lang/String;)V"⟩, ⟨"java/lang/Exception", "<init>", "(Ljava/lang/String;)V"⟩, ⟨"java/lang/Throwable", "<init>", "(Ljava/lang/String;)V"⟩]
def wExc : List String := ["java/lang/IllegalStateException", "java/lang/IllegalArgumentException", "java/lang/IndexOutOfBoundsException"]
/-- what is known beside the world: the two statics of a throw, the texts, the nest mates, the casts -/
def wX (G : wG) (U : State) (H : Heap) : Prop := vx_Zq Bundle.tN "UNASSIGNED_STACK" Bundle.steD (fun q => G.2.2.1 ≤ q) U H ∧ vx_Zq Bundle.tN "SUPPRESSED_SENTINEL" Bundle.listD (fun q => G.2.2.1 ≤ q) U H ∧ (∀ q ∈ wStr, ∃ a, vk_R RX6 q.1 q.2 a U) ∧ (∀ q ∈ wNst, va_Nw (.fieldLinkNest q.1 q.2.1 q.2.2.1 q.2.2.2.1 q.2.2.2.2.1 q.2.2.2.2.2) U) ∧ (∀ q ∈ wExc, va_Nw (.castable q q) U) ∧ (∀ a ∈ wExc, ∀ b ∈ wExc, a ≠ b → va_Nc a b U) ∧ (∀ y ∈ wDec, va_Nw (.declares y) U)
theorem wX.warm {G : wG} {s U : State} {H : Heap} (hW : s.WarmedH U.vm) (h : wX G s H) : wX G U H := by
  obtain ⟨h1, h2, h3, h4, h5, h6, h7⟩ := h
  refine ⟨vx_Zq.moved hW.alike h1, vx_Zq.moved hW.alike h2, fun q hq => ?_, fun q hq => (h4 q hq).warmF hW, fun q hq => (h5 q hq).warmC hW, fun a ha b hb hab => (h6 a ha b hb hab).moved hW.alike, fun y hy => (h7 y hy).warmD hW⟩
  obtain ⟨a, ha⟩ := h3 q hq
  exact ⟨a, ha.warm hW⟩
theorem wX.kept {G : wG} {s : State} {H H1 : Heap} (h : wX G s H) (hq : ∀ a : Nat, a < H.size → ¬ (fun q => G.2.2.1 ≤ q) a → H1[a]? = H[a]?) : wX G s H1 := by
  obtain ⟨h1, h2, h3, h4, h5, h6⟩ := h
  exact ⟨h1.kept hq, h2.kept hq, h3, h4, h5, h6⟩
def wD (G : wG) : Prop := ∀ (V : wV) (I : wI) (J : wJ), va_D (fun q => G.2.2.1 ≤ q) (Wd G V I J)
/-- the walk of one method: program, launch, environment, room, start, method, arguments, what lies below, its row, its code -/
abbrev wK : Type := Program × Launch × Env × Room × State × MethodId × Array Value × List Frame × Method × Code
abbrev kp (K : wK) : Program := K.1
abbrev kl (K : wK) : Launch := K.2.1
abbrev ke (K : wK) : Env := K.2.2.1
abbrev kR (K : wK) : Room := K.2.2.2.1
abbrev ks (K : wK) : State := K.2.2.2.2.1
abbrev km (K : wK) : MethodId := K.2.2.2.2.2.1
abbrev ka (K : wK) : Array Value := K.2.2.2.2.2.2.1
abbrev kb (K : wK) : List Frame := K.2.2.2.2.2.2.2.1
abbrev kt (K : wK) : Method := K.2.2.2.2.2.2.2.2.1
abbrev kc (K : wK) : Code := K.2.2.2.2.2.2.2.2.2
abbrev wA (G : wG) : Nat → Prop := fun q => G.2.2.1 ≤ q
/-- the machine, at pc with locals lv and stack st over the world (V, I, J), comes to a state with Q -/
def WW (K : wK) (G : wG) (cells slots : Nat) (Q : State → Prop) (V : wV) (I : wI) (J : wJ) (pc : Nat) (lv : List (Nat × Value)) (st : List Value) : Prop :=
  ∀ (H : Heap) (locs : List Loc) (ls : Array Slot), va_P G.1 vwCl (Wd G V I J) H → va_S (wA G) (ks K).heap H locs → lv_has ls (kc K).maxLocals lv → W (kp K) (kl K) (ke K) (kR K) (ks K) (km K) (ka K) (kb K) (kt K) (kc K) H locs cells slots Q (F0 (km K) pc ls st)
/-- .. with a throw of class E over it -/
def XW (K : wK) (G : wG) (cells slots : Nat) (Q : State → Prop) (V : wV) (I : wI) (J : wJ) (pc : Nat) (lv : List (Nat × Value)) (E : String) : Prop :=
  ∀ (H : Heap) (locs : List Loc) (ls : Array Slot) (q : Addr) (ce : Cell) (rest : List Value), va_P G.1 vwCl (Wd G V I J) H → va_S (wA G) (ks K).heap H locs → lv_has ls (kc K).maxLocals lv → H[q]? = some ce → ce.vm = .none → (ks K).vm.findClass E = some ce.cls → vx_W (kp K) (kl K) (ke K) (kR K) (ks K) (km K) (ka K) (kb K) (kt K) (kc K) H locs cells slots Q (F0 (km K) pc ls rest) q
/-- what holds of a walk from its start on -/
def Cx (K : wK) (G : wG) (own : String) (cc : ByteArray) (nL : Nat) : Prop :=
  CallFix (kp K) (km K) (kc K) cc nL (ks K) (ka K) TT own ∧ va_K G.1 vwCl (wTy G) (ks K) ∧ wD G ∧ G.2.2.1 ≤ (ks K).heap.size ∧ (kt K).locks = false ∧ wX G (ks K) (ks K).heap ∧ (kl K).stackTraces = false
abbrev wPo : Type := Option Value → wV → wI → wJ → Prop
abbrev wPx : Type := String → wV → wI → wJ → Prop
/-- no throw -/
def noX : wPx := fun _ _ _ _ => False
def cP (G : wG) (av : List Value) (V : wV) (I : wI) (J : wJ) : Array Value → State → Prop := fun a U => a = av.toArray ∧ va_P G.1 vwCl (Wd G V I J) U.heap ∧ va_K G.1 vwCl (wTy G) U ∧ G.2.2.1 ≤ U.heap.size ∧ wX G U U.heap
def cQ (G : wG) (post : wPo) : Array Value → State → Outcome → State → Prop := fun _ st o t => (∃ (r : Option Value) (V : wV) (I : wI) (J : wJ), o = .returned r ∧ post r V I J ∧ va_P G.1 vwCl (Wd G V I J) t.heap) ∧ va_F (wA G) st t
def cX (G : wG) (xp : wPx) : String → State → State → Prop := fun E st t => (∃ (V : wV) (I : wI) (J : wJ), xp E V I J ∧ va_P G.1 vwCl (Wd G V I J) t.heap) ∧ va_F (wA G) st t
/-- a method's contract over the one world: from (V, I, J) with the arguments av it returns with post, or throws with xp -/
def Ctr (l : Launch) (y : MethodName) (bytes : ByteArray) (maxL : Nat) (ret : Option FieldType) (rm : Room) (G : wG) (av : List Value) (V : wV) (I : wI) (J : wJ) (post : wPo) (xp : wPx) : Prop :=
  vx_Met l y (Cond.code y bytes maxL ret :: TT) rm (cP G av V I J) (cQ G post) (cX G xp) rm.cells rm.slots (wA G)
abbrev QM (K : wK) (G : wG) (rm : Room) (post : wPo) (xp : wPx) : State → Prop := vx_MQ (kb K) (cQ G post) (cX G xp) (ka K) (ks K) rm.cells rm.slots (wA G)
theorem cP_blind {G : wG} {av : List Value} {V : wV} {I : wI} {J : wJ} : FrameBlind (cP G av V I J) := fun a U g mk q => ⟨q.1, q.2.1, va_K.moved (u := U) (U := U.calling g mk a) (Vm.Alike.refl U.vm) q.2.2.1, q.2.2.2.1, wX.warm (s := U) (U := U.calling g mk a) (State.WarmedH.refl U) q.2.2.2.2⟩
theorem ctr_of {l : Launch} {y : MethodName} {bytes : ByteArray} {maxL : Nat} {ret : Option FieldType} {rm : Room} {G : wG} {av : List Value} {V : wV} {I : wI} {J : wJ} {post : wPo} {xp : wPx} (hl : l.stackTraces = false) (hG : wD G) (hy : plainName y.cls = true) (hn : (lg_sl av).length ≤ maxL) (lv : List (Nat × Value)) (hlv : lv_args 0 av = lv)
    (body : ∀ K : wK, Cx K G y.cls bytes maxL → kl K = l → kR K = rm → (kt K).sig.returnType = ret → (∀ x ∈ (kc K).exceptionTable.toList, False) → WW K G 0 0 (QM K G rm post xp) V I J 0 lv []) : Ctr l y bytes maxL ret rm G av V I J post xp := by
  refine vx_ofW (cc := bytes) (maxL := maxL) (ret := ret) hy rfl ?_
  intro p e s m args below meth c s₁ B hml ht hv
  obtain ⟨rfl, hP, hK, hN, hX⟩ := hv
  have hts := atoms_spec (ws := Cond.code y bytes maxL ret :: TT) B.pre
  have h := body (p, l, e, rm, s, m, av.toArray, below, meth, c) ⟨⟨B.exec, B.bytes, hml, findClass_of_methodNamed B.named, fun w hw => hts w (List.mem_cons_of_mem _ hw)⟩, hK, hG, hN, B.notSynchronized, hX, hl⟩ rfl rfl B.returns ht
  rw [lg_entry_eq]
  refine h s.heap [] _ hP va_S.rf ?_
  subst hlv
  show lv_has _ c.maxLocals _
  rw [hml]
  exact lv_entry av hn
end
section
section GR
variable {K : wK} {G : wG} {cells slots : Nat} {Q : State → Prop} {V : wV} {I : wI} {J : wJ} {pc : Nat} {lv lv' : List (Nat × Value)} {st : List Value} {own : String} {cc : ByteArray} {nL : Nat}
theorem g_iconst (C : Cx K G own cc nL) {n : Int} {v : Int32} (hd : decode cc pc = .ok (.iconst n, 1)) (hv : Int32.ofInt n = v) (k : WW K G cells slots Q V I J (pc + 1) lv (.int v :: st)) : WW K G cells slots Q V I J (pc) lv (st) := fun H locs ls hP hS hl => lv_iconst C.1.1 C.1.2.1 hd hv (k H locs ls hP hS hl)
theorem g_bipush (C : Cx K G own cc nL) {n : Int} {v : Int32} (hd : decode cc pc = .ok (.bipush n, 2)) (hv : (Int8.ofInt n).toInt32 = v) (k : WW K G cells slots Q V I J (pc + 2) lv (.int v :: st)) : WW K G cells slots Q V I J (pc) lv (st) := fun H locs ls hP hS hl => lv_bipush C.1.1 C.1.2.1 hd hv (k H locs ls hP hS hl)
theorem g_sipush (C : Cx K G own cc nL) {n : Int} {v : Int32} (hd : decode cc pc = .ok (.sipush n, 3)) (hv : (Int16.ofInt n).toInt32 = v) (k : WW K G cells slots Q V I J (pc + 3) lv (.int v :: st)) : WW K G cells slots Q V I J (pc) lv (st) := fun H locs ls hP hS hl => lv_sipush C.1.1 C.1.2.1 hd hv (k H locs ls hP hS hl)
theorem g_lconst (C : Cx K G own cc nL) {n : Fin 2} {v : Int64} (hd : decode cc pc = .ok (.lconst n, 1)) (hv : Int64.ofNat (n : Nat) = v) (k : WW K G cells slots Q V I J (pc + 1) lv (.long v :: st)) : WW K G cells slots Q V I J (pc) lv (st) := fun H locs ls hP hS hl => lv_lconst C.1.1 C.1.2.1 hd hv (k H locs ls hP hS hl)
theorem g_iload_n (C : Cx K G own cc nL) {kk : Fin 4} {i : Nat} {x : Int32} (hd : decode cc pc = .ok (.iload_n kk, 1)) (hi : (kk : Nat) = i) (p : Nat) (hp : lv[p]? = some (i, .int x)) (k : WW K G cells slots Q V I J (pc + 1) lv (.int x :: st)) : WW K G cells slots Q V I J (pc) lv (st) := fun H locs ls hP hS hl => lv_iload_n C.1.1 C.1.2.1 hd hi (lv_at hl p hp) (k H locs ls hP hS hl)
theorem g_iload (C : Cx K G own cc nL) {i : Nat} {x : Int32} (hd : decode cc pc = .ok (.iload i, 2)) (p : Nat) (hp : lv[p]? = some (i, .int x)) (k : WW K G cells slots Q V I J (pc + 2) lv (.int x :: st)) : WW K G cells slots Q V I J (pc) lv (st) := fun H locs ls hP hS hl => lv_iload C.1.1 C.1.2.1 hd (lv_at hl p hp) (k H locs ls hP hS hl)
theorem g_istore_n (C : Cx K G own cc nL) {kk : Fin 4} {i : Nat} {x : Int32} (lv' : List (Nat × Value)) (hd : decode cc pc = .ok (.istore_n kk, 1)) (hi : (kk : Nat) = i) (hn : i < nL) (hv : (i, Value.int x) :: lv.filter (fun q => !(q.1 == i) && !(q.1 + 1 == i && q.2.category == 2)) = lv') (k : WW K G cells slots Q V I J (pc + 1) lv' (st)) : WW K G cells slots Q V I J (pc) lv (.int x :: st) := fun H locs ls hP hS hl => lv_istore_n C.1.1 C.1.2.1 hd hi hl (by rw [show (kc K).maxLocals = nL from C.1.2.2.1]; exact hn) hv (fun ls2 hl2 => k H locs ls2 hP hS hl2)
theorem g_istore (C : Cx K G own cc nL) {i : Nat} {x : Int32} (lv' : List (Nat × Value)) (hd : decode cc pc = .ok (.istore i, 2)) (hn : i < nL) (hv : (i, Value.int x) :: lv.filter (fun q => !(q.1 == i) && !(q.1 + 1 == i && q.2.category == 2)) = lv') (k : WW K G cells slots Q V I J (pc + 2) lv' (st)) : WW K G cells slots Q V I J (pc) lv (.int x :: st) := fun H locs ls hP hS hl => lv_istore C.1.1 C.1.2.1 hd hl (by rw [show (kc K).maxLocals = nL from C.1.2.2.1]; exact hn) hv (fun ls2 hl2 => k H locs ls2 hP hS hl2)
theorem g_lload_n (C : Cx K G own cc nL) {kk : Fin 4} {i : Nat} {x : Int64} (hd : decode cc pc = .ok (.lload_n kk, 1)) (hi : (kk : Nat) = i) (p : Nat) (hp : lv[p]? = some (i, .long x)) (k : WW K G cells slots Q V I J (pc + 1) lv (.long x :: st)) : WW K G cells slots Q V I J (pc) lv (st) := fun H locs ls hP hS hl => lv_lload_n C.1.1 C.1.2.1 hd hi (lv_at hl p hp) (k H locs ls hP hS hl)
theorem g_lload (C : Cx K G own cc nL) {i : Nat} {x : Int64} (hd : decode cc pc = .ok (.lload i, 2)) (p : Nat) (hp : lv[p]? = some (i, .long x)) (k : WW K G cells slots Q V I J (pc + 2) lv (.long x :: st)) : WW K G cells slots Q V I J (pc) lv (st) := fun H locs ls hP hS hl => lv_lload C.1.1 C.1.2.1 hd (lv_at hl p hp) (k H locs ls hP hS hl)
theorem g_lstore_n (C : Cx K G own cc nL) {kk : Fin 4} {i : Nat} {x : Int64} (lv' : List (Nat × Value)) (hd : decode cc pc = .ok (.lstore_n kk, 1)) (hi : (kk : Nat) = i) (hn : i + 1 < nL) (hv : (i, Value.long x) :: lv.filter (fun q => !(q.1 == i) && (!(q.1 == i + 1) && !(q.1 + 1 == i && q.2.category == 2))) = lv') (k : WW K G cells slots Q V I J (pc + 1) lv' (st)) : WW K G cells slots Q V I J (pc) lv (.long x :: st) := fun H locs ls hP hS hl => lv_lstore_n C.1.1 C.1.2.1 hd hi hl (by rw [show (kc K).maxLocals = nL from C.1.2.2.1]; exact hn) hv (fun ls2 hl2 => k H locs ls2 hP hS hl2)
theorem g_lstore (C : Cx K G own cc nL) {i : Nat} {x : Int64} (lv' : List (Nat × Value)) (hd : decode cc pc = .ok (.lstore i, 2)) (hn : i + 1 < nL) (hv : (i, Value.long x) :: lv.filter (fun q => !(q.1 == i) && (!(q.1 == i + 1) && !(q.1 + 1 == i && q.2.category == 2))) = lv') (k : WW K G cells slots Q V I J (pc + 2) lv' (st)) : WW K G cells slots Q V I J (pc) lv (.long x :: st) := fun H locs ls hP hS hl => lv_lstore C.1.1 C.1.2.1 hd hl (by rw [show (kc K).maxLocals = nL from C.1.2.2.1]; exact hn) hv (fun ls2 hl2 => k H locs ls2 hP hS hl2)
theorem g_aload_n (C : Cx K G own cc nL) {kk : Fin 4} {i : Nat} {x : Nat} (hd : decode cc pc = .ok (.aload_n kk, 1)) (hi : (kk : Nat) = i) (p : Nat) (hp : lv[p]? = some (i, .ref x)) (k : WW K G cells slots Q V I J (pc + 1) lv (.ref x :: st)) : WW K G cells slots Q V I J (pc) lv (st) := fun H locs ls hP hS hl => lv_aload_n C.1.1 C.1.2.1 hd hi (lv_at hl p hp) (k H locs ls hP hS hl)
theorem g_aload (C : Cx K G own cc nL) {i : Nat} {x : Nat} (hd : decode cc pc = .ok (.aload i, 2)) (p : Nat) (hp : lv[p]? = some (i, .ref x)) (k : WW K G cells slots Q V I J (pc + 2) lv (.ref x :: st)) : WW K G cells slots Q V I J (pc) lv (st) := fun H locs ls hP hS hl => lv_aload C.1.1 C.1.2.1 hd (lv_at hl p hp) (k H locs ls hP hS hl)
theorem g_astore_n (C : Cx K G own cc nL) {kk : Fin 4} {i : Nat} {x : Nat} (lv' : List (Nat × Value)) (hd : decode cc pc = .ok (.astore_n kk, 1)) (hi : (kk : Nat) = i) (hn : i < nL) (hv : (i, Value.ref x) :: lv.filter (fun q => !(q.1 == i) && !(q.1 + 1 == i && q.2.category == 2)) = lv') (k : WW K G cells slots Q V I J (pc + 1) lv' (st)) : WW K G cells slots Q V I J (pc) lv (.ref x :: st) := fun H locs ls hP hS hl => lv_astore_n C.1.1 C.1.2.1 hd hi hl (by rw [show (kc K).maxLocals = nL from C.1.2.2.1]; exact hn) hv (fun ls2 hl2 => k H locs ls2 hP hS hl2)
theorem g_astore (C : Cx K G own cc nL) {i : Nat} {x : Nat} (lv' : List (Nat × Value)) (hd : decode cc pc = .ok (.astore i, 2)) (hn : i < nL) (hv : (i, Value.ref x) :: lv.filter (fun q => !(q.1 == i) && !(q.1 + 1 == i && q.2.category == 2)) = lv') (k : WW K G cells slots Q V I J (pc + 2) lv' (st)) : WW K G cells slots Q V I J (pc) lv (.ref x :: st) := fun H locs ls hP hS hl => lv_astore C.1.1 C.1.2.1 hd hl (by rw [show (kc K).maxLocals = nL from C.1.2.2.1]; exact hn) hv (fun ls2 hl2 => k H locs ls2 hP hS hl2)
theorem g_iinc (C : Cx K G own cc nL) {i : Nat} {n : Int} {x v : Int32} (lv' : List (Nat × Value)) (hd : decode cc pc = .ok (.iinc i n, 3)) (p : Nat) (hp : lv[p]? = some (i, .int x)) (hx : x + Int32.ofInt n = v) (hn : i < nL) (hv : (i, Value.int v) :: lv.filter (fun q => !(q.1 == i) && !(q.1 + 1 == i && q.2.category == 2)) = lv') (k : WW K G cells slots Q V I J (pc + 3) lv' (st)) : WW K G cells slots Q V I J (pc) lv (st) := fun H locs ls hP hS hl => lv_iinc C.1.1 C.1.2.1 hd hl hp hx (by rw [show (kc K).maxLocals = nL from C.1.2.2.1]; exact hn) hv (fun ls2 hl2 => k H locs ls2 hP hS hl2)
theorem g_iadd (C : Cx K G own cc nL) {x y : Int32} (hd : decode cc pc = .ok (.iadd, 1))  (k : WW K G cells slots Q V I J (pc + 1) lv (.int (x + y) :: st)) : WW K G cells slots Q V I J (pc) lv (.int y :: .int x :: st) := fun H locs ls hP hS hl => lv_iadd C.1.1 C.1.2.1 hd  (k H locs ls hP hS hl)
theorem g_isub (C : Cx K G own cc nL) {x y : Int32} (hd : decode cc pc = .ok (.isub, 1))  (k : WW K G cells slots Q V I J (pc + 1) lv (.int (x - y) :: st)) : WW K G cells slots Q V I J (pc) lv (.int y :: .int x :: st) := fun H locs ls hP hS hl => lv_isub C.1.1 C.1.2.1 hd  (k H locs ls hP hS hl)
theorem g_imul (C : Cx K G own cc nL) {x y : Int32} (hd : decode cc pc = .ok (.imul, 1))  (k : WW K G cells slots Q V I J (pc + 1) lv (.int (x * y) :: st)) : WW K G cells slots Q V I J (pc) lv (.int y :: .int x :: st) := fun H locs ls hP hS hl => lv_imul C.1.1 C.1.2.1 hd  (k H locs ls hP hS hl)
theorem g_iand (C : Cx K G own cc nL) {x y : Int32} (hd : decode cc pc = .ok (.iand, 1))  (k : WW K G cells slots Q V I J (pc + 1) lv (.int (x &&& y) :: st)) : WW K G cells slots Q V I J (pc) lv (.int y :: .int x :: st) := fun H locs ls hP hS hl => lv_iand C.1.1 C.1.2.1 hd  (k H locs ls hP hS hl)
theorem g_ladd (C : Cx K G own cc nL) {x y : Int64} (hd : decode cc pc = .ok (.ladd, 1))  (k : WW K G cells slots Q V I J (pc + 1) lv (.long (x + y) :: st)) : WW K G cells slots Q V I J (pc) lv (.long y :: .long x :: st) := fun H locs ls hP hS hl => lv_ladd C.1.1 C.1.2.1 hd  (k H locs ls hP hS hl)
theorem g_lsub (C : Cx K G own cc nL) {x y : Int64} (hd : decode cc pc = .ok (.lsub, 1))  (k : WW K G cells slots Q V I J (pc + 1) lv (.long (x - y) :: st)) : WW K G cells slots Q V I J (pc) lv (.long y :: .long x :: st) := fun H locs ls hP hS hl => lv_lsub C.1.1 C.1.2.1 hd  (k H locs ls hP hS hl)
theorem g_lmul (C : Cx K G own cc nL) {x y : Int64} (hd : decode cc pc = .ok (.lmul, 1))  (k : WW K G cells slots Q V I J (pc + 1) lv (.long (x * y) :: st)) : WW K G cells slots Q V I J (pc) lv (.long y :: .long x :: st) := fun H locs ls hP hS hl => lv_lmul C.1.1 C.1.2.1 hd  (k H locs ls hP hS hl)
theorem g_idiv (C : Cx K G own cc nL) {x y : Int32} (hd : decode cc pc = .ok (.idiv, 1)) (hne : ¬ y = 0) (k : WW K G cells slots Q V I J (pc + 1) lv (.int (x / y) :: st)) : WW K G cells slots Q V I J (pc) lv (.int y :: .int x :: st) := fun H locs ls hP hS hl => lv_idiv C.1.1 C.1.2.1 hd hne (k H locs ls hP hS hl)
theorem g_irem (C : Cx K G own cc nL) {x y : Int32} (hd : decode cc pc = .ok (.irem, 1)) (hne : ¬ y = 0) (k : WW K G cells slots Q V I J (pc + 1) lv (.int (x - x / y * y) :: st)) : WW K G cells slots Q V I J (pc) lv (.int y :: .int x :: st) := fun H locs ls hP hS hl => lv_irem C.1.1 C.1.2.1 hd hne (k H locs ls hP hS hl)
theorem g_ldiv (C : Cx K G own cc nL) {x y : Int64} (hd : decode cc pc = .ok (.ldiv, 1)) (hne : ¬ y = 0) (k : WW K G cells slots Q V I J (pc + 1) lv (.long (x / y) :: st)) : WW K G cells slots Q V I J (pc) lv (.long y :: .long x :: st) := fun H locs ls hP hS hl => lv_ldiv C.1.1 C.1.2.1 hd hne (k H locs ls hP hS hl)
theorem g_i2l (C : Cx K G own cc nL) {x : Int32} (hd : decode cc pc = .ok (.i2l, 1))  (k : WW K G cells slots Q V I J (pc + 1) lv (.long x.toInt64 :: st)) : WW K G cells slots Q V I J (pc) lv (.int x :: st) := fun H locs ls hP hS hl => lv_i2l C.1.1 C.1.2.1 hd rfl (k H locs ls hP hS hl)
theorem g_l2i (C : Cx K G own cc nL) {x : Int64} (hd : decode cc pc = .ok (.l2i, 1))  (k : WW K G cells slots Q V I J (pc + 1) lv (.int x.toInt32 :: st)) : WW K G cells slots Q V I J (pc) lv (.long x :: st) := fun H locs ls hP hS hl => lv_l2i C.1.1 C.1.2.1 hd rfl (k H locs ls hP hS hl)
theorem g_lcmp (C : Cx K G own cc nL) {x y : Int64} (hd : decode cc pc = .ok (.lcmp, 1))  (k : WW K G cells slots Q V I J (pc + 1) lv (.int (lg_cmp x y) :: st)) : WW K G cells slots Q V I J (pc) lv (.long y :: .long x :: st) := fun H locs ls hP hS hl => W.lcmp C.1.1 C.1.2.1 hd  (k H locs ls hP hS hl)
theorem g_dup (C : Cx K G own cc nL) {va : Value} (hd : decode cc pc = .ok (.dup, 1)) (hva : va.category = 1) (k : WW K G cells slots Q V I J (pc + 1) lv (va :: va :: st)) : WW K G cells slots Q V I J (pc) lv (va :: st) := fun H locs ls hP hS hl => lv_dup C.1.1 C.1.2.1 hd hva (k H locs ls hP hS hl)
theorem g_dup2 (C : Cx K G own cc nL) {va vb : Value} (hd : decode cc pc = .ok (.dup2, 1)) (hva : va.category = 1) (hvb : vb.category = 1) (k : WW K G cells slots Q V I J (pc + 1) lv (va :: vb :: va :: vb :: st)) : WW K G cells slots Q V I J (pc) lv (va :: vb :: st) := fun H locs ls hP hS hl => lv_dup2_11 C.1.1 C.1.2.1 hd hva hvb (k H locs ls hP hS hl)
theorem g_goto (C : Cx K G own cc nL) {off : Int} (tgt : Nat) (hd : decode cc pc = .ok (.goto off, 3)) (ht : (pc : Int) + off = (tgt : Int)) (k : WW K G cells slots Q V I J (tgt) lv (st)) : WW K G cells slots Q V I J (pc) lv (st) := fun H locs ls hP hS hl => lv_goto C.1.1 C.1.2.1 hd ht (k H locs ls hP hS hl)
theorem g_if_eq (C : Cx K G own cc nL) {x : Int32} {off : Int} (tgt : Nat) (hd : decode cc pc = .ok (.ifCond .eq off, 3)) (ht : (pc : Int) + off = (tgt : Int)) (k1 : x = 0 → WW K G cells slots Q V I J (tgt) lv (st)) (k2 : ¬ x = 0 → WW K G cells slots Q V I J (pc + 3) lv (st)) : WW K G cells slots Q V I J (pc) lv (.int x :: st) := fun H locs ls hP hS hl => lv_if_eq C.1.1 C.1.2.1 hd ht (fun h => k1 h H locs ls hP hS hl) (fun h => k2 h H locs ls hP hS hl)
theorem g_icmp_eq (C : Cx K G own cc nL) {x y : Int32} {off : Int} (tgt : Nat) (hd : decode cc pc = .ok (.if_icmp .eq off, 3)) (ht : (pc : Int) + off = (tgt : Int)) (k1 : x = y → WW K G cells slots Q V I J (tgt) lv (st)) (k2 : ¬ x = y → WW K G cells slots Q V I J (pc + 3) lv (st)) : WW K G cells slots Q V I J (pc) lv (.int y :: .int x :: st) := fun H locs ls hP hS hl => lv_icmp_eq C.1.1 C.1.2.1 hd ht (fun h => k1 h H locs ls hP hS hl) (fun h => k2 h H locs ls hP hS hl)
theorem g_if_ne (C : Cx K G own cc nL) {x : Int32} {off : Int} (tgt : Nat) (hd : decode cc pc = .ok (.ifCond .ne off, 3)) (ht : (pc : Int) + off = (tgt : Int)) (k1 : ¬ x = 0 → WW K G cells slots Q V I J (tgt) lv (st)) (k2 : x = 0 → WW K G cells slots Q V I J (pc + 3) lv (st)) : WW K G cells slots Q V I J (pc) lv (.int x :: st) := fun H locs ls hP hS hl => lv_if_ne C.1.1 C.1.2.1 hd ht (fun h => k1 h H locs ls hP hS hl) (fun h => k2 h H locs ls hP hS hl)
theorem g_icmp_ne (C : Cx K G own cc nL) {x y : Int32} {off : Int} (tgt : Nat) (hd : decode cc pc = .ok (.if_icmp .ne off, 3)) (ht : (pc : Int) + off = (tgt : Int)) (k1 : ¬ x = y → WW K G cells slots Q V I J (tgt) lv (st)) (k2 : x = y → WW K G cells slots Q V I J (pc + 3) lv (st)) : WW K G cells slots Q V I J (pc) lv (.int y :: .int x :: st) := fun H locs ls hP hS hl => lv_icmp_ne C.1.1 C.1.2.1 hd ht (fun h => k1 h H locs ls hP hS hl) (fun h => k2 h H locs ls hP hS hl)
theorem g_if_lt (C : Cx K G own cc nL) {x : Int32} {off : Int} (tgt : Nat) (hd : decode cc pc = .ok (.ifCond .lt off, 3)) (ht : (pc : Int) + off = (tgt : Int)) (k1 : x < 0 → WW K G cells slots Q V I J (tgt) lv (st)) (k2 : ¬ x < 0 → WW K G cells slots Q V I J (pc + 3) lv (st)) : WW K G cells slots Q V I J (pc) lv (.int x :: st) := fun H locs ls hP hS hl => lv_if_lt C.1.1 C.1.2.1 hd ht (fun h => k1 h H locs ls hP hS hl) (fun h => k2 h H locs ls hP hS hl)
theorem g_icmp_lt (C : Cx K G own cc nL) {x y : Int32} {off : Int} (tgt : Nat) (hd : decode cc pc = .ok (.if_icmp .lt off, 3)) (ht : (pc : Int) + off = (tgt : Int)) (k1 : x < y → WW K G cells slots Q V I J (tgt) lv (st)) (k2 : ¬ x < y → WW K G cells slots Q V I J (pc + 3) lv (st)) : WW K G cells slots Q V I J (pc) lv (.int y :: .int x :: st) := fun H locs ls hP hS hl => lv_icmp_lt C.1.1 C.1.2.1 hd ht (fun h => k1 h H locs ls hP hS hl) (fun h => k2 h H locs ls hP hS hl)
theorem g_if_ge (C : Cx K G own cc nL) {x : Int32} {off : Int} (tgt : Nat) (hd : decode cc pc = .ok (.ifCond .ge off, 3)) (ht : (pc : Int) + off = (tgt : Int)) (k1 : 0 ≤ x → WW K G cells slots Q V I J (tgt) lv (st)) (k2 : ¬ 0 ≤ x → WW K G cells slots Q V I J (pc + 3) lv (st)) : WW K G cells slots Q V I J (pc) lv (.int x :: st) := fun H locs ls hP hS hl => lv_if_ge C.1.1 C.1.2.1 hd ht (fun h => k1 h H locs ls hP hS hl) (fun h => k2 h H locs ls hP hS hl)
theorem g_icmp_ge (C : Cx K G own cc nL) {x y : Int32} {off : Int} (tgt : Nat) (hd : decode cc pc = .ok (.if_icmp .ge off, 3)) (ht : (pc : Int) + off = (tgt : Int)) (k1 : y ≤ x → WW K G cells slots Q V I J (tgt) lv (st)) (k2 : ¬ y ≤ x → WW K G cells slots Q V I J (pc + 3) lv (st)) : WW K G cells slots Q V I J (pc) lv (.int y :: .int x :: st) := fun H locs ls hP hS hl => lv_icmp_ge C.1.1 C.1.2.1 hd ht (fun h => k1 h H locs ls hP hS hl) (fun h => k2 h H locs ls hP hS hl)
theorem g_if_gt (C : Cx K G own cc nL) {x : Int32} {off : Int} (tgt : Nat) (hd : decode cc pc = .ok (.ifCond .gt off, 3)) (ht : (pc : Int) + off = (tgt : Int)) (k1 : 0 < x → WW K G cells slots Q V I J (tgt) lv (st)) (k2 : ¬ 0 < x → WW K G cells slots Q V I J (pc + 3) lv (st)) : WW K G cells slots Q V I J (pc) lv (.int x :: st) := fun H locs ls hP hS hl => lv_if_gt C.1.1 C.1.2.1 hd ht (fun h => k1 h H locs ls hP hS hl) (fun h => k2 h H locs ls hP hS hl)
theorem g_icmp_gt (C : Cx K G own cc nL) {x y : Int32} {off : Int} (tgt : Nat) (hd : decode cc pc = .ok (.if_icmp .gt off, 3)) (ht : (pc : Int) + off = (tgt : Int)) (k1 : y < x → WW K G cells slots Q V I J (tgt) lv (st)) (k2 : ¬ y < x → WW K G cells slots Q V I J (pc + 3) lv (st)) : WW K G cells slots Q V I J (pc) lv (.int y :: .int x :: st) := fun H locs ls hP hS hl => lv_icmp_gt C.1.1 C.1.2.1 hd ht (fun h => k1 h H locs ls hP hS hl) (fun h => k2 h H locs ls hP hS hl)
theorem g_if_le (C : Cx K G own cc nL) {x : Int32} {off : Int} (tgt : Nat) (hd : decode cc pc = .ok (.ifCond .le off, 3)) (ht : (pc : Int) + off = (tgt : Int)) (k1 : x ≤ 0 → WW K G cells slots Q V I J (tgt) lv (st)) (k2 : ¬ x ≤ 0 → WW K G cells slots Q V I J (pc + 3) lv (st)) : WW K G cells slots Q V I J (pc) lv (.int x :: st) := fun H locs ls hP hS hl => lv_if_le C.1.1 C.1.2.1 hd ht (fun h => k1 h H locs ls hP hS hl) (fun h => k2 h H locs ls hP hS hl)
theorem g_icmp_le (C : Cx K G own cc nL) {x y : Int32} {off : Int} (tgt : Nat) (hd : decode cc pc = .ok (.if_icmp .le off, 3)) (ht : (pc : Int) + off = (tgt : Int)) (k1 : x ≤ y → WW K G cells slots Q V I J (tgt) lv (st)) (k2 : ¬ x ≤ y → WW K G cells slots Q V I J (pc + 3) lv (st)) : WW K G cells slots Q V I J (pc) lv (.int y :: .int x :: st) := fun H locs ls hP hS hl => lv_icmp_le C.1.1 C.1.2.1 hd ht (fun h => k1 h H locs ls hP hS hl) (fun h => k2 h H locs ls hP hS hl)
theorem g_ldc (C : Cx K G own cc nL) {index : Nat} {v : Int32} (hw : Cond.constant own index v ∈ TT) (hd : decode cc pc = .ok (.ldc index, 2)) (k : WW K G cells slots Q V I J (pc + 2) lv (.int v :: st)) : WW K G cells slots Q V I J (pc) lv (st) := fun H locs ls hP hS hl => lv_ldc C.1.1 C.1.2.1 C.1.2.2.2.1 (C.1.2.2.2.2 _ hw) hd (k H locs ls hP hS hl)
theorem g_ldc2 (C : Cx K G own cc nL) {index : Nat} {v : Int64} (hw : Cond.constantLong own index v ∈ TT) (hd : decode cc pc = .ok (.ldc2_w index, 3)) (k : WW K G cells slots Q V I J (pc + 3) lv (.long v :: st)) : WW K G cells slots Q V I J (pc) lv (st) := fun H locs ls hP hS hl => lv_ldc2 C.1.1 C.1.2.1 C.1.2.2.2.1 (C.1.2.2.2.2 _ hw) hd (k H locs ls hP hS hl)
/-- a field's value: object o, its class's place ci, its field k -/
theorem g_get (C : Cx K G own cc nL) (o : Nat) (ho : o < 81) {ci N : Nat} {Cn : String} {T : u_T} {fs : List Value} (he : wEnt G V I J o = .inr (ci, fs)) (hc : vwCl[ci]? = some (Cn, T, N)) (hin : ∀ w ∈ u_ws Cn T N, w ∈ TT) (f : Nat) (hf : f < N) {index : Nat} {v : Value} (hw : Cond.fieldLink own index (T f).1 (T f).2.1 (T f).2.2.1 ∈ TT) (hv : fs[f]? = some v) (hd : decode cc pc = .ok (.getfield index, 3)) (k : WW K G cells slots Q V I J (pc + 3) lv (v :: st)) : WW K G cells slots Q V I J (pc) lv (.ref (G.2.1 o) :: st) := fun H locs ls hP hS hl =>
  va_get C.1.1 C.1.2.1 C.1.2.2.2.2 hin C.1.2.2.2.1 C.2.1 hP o ((wd_at G V I J ho).trans (congrArg (fun e => some (G.2.1 o, e)) he)) hc f hf (C.1.2.2.2.2 _ hw) (fun _ h => h) hv hd (k H locs ls hP hS hl)
theorem g_getN (C : Cx K G own cc nL) (o : Nat) (ho : o < 81) {ci N : Nat} {Cn : String} {T : u_T} {fs : List Value} (he : wEnt G V I J o = .inr (ci, fs)) (hc : vwCl[ci]? = some (Cn, T, N)) (hin : ∀ w ∈ u_ws Cn T N, w ∈ TT) (f : Nat) (hf : f < N) {index : Nat} {host : String} {v : Value} (hw : (own, index, (T f).1, (T f).2.1, (T f).2.2.1, host) ∈ wNst) (hv : fs[f]? = some v) (hd : decode cc pc = .ok (.getfield index, 3)) (k : WW K G cells slots Q V I J (pc + 3) lv (v :: st)) : WW K G cells slots Q V I J (pc) lv (.ref (G.2.1 o) :: st) := fun H locs ls hP hS hl =>
  va_getN C.1.1 C.1.2.1 C.1.2.2.2.2 hin C.1.2.2.2.1 C.2.1 hP o ((wd_at G V I J ho).trans (congrArg (fun e => some (G.2.1 o, e)) he)) hc f hf (va_Nw.use rfl (C.2.2.2.2.2.1.2.2.2.1 _ hw)) (fun _ h => h) hv hd (k H locs ls hP hS hl)
/-- an int field is written: object o, field f, its number vi -/
theorem g_put (C : Cx K G own cc nL) (o : Nat) (ho : o < 8) (vi : Nat) {ci N : Nat} {Cn : String} {T : u_T} {fs : List Value} (ty0 : Nat → FieldType) (he : wEnt G V I J o = .inr (ci, fs)) (hc : vwCl[ci]? = some (Cn, T, N)) (hin : ∀ w ∈ u_ws Cn T N, w ∈ TT) (hty : ∀ k, k < N → parseFieldDescriptor (T k).2.2.1 = some (ty0 k)) (hnm : ∀ a, a < N → ∀ b, b < N → a ≠ b → (T a).2.1 ≠ (T b).2.1) (f : Nat) (hf : f < N) {index : Nat} (hw : Cond.fieldLink own index (T f).1 (T f).2.1 (T f).2.2.1 ∈ TT) {x : Int32} (hfin : (T f).2.2.2 = false) (hI : parseFieldDescriptor (T f).2.2.1 = some .int) (hl9 : f < fs.length) (hset : .inr (ci, fs.set f (.int x)) = wEnt G (upd V vi x) I J o) (hoth : ∀ j, j ≠ o → wEnt G V I J j = wEnt G (upd V vi x) I J j) (hd : decode cc pc = .ok (.putfield index, 3)) (k : WW K G cells slots Q (upd V vi x) I J (pc + 3) lv (st)) : WW K G cells slots Q V I J (pc) lv (.int x :: .ref (G.2.1 o) :: st) := fun H locs ls hP hS hl =>
  va_put C.1.1 C.1.2.1 C.1.2.2.2.2 hin ty0 hty hnm C.1.2.2.2.1 C.2.1 hP (C.2.2.1 V I J) hS o ((wd_at G V I J (by omega)).trans (congrArg (fun e => some (G.2.1 o, e)) he)) hc f hf (C.1.2.2.2.2 _ hw) (fun _ h => h) hfin hI rfl rfl hl9 hd (fun H1 locs1 hP1 _ hS1 => k H1 locs1 ls (by rw [wd_set (by omega) hset hoth] at hP1; exact hP1) hS1 hl)
/-- an int field is written: object o, field f, its number vi -/
theorem g_putN (C : Cx K G own cc nL) (o : Nat) (ho : o < 8) (vi : Nat) {ci N : Nat} {Cn : String} {T : u_T} {fs : List Value} (ty0 : Nat → FieldType) (he : wEnt G V I J o = .inr (ci, fs)) (hc : vwCl[ci]? = some (Cn, T, N)) (hin : ∀ w ∈ u_ws Cn T N, w ∈ TT) (hty : ∀ k, k < N → parseFieldDescriptor (T k).2.2.1 = some (ty0 k)) (hnm : ∀ a, a < N → ∀ b, b < N → a ≠ b → (T a).2.1 ≠ (T b).2.1) (f : Nat) (hf : f < N) {index : Nat} {host : String} (hw : (own, index, (T f).1, (T f).2.1, (T f).2.2.1, host) ∈ wNst) {x : Int32} (hfin : (T f).2.2.2 = false) (hI : parseFieldDescriptor (T f).2.2.1 = some .int) (hl9 : f < fs.length) (hset : .inr (ci, fs.set f (.int x)) = wEnt G (upd V vi x) I J o) (hoth : ∀ j, j ≠ o → wEnt G V I J j = wEnt G (upd V vi x) I J j) (hd : decode cc pc = .ok (.putfield index, 3)) (k : WW K G cells slots Q (upd V vi x) I J (pc + 3) lv (st)) : WW K G cells slots Q V I J (pc) lv (.int x :: .ref (G.2.1 o) :: st) := fun H locs ls hP hS hl =>
  va_putN C.1.1 C.1.2.1 C.1.2.2.2.2 hin ty0 hty hnm C.1.2.2.2.1 C.2.1 hP (C.2.2.1 V I J) hS o ((wd_at G V I J (by omega)).trans (congrArg (fun e => some (G.2.1 o, e)) he)) hc f hf (va_Nw.use rfl (C.2.2.2.2.2.1.2.2.2.1 _ hw)) (fun _ h => h) hfin hI rfl rfl hl9 hd (fun H1 locs1 hP1 _ hS1 => k H1 locs1 ls (by rw [wd_set (by omega) hset hoth] at hP1; exact hP1) hS1 hl)
theorem w_k2 {G : wG} (k : Nat) (h : wKd k = 0) : (wTy G)[0]? = some (G.2.2.2 (wKd k), .int) := by rw [h]; rfl
theorem w_k1 {G : wG} (k : Nat) (h : wKd k = 1) : (wTy G)[1]? = some (G.2.2.2 (wKd k), .boolean) := by rw [h]; rfl
theorem w_kJ {G : wG} (k : Nat) (h : wKd k = 2) : (wTy G)[2]? = some (G.2.2.2 (wKd k), .long) := by rw [h]; rfl
theorem w_kQ {G : wG} (k : Nat) (h : wKd k = 3) : (wTy G)[3]? = some (G.2.2.2 (wKd k), .array .int) := by rw [h]; rfl
theorem g_iald (C : Cx K G own cc nL) (a : Nat) (ha : 8 ≤ a ∧ a < 81 ∧ wKd a = 0) {i : Int32} (hi : vp_in i (wLn a)) (hd : decode cc pc = .ok (.iaload, 1)) (k : WW K G cells slots Q V I J (pc + 1) lv (.int (I a i.toNatClampNeg) :: st)) : WW K G cells slots Q V I J (pc) lv (.int i :: .ref (G.2.1 a) :: st) := fun H locs ls hP hS hl => va_iald C.1.1 C.1.2.1 C.2.1 hP a 0 (wd_atI G V I J ha.2.1 ha.1 (by rw [ha.2.2]; decide) (by rw [ha.2.2]; decide)) (w_k2 a ha.2.2) hi hd (k H locs ls hP hS hl)
theorem g_zald (C : Cx K G own cc nL) (a : Nat) (ha : 8 ≤ a ∧ a < 81 ∧ wKd a = 1) {i : Int32} (hi : vp_in i (wLn a)) (hd : decode cc pc = .ok (.baload, 1)) (k : WW K G cells slots Q V I J (pc + 1) lv (.int (I a i.toNatClampNeg) :: st)) : WW K G cells slots Q V I J (pc) lv (.int i :: .ref (G.2.1 a) :: st) := fun H locs ls hP hS hl => va_zald C.1.1 C.1.2.1 C.2.1 hP a 1 (wd_atI G V I J ha.2.1 ha.1 (by rw [ha.2.2]; decide) (by rw [ha.2.2]; decide)) (w_k1 a ha.2.2) hi hd (k H locs ls hP hS hl)
theorem g_lald (C : Cx K G own cc nL) (a : Nat) (ha : 8 ≤ a ∧ a < 81 ∧ wKd a = 2) {i : Int32} (hi : vp_in i (wLn a)) (hd : decode cc pc = .ok (.laload, 1)) (k : WW K G cells slots Q V I J (pc + 1) lv (.long (J a i.toNatClampNeg) :: st)) : WW K G cells slots Q V I J (pc) lv (.int i :: .ref (G.2.1 a) :: st) := fun H locs ls hP hS hl => va_lald C.1.1 C.1.2.1 C.2.1 hP a 2 (wd_atJ G V I J ha.2.1 ha.1 ha.2.2) (w_kJ a ha.2.2) hi hd (k H locs ls hP hS hl)
theorem g_aald (C : Cx K G own cc nL) (a : Nat) (ha : 8 ≤ a ∧ a < 81 ∧ wKd a = 3) {i : Int32} (hi : vp_in i (wLn a)) (hd : decode cc pc = .ok (.aaload, 1)) (k : WW K G cells slots Q V I J (pc + 1) lv (.ref (G.2.1 (wBs a + i.toNatClampNeg)) :: st)) : WW K G cells slots Q V I J (pc) lv (.int i :: .ref (G.2.1 a) :: st) := fun H locs ls hP hS hl => by
  have hlt : i.toNatClampNeg < wLn a := Nat.not_le.mp fun q => hi (Or.inr q)
  have h1 := hP a _ (wd_atQ G V I J ha.2.1 ha.1 ha.2.2)
  exact W.aald (v := .ref (G.2.1 (wBs a + i.toNatClampNeg))) (ty := .array .int) C.1.1 C.1.2.1 h1 ((C.2.1.2 3 _ (w_kQ a ha.2.2)).1 (wLn a) (fun j => va_rf (if j < wLn a then some (G.2.1 (wBs a + j)) else none))) rfl (fun q => by cases q) (by show ¬ (i < 0 ∨ (arrV _ _ _).slots.size ≤ _); rw [arrV_size]; exact hi) (by show (arrV _ _ _).slots[_]? = _; rw [arrV_read _ _ hlt]; show some (va_rf (if _ then _ else _)) = _; rw [if_pos hlt]; rfl) rfl rfl hd (k H locs ls hP hS hl)
theorem g_iast (C : Cx K G own cc nL) (a : Nat) (ha : 8 ≤ a ∧ a < 81 ∧ wKd a = 0) {i : Int32} {x : Int32} (hi : vp_in i (wLn a)) (hd : decode cc pc = .ok (.iastore, 1)) (k : WW K G cells slots Q V (uI I a (upd (I a) i.toNatClampNeg x)) J (pc + 1) lv (st)) : WW K G cells slots Q V I J (pc) lv (.int x :: .int i :: .ref (G.2.1 a) :: st) := fun H locs ls hP hS hl => va_iast C.1.1 C.1.2.1 C.2.1 hP (C.2.2.1 V I J) hS a 0 (wd_atI G V I J ha.2.1 ha.1 (by rw [ha.2.2]; decide) (by rw [ha.2.2]; decide)) (w_k2 a ha.2.2) hi hd (fun H1 locs1 hP1 _ hS1 => k H1 locs1 ls (by rw [wd_setI ha.2.1 ha.1 (by rw [ha.2.2]; decide) (by rw [ha.2.2]; decide)] at hP1; exact hP1) hS1 hl)
theorem g_zast (C : Cx K G own cc nL) (a : Nat) (ha : 8 ≤ a ∧ a < 81 ∧ wKd a = 1) {i : Int32} {x : Int32} (hi : vp_in i (wLn a)) (hx : vp_nar .boolean x = x) (hd : decode cc pc = .ok (.bastore, 1)) (k : WW K G cells slots Q V (uI I a (upd (I a) i.toNatClampNeg x)) J (pc + 1) lv (st)) : WW K G cells slots Q V I J (pc) lv (.int x :: .int i :: .ref (G.2.1 a) :: st) := fun H locs ls hP hS hl => va_zast C.1.1 C.1.2.1 C.2.1 hP (C.2.2.1 V I J) hS a 1 (wd_atI G V I J ha.2.1 ha.1 (by rw [ha.2.2]; decide) (by rw [ha.2.2]; decide)) (w_k1 a ha.2.2) hi hd (fun H1 locs1 hP1 _ hS1 => k H1 locs1 ls (by rw [hx, wd_setI ha.2.1 ha.1 (by rw [ha.2.2]; decide) (by rw [ha.2.2]; decide)] at hP1; exact hP1) hS1 hl)
theorem g_last (C : Cx K G own cc nL) (a : Nat) (ha : 8 ≤ a ∧ a < 81 ∧ wKd a = 2) {i : Int32} {x : Int64} (hi : vp_in i (wLn a)) (hd : decode cc pc = .ok (.lastore, 1)) (k : WW K G cells slots Q V I (uJ J a (vp_updL (J a) i.toNatClampNeg x)) (pc + 1) lv (st)) : WW K G cells slots Q V I J (pc) lv (.long x :: .int i :: .ref (G.2.1 a) :: st) := fun H locs ls hP hS hl => va_last C.1.1 C.1.2.1 C.2.1 hP (C.2.2.1 V I J) hS a 2 (wd_atJ G V I J ha.2.1 ha.1 ha.2.2) (w_kJ a ha.2.2) hi hd (fun H1 locs1 hP1 _ hS1 => k H1 locs1 ls (by rw [wd_setJ ha.2.1 ha.1 ha.2.2] at hP1; exact hP1) hS1 hl)
theorem g_widen {k9 n9 : Nat} (h1 : cells ≤ k9) (h2 : slots ≤ n9) (k : WW K G k9 n9 Q V I J pc lv st) : WW K G cells slots Q V I J pc lv st := fun H locs ls hP hS hl => W.widen h1 h2 (k H locs ls hP hS hl)
theorem g_at {pc2 : Nat} {lv2 : List (Nat × Value)} {st2 : List Value} (h1 : pc = pc2) (h2 : lv = lv2) (h3 : st = st2) (k : WW K G cells slots Q V I J pc2 lv2 st2) : WW K G cells slots Q V I J pc lv st := by subst h1; subst h2; subst h3; exact k
theorem g_lv {lv2 : List (Nat × Value)} (ps : List Nat) (h : lv_pick lv ps = lv2) (k : WW K G cells slots Q V I J pc lv2 st) : WW K G cells slots Q V I J pc lv st := fun H locs ls hP hS hl => k H locs ls hP hS (lv_sub hl ps h)
theorem g_min (C : Cx K G own cc nL) {index : Nat} {x y : Int32} (h1 : Cond.methodLink own index Lib.Math.min.name ∈ TT) (h2 : Cond.static Lib.Math.min.name ∈ TT) (h3 : Cond.initialized "java/lang/Math" ∈ TT) (h4 : Cond.code Lib.Math.min.name Lib.Math.min.code 2 (some .int) ∈ TT) (hf : 1 ≤ (kR K).frames) (hlo : (st.map fun v => v.category).sum + 13 ≤ (kR K).locals) (hc : cells ≤ (kR K).cells) (hs : slots ≤ (kR K).slots) (hd : decode cc pc = .ok (.invokestatic index, 3)) (k : WW K G cells slots Q V I J (pc + 3) lv (.int (if y < x then y else x) :: st)) : WW K G cells slots Q V I J (pc) lv (.int y :: .int x :: st) := fun H locs ls hP hS hl =>
  va_mmin C.1.1 C.1.2.1 hl.1.symm C.1.2.2.2.1 (C.1.2.2.2.2 _ h1) (C.1.2.2.2.2 _ h2) (C.1.2.2.2.2 _ h3) (C.1.2.2.2.2 _ h4) hf hlo hc hs hd (k H locs ls hP hS hl)
theorem g_iret (C : Cx K G own cc nL) {rm : Room} {post : wPo} {xp : wPx} {v : Int32}  (hr : (kt K).sig.returnType = some .int) (hd : decode cc pc = .ok (.ireturn, 1)) (hc : cells ≤ rm.cells) (hs : slots ≤ rm.slots) (hp : post (some (.int v)) V I J) : WW K G cells slots (QM K G rm post xp) V I J pc lv [.int v] := fun H locs ls hP hS hl => vx_ret (W.widen hc hs (W.iret C.1.1 C.1.2.1 hr (fun t ht _ => ⟨⟨_, V, I, J, rfl, hp, by rw [ht]; exact hP⟩, hS.F ht⟩) hS.2.2 hd C.2.2.2.2.1))
theorem g_zret (C : Cx K G own cc nL) {rm : Room} {post : wPo} {xp : wPx} {v : Int32} (hz : v = 0 ∨ v = 1) (hr : (kt K).sig.returnType = some .boolean) (hd : decode cc pc = .ok (.ireturn, 1)) (hc : cells ≤ rm.cells) (hs : slots ≤ rm.slots) (hp : post (some (.int v)) V I J) : WW K G cells slots (QM K G rm post xp) V I J pc lv [.int v] := fun H locs ls hP hS hl => vx_ret (W.widen hc hs (W.zret C.1.1 C.1.2.1 hr (by rcases hz with rfl | rfl <;> rfl) (fun t ht _ => ⟨⟨_, V, I, J, rfl, hp, by rw [ht]; exact hP⟩, hS.F ht⟩) hS.2.2 hd C.2.2.2.2.1))
theorem g_lret (C : Cx K G own cc nL) {rm : Room} {post : wPo} {xp : wPx} {v : Int64}  (hr : (kt K).sig.returnType = some .long) (hd : decode cc pc = .ok (.lreturn, 1)) (hc : cells ≤ rm.cells) (hs : slots ≤ rm.slots) (hp : post (some (.long v)) V I J) : WW K G cells slots (QM K G rm post xp) V I J pc lv [.long v] := fun H locs ls hP hS hl => vx_ret (W.widen hc hs (W.lret C.1.1 C.1.2.1 hr (fun t ht _ => ⟨⟨_, V, I, J, rfl, hp, by rw [ht]; exact hP⟩, hS.F ht⟩) hS.2.2 hd C.2.2.2.2.1))
theorem g_vret (C : Cx K G own cc nL) {rm : Room} {post : wPo} {xp : wPx}   (hr : (kt K).sig.returnType = none) (hd : decode cc pc = .ok (.return_, 1)) (hc : cells ≤ rm.cells) (hs : slots ≤ rm.slots) (hp : post none V I J) : WW K G cells slots (QM K G rm post xp) V I J pc lv [] := fun H locs ls hP hS hl => vx_ret (W.widen hc hs (W.vret C.1.1 C.1.2.1 hr (fun t ht _ => ⟨⟨_, V, I, J, rfl, hp, by rw [ht]; exact hP⟩, hS.F ht⟩) hS.2.2 hd C.2.2.2.2.1))
end GR
end
section
theorem gi_c {w : Cond} (h : w ∈ TT) : GoodIn TT (w :: TT) := fun z hz => (List.mem_cons.mp hz).elim (fun e => by rw [e]; exact ⟨h, tt_good h⟩) (fun h2 => ⟨h2, tt_good h2⟩)
theorem gi_app {a b : List Cond} (ha : ∀ w ∈ a, w ∈ TT) (hb : GoodIn TT b) : GoodIn TT (a ++ b) := fun w h => (List.mem_append.mp h).elim (fun q => ⟨ha w q, tt_good (ha w q)⟩) (hb w)
theorem fa_3 {p : Cond → Prop} {a b c : Cond} (h1 : p a) (h2 : p b) (h3 : p c) : ∀ w ∈ [a, b, c], p w := List.forall_mem_cons.mpr ⟨h1, List.forall_mem_cons.mpr ⟨h2, List.forall_mem_cons.mpr ⟨h3, fun _ h => absurd h List.not_mem_nil⟩⟩⟩
theorem fa_4 {p : Cond → Prop} {a b c d : Cond} (h1 : p a) (h2 : p b) (h3 : p c) (h4 : p d) : ∀ w ∈ [a, b, c, d], p w := List.forall_mem_cons.mpr ⟨h1, fa_3 h2 h3 h4⟩
section GC
variable {K : wK} {G : wG} {cells slots : Nat} {Q : State → Prop} {V : wV} {I : wI} {J : wJ} {pc : Nat} {lv : List (Nat × Value)} {st stk : List Value} {own : String} {cc : ByteArray} {nL : Nat}
variable {y : MethodName} {bytes : ByteArray} {maxL index : Nat} {ret : Option FieldType} {rm : Room} {As : List Value} {post : wPo} {xp : wPx} {ci N o : Nat} {Cn : String} {T : u_T} {fs : List Value}

/-- an instance method of object o is called -/
theorem g_callV (C : Cx K G own cc nL) (As : List Value) (o : Nat) (hM : Ctr (kl K) y bytes maxL ret rm G (.ref (G.2.1 o) :: As) V I J post xp) (hstk : stk = As.reverse ++ .ref (G.2.1 o) :: st) (ho : o < 81) (he : wEnt G V I J o = .inr (ci, fs)) (hc : vwCl[ci]? = some (Cn, T, N)) (hC : y.cls = Cn)
    (w1 : Cond.methodLink own index y ∈ TT) (w2 : Cond.instanceMethod y ∈ TT) (w3 : Cond.selects y.cls y y ∈ TT) (w4 : Cond.initialized y.cls ∈ TT) (w5 : Cond.code y bytes maxL ret ∈ TT) (hdd : y.cls ≠ "java/lang/invoke/MethodHandle" ∧ y.cls ≠ "java/lang/invoke/VarHandle" ∧ (parseMethodDescriptor y.desc).map (fun d => d.parameters.length) = some As.length)
    (hR : rm.frames + 1 ≤ (kR K).frames ∧ 8 + (maxL + 11) + rm.locals ≤ (kR K).locals) (hcat : (st.map fun v => v.category).sum ≤ 8) (hf : cells + rm.cells ≤ (kR K).cells ∧ slots + rm.slots ≤ (kR K).slots) (hd : decode cc pc = .ok (.invokevirtual index, 3))
    (kx : ∀ E V' I' J', xp E V' I' J' → XW K G (cells + rm.cells) (slots + rm.slots) Q V' I' J' pc lv E)
    (kk : ∀ r V' I' J', post r V' I' J' → WW K G (cells + rm.cells) (slots + rm.slots) Q V' I' J' (pc + 3) lv (r.toList ++ st)) : WW K G cells slots Q V I J pc lv stk := by
  subst hstk
  intro H locs ls hP hS hl
  have cw : CallW (kR K) (ks K) (ka K) own y.cls index y bytes maxL ret (Cond.code y bytes maxL ret :: TT) rm rm.cells rm.slots As.length := cwV As.length C.1.2.2.2.2 (gi_app (a := [.methodLink own index y, .instanceMethod y, .selects y.cls y y, .initialized y.cls]) (fa_4 w1 w2 w3 w4) (gi_c w5)) rfl rfl rfl ⟨rfl, hdd⟩ hR
  have hrv := va_recv (q0 := o) C.2.1 hP hc ((wd_at G V I J ho).trans (congrArg (fun e => some (G.2.1 o, e)) he))
  rw [show ((Cn, T, N) : vw_C).1 = y.cls from hC.symm] at hrv
  have hr := vx_runV (e := ke K) (below := kb K) (meth := kt K) (H := H) (locs := locs) (cells := cells) (slots := slots) (rest := st) (g := F0 (km K) pc ls (As.reverse ++ .ref (G.2.1 o) :: st)) (b := G.2.1 o) C.1 hM cw ⟨cP_blind, hrv, fun U hU hW => ⟨rfl, by rw [hU]; exact hP, va_K.moved hW.alike C.2.1, by rw [hU]; exact Nat.le_trans C.2.2.2.1 hS.1, wX.warm hW (by rw [hU]; exact wX.kept C.2.2.2.2.2.1 hS.2.1)⟩⟩ rfl rfl (hl.1.trans C.1.2.2.1) rfl (lv_room hcat) hd hf
  intro T9 hT X
  rcases hr T9 hT X with ⟨v, st₀, t, T', L, h0, X', hL, e1, e2, ⟨⟨r, V', I', J', hv, hp, hb⟩, hF⟩, sg⟩ | ⟨q, st₀, t, T', L, E, ce, h0, X', hL, e1, e2, ⟨⟨V', I', J', hp, hb⟩, hF⟩, hce, hcv, hcl, sg⟩
  · cases hv
    obtain ⟨k1, k2, k3⟩ := vx_keep (A1 := wA G) h0 e1 hS (fun q _ h => h) (fun q h => h) hL hF
    obtain ⟨t2, a1, b1⟩ := kk v V' I' J' hp T'.heap (locs ++ L) ls (by rw [e1]; exact hb) k3 hl T' rfl X'
    exact ⟨t2, sg t2 a1, b1⟩
  · obtain ⟨k1, k2, k3⟩ := vx_keep (A1 := wA G) h0 e1 hS (fun q _ h => h) (fun q h => h) hL hF
    obtain ⟨t2, a1, b1⟩ := kx E V' I' J' hp T'.heap (locs ++ L) ls q ce st (by rw [e1]; exact hb) k3 hl (by rw [e1]; exact hce) hcv hcl T' rfl X'
    exact ⟨t2, sg.trans a1, b1⟩
/-- a static method of the same class is called -/
theorem g_callS (C : Cx K G own cc nL) (As : List Value) (hM : Ctr (kl K) y bytes maxL ret rm G As V I J post xp) (hstk : stk = As.reverse ++ st) (hC : y.cls = own)
    (w1 : Cond.methodLink own index y ∈ TT) (w2 : Cond.static y ∈ TT) (w4 : Cond.initialized own ∈ TT) (w5 : Cond.code y bytes maxL ret ∈ TT) (hdd : y.cls ≠ "java/lang/invoke/MethodHandle" ∧ y.cls ≠ "java/lang/invoke/VarHandle" ∧ (parseMethodDescriptor y.desc).map (fun d => d.parameters.length) = some As.length)
    (hR : rm.frames + 1 ≤ (kR K).frames ∧ 8 + (maxL + 11) + rm.locals ≤ (kR K).locals) (hcat : (st.map fun v => v.category).sum ≤ 8) (hf : cells + rm.cells ≤ (kR K).cells ∧ slots + rm.slots ≤ (kR K).slots) (hd : decode cc pc = .ok (.invokestatic index, 3))
    (kx : ∀ E V' I' J', xp E V' I' J' → XW K G (cells + rm.cells) (slots + rm.slots) Q V' I' J' pc lv E)
    (kk : ∀ r V' I' J', post r V' I' J' → WW K G (cells + rm.cells) (slots + rm.slots) Q V' I' J' (pc + 3) lv (r.toList ++ st)) : WW K G cells slots Q V I J pc lv stk := by
  subst hstk
  intro H locs ls hP hS hl
  have cw : CallB (kR K) (ks K) (ka K) own index y bytes maxL ret (Cond.code y bytes maxL ret :: TT) rm rm.cells rm.slots As.length ∧ (Cond.static y).before (ka K) (ks K) = true := cwS As.length C.1.2.2.2.2 (gi_app (a := [.methodLink own index y, .static y, .initialized own]) (fa_3 w1 w2 w4) (gi_c w5)) rfl rfl rfl ⟨hC, hdd⟩ hR
  have hr := vx_runS (e := ke K) (below := kb K) (meth := kt K) (H := H) (locs := locs) (cells := cells) (slots := slots) (rest := st) (g := F0 (km K) pc ls (As.reverse ++ st)) C.1 hM cw ⟨cP_blind, fun U hU hW => ⟨rfl, by rw [hU]; exact hP, va_K.moved hW.alike C.2.1, by rw [hU]; exact Nat.le_trans C.2.2.2.1 hS.1, wX.warm hW (by rw [hU]; exact wX.kept C.2.2.2.2.2.1 hS.2.1)⟩⟩ rfl rfl (hl.1.trans C.1.2.2.1) rfl (lv_room hcat) hd hf
  intro T9 hT X
  rcases hr T9 hT X with ⟨v, st₀, t, T', L, h0, X', hL, e1, e2, ⟨⟨r, V', I', J', hv, hp, hb⟩, hF⟩, sg⟩ | ⟨q, st₀, t, T', L, E, ce, h0, X', hL, e1, e2, ⟨⟨V', I', J', hp, hb⟩, hF⟩, hce, hcv, hcl, sg⟩
  · cases hv
    obtain ⟨k1, k2, k3⟩ := vx_keep (A1 := wA G) h0 e1 hS (fun q _ h => h) (fun q h => h) hL hF
    obtain ⟨t2, a1, b1⟩ := kk v V' I' J' hp T'.heap (locs ++ L) ls (by rw [e1]; exact hb) k3 hl T' rfl X'
    exact ⟨t2, sg t2 a1, b1⟩
  · obtain ⟨k1, k2, k3⟩ := vx_keep (A1 := wA G) h0 e1 hS (fun q _ h => h) (fun q h => h) hL hF
    obtain ⟨t2, a1, b1⟩ := kx E V' I' J' hp T'.heap (locs ++ L) ls q ce st (by rw [e1]; exact hb) k3 hl (by rw [e1]; exact hce) hcv hcl T' rfl X'
    exact ⟨t2, sg.trans a1, b1⟩
/-- a static method with a table of its own is called -/
theorem g_callX {hh : List (Nat × Nat × Nat × Nat)} (C : Cx K G own cc nL) (As : List Value) (hM : vx_Met (kl K) y (Cond.codeWith y bytes maxL ret hh :: TT) rm (cP G As V I J) (cQ G post) (cX G xp) rm.cells rm.slots (wA G)) (hstk : stk = As.reverse ++ st)
    (w1 : Cond.methodLink own index y ∈ TT) (w2 : Cond.static y ∈ TT) (w4 : Cond.initialized y.cls ∈ TT) (w5 : Cond.codeWith y bytes maxL ret hh ∈ TT) (hdd : y.cls ≠ "java/lang/invoke/MethodHandle" ∧ y.cls ≠ "java/lang/invoke/VarHandle" ∧ (parseMethodDescriptor y.desc).map (fun d => d.parameters.length) = some As.length)
    (hR : rm.frames + 1 ≤ (kR K).frames ∧ 8 + (maxL + 11) + rm.locals ≤ (kR K).locals) (hcat : (st.map fun v => v.category).sum ≤ 8) (hf : cells + rm.cells ≤ (kR K).cells ∧ slots + rm.slots ≤ (kR K).slots) (hd : decode cc pc = .ok (.invokestatic index, 3))
    (kx : ∀ E V' I' J', xp E V' I' J' → XW K G (cells + rm.cells) (slots + rm.slots) Q V' I' J' pc lv E)
    (kk : ∀ r V' I' J', post r V' I' J' → WW K G (cells + rm.cells) (slots + rm.slots) Q V' I' J' (pc + 3) lv (r.toList ++ st)) : WW K G cells slots Q V I J pc lv stk := by
  subst hstk
  intro H locs ls hP hS hl
  have cw : vx_CSW (kR K) (ks K) (ka K) own index y bytes maxL ret hh (Cond.codeWith y bytes maxL ret hh :: TT) rm rm.cells rm.slots As.length := vx_cwSW As.length C.1.2.2.2.2 (gi_app (a := [.methodLink own index y, .static y, .initialized y.cls]) (fa_3 w1 w2 w4) (gi_c w5)) rfl rfl rfl hdd hR
  have hr := vx_runSX (e := ke K) (below := kb K) (meth := kt K) (H := H) (locs := locs) (cells := cells) (slots := slots) (rest := st) (g := F0 (km K) pc ls (As.reverse ++ st)) C.1 hM cw ⟨cP_blind, fun U hU hW => ⟨rfl, by rw [hU]; exact hP, va_K.moved hW.alike C.2.1, by rw [hU]; exact Nat.le_trans C.2.2.2.1 hS.1, wX.warm hW (by rw [hU]; exact wX.kept C.2.2.2.2.2.1 hS.2.1)⟩⟩ rfl rfl (hl.1.trans C.1.2.2.1) rfl (lv_room hcat) hd hf
  intro T9 hT X
  rcases hr T9 hT X with ⟨v, st₀, t, T', L, h0, X', hL, e1, e2, ⟨⟨r, V', I', J', hv, hp, hb⟩, hF⟩, sg⟩ | ⟨q, st₀, t, T', L, E, ce, h0, X', hL, e1, e2, ⟨⟨V', I', J', hp, hb⟩, hF⟩, hce, hcv, hcl, sg⟩
  · cases hv
    obtain ⟨k1, k2, k3⟩ := vx_keep (A1 := wA G) h0 e1 hS (fun q _ h => h) (fun q h => h) hL hF
    obtain ⟨t2, a1, b1⟩ := kk v V' I' J' hp T'.heap (locs ++ L) ls (by rw [e1]; exact hb) k3 hl T' rfl X'
    exact ⟨t2, sg t2 a1, b1⟩
  · obtain ⟨k1, k2, k3⟩ := vx_keep (A1 := wA G) h0 e1 hS (fun q _ h => h) (fun q h => h) hL hF
    obtain ⟨t2, a1, b1⟩ := kx E V' I' J' hp T'.heap (locs ++ L) ls q ce st (by rw [e1]; exact hb) k3 hl (by rw [e1]; exact hce) hcv hcl T' rfl X'
    exact ⟨t2, sg.trans a1, b1⟩
/-- a throw of a callee goes on to the caller -/
theorem g_out {rm' : Room} {post' : wPo} {xp' : wPx} {E : String} (C : Cx K G own cc nL) (hT : ∀ x ∈ (kc K).exceptionTable.toList, False) (hc : cells ≤ rm'.cells) (hs : slots ≤ rm'.slots) (hx : xp' E V I J) : XW K G cells slots (QM K G rm' post' xp') V I J pc lv E :=
  fun H locs ls q ce rest hP hS hl h1 h2 h3 => vx_out (fun x hx9 => (hT x hx9).elim) C.2.2.2.2.1 h1 h2 h3 (fun t ht _ => ⟨⟨V, I, J, hx, by rw [ht]; exact hP⟩, hS.F ht⟩) hS.2.2 hc hs
/-- a handler takes it -/
theorem g_catch {E : String} (C : Cx K G own cc nL) (pre : List ExceptionTableEntry) (x : ExceptionTableEntry) (suf : List ExceptionTableEntry) (hsplit : (kc K).exceptionTable.toList = pre ++ x :: suf) (hE : E ∈ wExc)
    (hpass : ∀ z ∈ pre, z.catchType ≠ 0 ∧ ∃ nm : String, Cond.classLink own z.catchType nm ∈ TT ∧ nm ∈ wExc ∧ E ≠ nm) (hx : covers x pc = true) (h0 : x.catchType ≠ 0) (hlink : Cond.classLink own x.catchType E ∈ TT)
    (k : ∀ q : Nat, WW K G cells slots Q V I J x.handlerPc lv [.ref q]) : XW K G cells slots Q V I J pc lv E :=
  fun H locs ls q ce rest hP hS hl h1 h2 h3 => vx_catch C.1.2.2.2.1 pre x suf hsplit (fun z hz => by
    obtain ⟨z0, nm, hl1, hn, hne⟩ := hpass z hz
    exact Or.inr ⟨z0, nm, C.1.2.2.2.2 _ hl1, C.2.2.2.2.2.1.2.2.2.2.2.1 E hE nm hn hne⟩) hx h0 (C.1.2.2.2.2 _ hlink) (va_Nw.use rfl (C.2.2.2.2.2.1.2.2.2.2.1 E hE)) h1 h2 h3 (k q H locs ls hP hS hl)
/-- the body of a method with a table -/
theorem ctrX_of {l : Launch} {hh : List (Nat × Nat × Nat × Nat)} {av : List Value} (hl : l.stackTraces = false) (hG : wD G) (hy : plainName y.cls = true) (hn : (lg_sl av).length ≤ maxL) (lv : List (Nat × Value)) (hlv : lv_args 0 av = lv)
    (body : ∀ K : wK, Cx K G y.cls bytes maxL → kl K = l → kR K = rm → (kt K).sig.returnType = ret → (kc K).exceptionTable.toList = tableOf hh → WW K G 0 0 (QM K G rm post xp) V I J 0 lv []) : vx_Met l y (Cond.codeWith y bytes maxL ret hh :: TT) rm (cP G av V I J) (cQ G post) (cX G xp) rm.cells rm.slots (wA G) := by
  refine vx_ofWH (cc := bytes) (maxL := maxL) (ret := ret) (hh := hh) hy rfl ?_
  intro p e s m args below meth c s₁ B hml hv
  obtain ⟨rfl, hP, hK, hN, hX⟩ := hv
  have hts := atoms_spec (ws := Cond.codeWith y bytes maxL ret hh :: TT) B.pre
  have h := body (p, l, e, rm, s, m, av.toArray, below, meth, c) ⟨⟨B.exec, B.bytes, hml, findClass_of_methodNamed B.named, fun w hw => hts w (List.mem_cons_of_mem _ hw)⟩, hK, hG, hN, B.notSynchronized, hX, hl⟩ rfl rfl B.returns (vx_table (x := y) B (hts _ List.mem_cons_self))
  rw [lg_entry_eq]
  refine h s.heap [] _ hP va_S.rf ?_
  subst hlv
  show lv_has _ c.maxLocals _
  rw [hml]
  exact lv_entry av hn
end GC
set_option maxRecDepth 20000 in
theorem hat_ISE {K : wK} {G : wG} {own : String} {cc : ByteArray} {nL : Nat} (C : Cx K G own cc nL) : ∀ w ∈ vx_atS RX6 62 "java/lang/IllegalStateException" ["java/lang/RuntimeException", "java/lang/Exception"], w.before (ka K) (ks K) = true := by
  have h : ∀ w ∈ Bundle.ownAtoms RX6 62 "java/lang/IllegalStateException" ["java/lang/RuntimeException", "java/lang/Exception"], vx_no w = true → w.before (ka K) (ks K) = true := (List.forall_mem_cons.mpr ⟨fun _ => C.1.2.2.2.2 _ (tt_of 39 rfl rfl), (List.forall_mem_cons.mpr ⟨fun _ => C.1.2.2.2.2 _ (tt_of 396 rfl rfl), (List.forall_mem_cons.mpr ⟨fun _ => C.1.2.2.2.2 _ (tt_of 405 rfl rfl), (List.forall_mem_cons.mpr ⟨fun _ => C.1.2.2.2.2 _ (tt_of 409 rfl rfl), (List.forall_mem_cons.mpr ⟨fun _ => C.1.2.2.2.2 _ (tt_of 412 rfl rfl), (List.forall_mem_cons.mpr ⟨fun _ => C.1.2.2.2.2 _ (tt_of 414 rfl rfl), (List.forall_mem_cons.mpr ⟨fun _ => C.1.2.2.2.2 _ (tt_of 397 rfl rfl), (List.forall_mem_cons.mpr ⟨fun _ => C.1.2.2.2.2 _ (tt_of 398 rfl rfl), (List.forall_mem_cons.mpr ⟨fun _ => C.1.2.2.2.2 _ (tt_of 52 rfl rfl), (List.forall_mem_cons.mpr ⟨fun _ => C.1.2.2.2.2 _ (tt_of 53 rfl rfl), (List.forall_mem_cons.mpr ⟨fun _ => C.1.2.2.2.2 _ (tt_of 399 rfl rfl), (List.forall_mem_cons.mpr ⟨fun _ => C.1.2.2.2.2 _ (tt_of 404 rfl rfl), (List.forall_mem_cons.mpr ⟨fun _ => C.1.2.2.2.2 _ (tt_of 410 rfl rfl), (List.forall_mem_cons.mpr ⟨fun _ => C.1.2.2.2.2 _ (tt_of 430 rfl rfl), (List.forall_mem_cons.mpr ⟨fun _ => C.1.2.2.2.2 _ (tt_of 386 rfl rfl), (List.forall_mem_cons.mpr ⟨fun _ => C.1.2.2.2.2 _ (tt_of 431 rfl rfl), (List.forall_mem_cons.mpr ⟨fun _ => C.1.2.2.2.2 _ (tt_of 388 rfl rfl), (List.forall_mem_cons.mpr ⟨fun _ => C.1.2.2.2.2 _ (tt_of 432 rfl rfl), (List.forall_mem_cons.mpr ⟨fun _ => C.1.2.2.2.2 _ (tt_of 390 rfl rfl), (List.forall_mem_cons.mpr ⟨fun _ => C.1.2.2.2.2 _ (tt_of 400 rfl rfl), (List.forall_mem_cons.mpr ⟨fun h => absurd h (by decide +kernel), (List.forall_mem_cons.mpr ⟨fun _ => C.1.2.2.2.2 _ (tt_of 402 rfl rfl), (List.forall_mem_cons.mpr ⟨fun h => absurd h (by decide +kernel), (List.forall_mem_cons.mpr ⟨fun _ => C.1.2.2.2.2 _ (tt_of 392 rfl rfl), (List.forall_mem_cons.mpr ⟨fun _ => C.1.2.2.2.2 _ (tt_of 426 rfl rfl), (List.forall_mem_cons.mpr ⟨fun _ => C.1.2.2.2.2 _ (tt_of 427 rfl rfl), (List.forall_mem_cons.mpr ⟨fun _ => C.1.2.2.2.2 _ (tt_of 429 rfl rfl), (List.forall_mem_cons.mpr ⟨fun _ => C.1.2.2.2.2 _ (tt_of 392 rfl rfl), (List.forall_mem_cons.mpr ⟨fun _ => C.1.2.2.2.2 _ (tt_of 417 rfl rfl), (List.forall_mem_cons.mpr ⟨fun _ => C.1.2.2.2.2 _ (tt_of 418 rfl rfl), (List.forall_mem_cons.mpr ⟨fun _ => C.1.2.2.2.2 _ (tt_of 419 rfl rfl), (List.forall_mem_cons.mpr ⟨fun _ => C.1.2.2.2.2 _ (tt_of 420 rfl rfl), (List.forall_mem_cons.mpr ⟨fun _ => va_Nw.use rfl (C.2.2.2.2.2.1.2.2.2.2.2.2 _ (List.mem_of_getElem? (i := 0) rfl)), (List.forall_mem_cons.mpr ⟨fun _ => C.1.2.2.2.2 _ (tt_of 420 rfl rfl), (List.forall_mem_cons.mpr ⟨fun _ => C.1.2.2.2.2 _ (tt_of 421 rfl rfl), (List.forall_mem_cons.mpr ⟨fun _ => C.1.2.2.2.2 _ (tt_of 422 rfl rfl), (List.forall_mem_cons.mpr ⟨fun _ => C.1.2.2.2.2 _ (tt_of 423 rfl rfl), (List.forall_mem_cons.mpr ⟨fun _ => va_Nw.use rfl (C.2.2.2.2.2.1.2.2.2.2.2.2 _ (List.mem_of_getElem? (i := 1) rfl)), (List.forall_mem_cons.mpr ⟨fun _ => C.1.2.2.2.2 _ (tt_of 423 rfl rfl), (List.forall_mem_cons.mpr ⟨fun _ => C.1.2.2.2.2 _ (tt_of 424 rfl rfl), (List.forall_mem_cons.mpr ⟨fun _ => C.1.2.2.2.2 _ (tt_of 425 rfl rfl), (List.forall_mem_cons.mpr ⟨fun _ => C.1.2.2.2.2 _ (tt_of 426 rfl rfl), (List.forall_mem_cons.mpr ⟨fun _ => va_Nw.use rfl (C.2.2.2.2.2.1.2.2.2.2.2.2 _ (List.mem_of_getElem? (i := 2) rfl)), (List.forall_mem_cons.mpr ⟨fun _ => C.1.2.2.2.2 _ (tt_of 416 rfl rfl), (List.forall_mem_cons.mpr ⟨fun _ => C.1.2.2.2.2 _ (tt_of 375 rfl rfl), (List.forall_mem_cons.mpr ⟨fun _ => va_Nw.use rfl (C.2.2.2.2.2.1.2.2.2.2.1 _ (List.mem_of_getElem? (i := 0) rfl)), (List.forall_mem_cons.mpr ⟨fun _ => C.1.2.2.2.2 _ (tt_of 383 rfl rfl), (List.forall_mem_cons.mpr ⟨fun _ => C.1.2.2.2.2 _ (tt_of 384 rfl rfl), (List.forall_mem_cons.mpr ⟨fun _ => C.1.2.2.2.2 _ (tt_of 385 rfl rfl), (List.forall_mem_cons.mpr ⟨fun _ => C.1.2.2.2.2 _ (tt_of 387 rfl rfl), (List.forall_mem_cons.mpr ⟨fun _ => C.1.2.2.2.2 _ (tt_of 389 rfl rfl), (List.forall_mem_cons.mpr ⟨fun _ => C.1.2.2.2.2 _ (tt_of 391 rfl rfl), (List.forall_mem_cons.mpr ⟨fun h => absurd h (by decide +kernel), (List.forall_mem_cons.mpr ⟨fun h => absurd h (by decide +kernel), (List.forall_mem_cons.mpr ⟨fun _ => C.1.2.2.2.2 _ (tt_of 395 rfl rfl), (List.forall_mem_cons.mpr ⟨fun _ => C.1.2.2.2.2 _ (tt_of 394 rfl rfl), (List.forall_mem_cons.mpr ⟨fun _ => C.1.2.2.2.2 _ (tt_of 393 rfl rfl), (fun _ h => absurd h List.not_mem_nil)⟩)⟩)⟩)⟩)⟩)⟩)⟩)⟩)⟩)⟩)⟩)⟩)⟩)⟩)⟩)⟩)⟩)⟩)⟩)⟩)⟩)⟩)⟩)⟩)⟩)⟩)⟩)⟩)⟩)⟩)⟩)⟩)⟩)⟩)⟩)⟩)⟩)⟩)⟩)⟩)⟩)⟩)⟩)⟩)⟩)⟩)⟩)⟩)⟩)⟩)⟩)⟩)⟩)⟩)⟩)⟩)⟩)
  intro w hw
  obtain ⟨h1, h2⟩ := List.mem_filter.mp hw
  exact h w h1 h2
set_option maxRecDepth 20000 in
theorem hgood_ISE : ∀ w ∈ Cond.classLink RX6 58 "java/lang/IllegalStateException" :: Cond.initialized "java/lang/IllegalStateException" :: vx_atS RX6 62 "java/lang/IllegalStateException" ["java/lang/RuntimeException", "java/lang/Exception"], vx_ot w = true := by
  have h : ∀ w ∈ Bundle.ownAtoms RX6 62 "java/lang/IllegalStateException" ["java/lang/RuntimeException", "java/lang/Exception"], vx_no w = true → vx_ot w = true := (List.forall_mem_cons.mpr ⟨fun _ => rfl, (List.forall_mem_cons.mpr ⟨fun _ => rfl, (List.forall_mem_cons.mpr ⟨fun _ => rfl, (List.forall_mem_cons.mpr ⟨fun _ => rfl, (List.forall_mem_cons.mpr ⟨fun _ => rfl, (List.forall_mem_cons.mpr ⟨fun _ => rfl, (List.forall_mem_cons.mpr ⟨fun _ => rfl, (List.forall_mem_cons.mpr ⟨fun _ => rfl, (List.forall_mem_cons.mpr ⟨fun _ => rfl, (List.forall_mem_cons.mpr ⟨fun _ => rfl, (List.forall_mem_cons.mpr ⟨fun _ => rfl, (List.forall_mem_cons.mpr ⟨fun _ => rfl, (List.forall_mem_cons.mpr ⟨fun _ => rfl, (List.forall_mem_cons.mpr ⟨fun _ => rfl, (List.forall_mem_cons.mpr ⟨fun _ => rfl, (List.forall_mem_cons.mpr ⟨fun _ => rfl, (List.forall_mem_cons.mpr ⟨fun _ => rfl, (List.forall_mem_cons.mpr ⟨fun _ => rfl, (List.forall_mem_cons.mpr ⟨fun _ => rfl, (List.forall_mem_cons.mpr ⟨fun _ => rfl, (List.forall_mem_cons.mpr ⟨fun h => absurd h (by decide +kernel), (List.forall_mem_cons.mpr ⟨fun _ => rfl, (List.forall_mem_cons.mpr ⟨fun h => absurd h (by decide +kernel), (List.forall_mem_cons.mpr ⟨fun _ => rfl, (List.forall_mem_cons.mpr ⟨fun _ => rfl, (List.forall_mem_cons.mpr ⟨fun _ => rfl, (List.forall_mem_cons.mpr ⟨fun _ => rfl, (List.forall_mem_cons.mpr ⟨fun _ => rfl, (List.forall_mem_cons.mpr ⟨fun _ => rfl, (List.forall_mem_cons.mpr ⟨fun _ => rfl, (List.forall_mem_cons.mpr ⟨fun _ => rfl, (List.forall_mem_cons.mpr ⟨fun _ => rfl, (List.forall_mem_cons.mpr ⟨fun _ => rfl, (List.forall_mem_cons.mpr ⟨fun _ => rfl, (List.forall_mem_cons.mpr ⟨fun _ => rfl, (List.forall_mem_cons.mpr ⟨fun _ => rfl, (List.forall_mem_cons.mpr ⟨fun _ => rfl, (List.forall_mem_cons.mpr ⟨fun _ => rfl, (List.forall_mem_cons.mpr ⟨fun _ => rfl, (List.forall_mem_cons.mpr ⟨fun _ => rfl, (List.forall_mem_cons.mpr ⟨fun _ => rfl, (List.forall_mem_cons.mpr ⟨fun _ => rfl, (List.forall_mem_cons.mpr ⟨fun _ => rfl, (List.forall_mem_cons.mpr ⟨fun _ => rfl, (List.forall_mem_cons.mpr ⟨fun _ => rfl, (List.forall_mem_cons.mpr ⟨fun _ => rfl, (List.forall_mem_cons.mpr ⟨fun _ => rfl, (List.forall_mem_cons.mpr ⟨fun _ => rfl, (List.forall_mem_cons.mpr ⟨fun _ => rfl, (List.forall_mem_cons.mpr ⟨fun _ => rfl, (List.forall_mem_cons.mpr ⟨fun _ => rfl, (List.forall_mem_cons.mpr ⟨fun _ => rfl, (List.forall_mem_cons.mpr ⟨fun h => absurd h (by decide +kernel), (List.forall_mem_cons.mpr ⟨fun h => absurd h (by decide +kernel), (List.forall_mem_cons.mpr ⟨fun _ => rfl, (List.forall_mem_cons.mpr ⟨fun _ => rfl, (List.forall_mem_cons.mpr ⟨fun _ => rfl, (fun _ h => absurd h List.not_mem_nil)⟩)⟩)⟩)⟩)⟩)⟩)⟩)⟩)⟩)⟩)⟩)⟩)⟩)⟩)⟩)⟩)⟩)⟩)⟩)⟩)⟩)⟩)⟩)⟩)⟩)⟩)⟩)⟩)⟩)⟩)⟩)⟩)⟩)⟩)⟩)⟩)⟩)⟩)⟩)⟩)⟩)⟩)⟩)⟩)⟩)⟩)⟩)⟩)⟩)⟩)⟩)⟩)⟩)⟩)⟩)⟩)⟩)
  refine List.forall_mem_cons.mpr ⟨rfl, List.forall_mem_cons.mpr ⟨rfl, ?_⟩⟩
  intro w hw
  obtain ⟨h1, h2⟩ := List.mem_filter.mp hw
  exact h w h1 h2
/-- 'throw new java/lang/IllegalStateException(text)' -/
theorem g_th_ISE {K : wK} {G : wG} {cells slots : Nat} {V : wV} {I : wI} {J : wJ} {pc : Nat} {lv : List (Nat × Value)} {cc : ByteArray} {nL : Nat} {rm : Room} {post : wPo} {xp : wPx} (C : Cx K G RX6 cc nL) (hT : ∀ x ∈ (kc K).exceptionTable.toList, False) (is : Nat) {text : String} (hs : (is, text) ∈ wStr)
    (d0 : decode cc pc = .ok (.new 58, 3)) (d3 : decode cc (pc + 3) = .ok (.dup, 1)) (d4 : decode cc (pc + 4) = .ok (.ldc is, 2)) (d6 : decode cc (pc + 6) = .ok (.invokespecial 62, 3)) (d9 : decode cc (pc + 9) = .ok (.athrow, 1))
    (hf : 5 < (kR K).frames) (hlo : 82 ≤ (kR K).locals) (hc1 : cells + 1 ≤ (kR K).cells) (hs1 : slots + 6 ≤ (kR K).slots) (hc : cells + 1 ≤ rm.cells) (hsl : slots + 6 ≤ rm.slots) (hx : xp "java/lang/IllegalStateException" V I J) : WW K G cells slots (QM K G rm post xp) V I J pc lv [] := by
  intro H locs ls hP hS hl
  obtain ⟨sa, hsa⟩ := C.2.2.2.2.2.1.2.2.1 _ hs
  exact vx_throwS (ik := 58) (ic := 62) (sa := sa) (names := ["java/lang/RuntimeException", "java/lang/Exception"]) C.1.1 C.1.2.1 C.2.2.2.2.2.2 C.1.2.2.2.1 (by decide +kernel) (by decide +kernel) (C.1.2.2.2.2 _ (tt_of 374 rfl rfl)) (C.1.2.2.2.2 _ (tt_of 42 rfl rfl)) hsa (hat_ISE C) hgood_ISE C.2.2.2.2.2.1.1 C.2.2.2.2.2.1.2.1 hS hl.1 d0 d3 d4 d6 d9 (fun x hx9 => (hT x hx9).elim) hf hlo hc1 hs1 C.2.2.2.2.1
    (fun t _ hz hk => ⟨⟨V, I, J, hx, hP.kept (fun k q hk2 => hk q.1 (hP k q hk2).lt)⟩, ⟨Nat.le_trans hS.1 hz, fun q h1 h2 => by rw [hk q (Nat.lt_of_lt_of_le h1 hS.1)]; exact hS.2.1 q h1 h2⟩⟩) hS.2.2 hc hsl
set_option maxRecDepth 20000 in
theorem hat_IAE {K : wK} {G : wG} {own : String} {cc : ByteArray} {nL : Nat} (C : Cx K G own cc nL) : ∀ w ∈ vx_atS RX6 81 "java/lang/IllegalArgumentException" ["java/lang/RuntimeException", "java/lang/Exception"], w.before (ka K) (ks K) = true := by
  have h : ∀ w ∈ Bundle.ownAtoms RX6 81 "java/lang/IllegalArgumentException" ["java/lang/RuntimeException", "java/lang/Exception"], vx_no w = true → w.before (ka K) (ks K) = true := (List.forall_mem_cons.mpr ⟨fun _ => C.1.2.2.2.2 _ (tt_of 39 rfl rfl), (List.forall_mem_cons.mpr ⟨fun _ => C.1.2.2.2.2 _ (tt_of 396 rfl rfl), (List.forall_mem_cons.mpr ⟨fun _ => C.1.2.2.2.2 _ (tt_of 405 rfl rfl), (List.forall_mem_cons.mpr ⟨fun _ => C.1.2.2.2.2 _ (tt_of 409 rfl rfl), (List.forall_mem_cons.mpr ⟨fun _ => C.1.2.2.2.2 _ (tt_of 412 rfl rfl), (List.forall_mem_cons.mpr ⟨fun _ => C.1.2.2.2.2 _ (tt_of 414 rfl rfl), (List.forall_mem_cons.mpr ⟨fun _ => C.1.2.2.2.2 _ (tt_of 397 rfl rfl), (List.forall_mem_cons.mpr ⟨fun _ => C.1.2.2.2.2 _ (tt_of 398 rfl rfl), (List.forall_mem_cons.mpr ⟨fun _ => C.1.2.2.2.2 _ (tt_of 52 rfl rfl), (List.forall_mem_cons.mpr ⟨fun _ => C.1.2.2.2.2 _ (tt_of 53 rfl rfl), (List.forall_mem_cons.mpr ⟨fun _ => C.1.2.2.2.2 _ (tt_of 399 rfl rfl), (List.forall_mem_cons.mpr ⟨fun _ => C.1.2.2.2.2 _ (tt_of 404 rfl rfl), (List.forall_mem_cons.mpr ⟨fun _ => C.1.2.2.2.2 _ (tt_of 410 rfl rfl), (List.forall_mem_cons.mpr ⟨fun _ => C.1.2.2.2.2 _ (tt_of 430 rfl rfl), (List.forall_mem_cons.mpr ⟨fun _ => C.1.2.2.2.2 _ (tt_of 386 rfl rfl), (List.forall_mem_cons.mpr ⟨fun _ => C.1.2.2.2.2 _ (tt_of 431 rfl rfl), (List.forall_mem_cons.mpr ⟨fun _ => C.1.2.2.2.2 _ (tt_of 388 rfl rfl), (List.forall_mem_cons.mpr ⟨fun _ => C.1.2.2.2.2 _ (tt_of 432 rfl rfl), (List.forall_mem_cons.mpr ⟨fun _ => C.1.2.2.2.2 _ (tt_of 390 rfl rfl), (List.forall_mem_cons.mpr ⟨fun _ => C.1.2.2.2.2 _ (tt_of 400 rfl rfl), (List.forall_mem_cons.mpr ⟨fun h => absurd h (by decide +kernel), (List.forall_mem_cons.mpr ⟨fun _ => C.1.2.2.2.2 _ (tt_of 402 rfl rfl), (List.forall_mem_cons.mpr ⟨fun h => absurd h (by decide +kernel), (List.forall_mem_cons.mpr ⟨fun _ => C.1.2.2.2.2 _ (tt_of 392 rfl rfl), (List.forall_mem_cons.mpr ⟨fun _ => C.1.2.2.2.2 _ (tt_of 426 rfl rfl), (List.forall_mem_cons.mpr ⟨fun _ => C.1.2.2.2.2 _ (tt_of 427 rfl rfl), (List.forall_mem_cons.mpr ⟨fun _ => C.1.2.2.2.2 _ (tt_of 429 rfl rfl), (List.forall_mem_cons.mpr ⟨fun _ => C.1.2.2.2.2 _ (tt_of 392 rfl rfl), (List.forall_mem_cons.mpr ⟨fun _ => C.1.2.2.2.2 _ (tt_of 489 rfl rfl), (List.forall_mem_cons.mpr ⟨fun _ => C.1.2.2.2.2 _ (tt_of 490 rfl rfl), (List.forall_mem_cons.mpr ⟨fun _ => C.1.2.2.2.2 _ (tt_of 491 rfl rfl), (List.forall_mem_cons.mpr ⟨fun _ => C.1.2.2.2.2 _ (tt_of 420 rfl rfl), (List.forall_mem_cons.mpr ⟨fun _ => va_Nw.use rfl (C.2.2.2.2.2.1.2.2.2.2.2.2 _ (List.mem_of_getElem? (i := 0) rfl)), (List.forall_mem_cons.mpr ⟨fun _ => C.1.2.2.2.2 _ (tt_of 420 rfl rfl), (List.forall_mem_cons.mpr ⟨fun _ => C.1.2.2.2.2 _ (tt_of 421 rfl rfl), (List.forall_mem_cons.mpr ⟨fun _ => C.1.2.2.2.2 _ (tt_of 422 rfl rfl), (List.forall_mem_cons.mpr ⟨fun _ => C.1.2.2.2.2 _ (tt_of 423 rfl rfl), (List.forall_mem_cons.mpr ⟨fun _ => va_Nw.use rfl (C.2.2.2.2.2.1.2.2.2.2.2.2 _ (List.mem_of_getElem? (i := 1) rfl)), (List.forall_mem_cons.mpr ⟨fun _ => C.1.2.2.2.2 _ (tt_of 423 rfl rfl), (List.forall_mem_cons.mpr ⟨fun _ => C.1.2.2.2.2 _ (tt_of 424 rfl rfl), (List.forall_mem_cons.mpr ⟨fun _ => C.1.2.2.2.2 _ (tt_of 425 rfl rfl), (List.forall_mem_cons.mpr ⟨fun _ => C.1.2.2.2.2 _ (tt_of 426 rfl rfl), (List.forall_mem_cons.mpr ⟨fun _ => va_Nw.use rfl (C.2.2.2.2.2.1.2.2.2.2.2.2 _ (List.mem_of_getElem? (i := 2) rfl)), (List.forall_mem_cons.mpr ⟨fun _ => C.1.2.2.2.2 _ (tt_of 488 rfl rfl), (List.forall_mem_cons.mpr ⟨fun _ => C.1.2.2.2.2 _ (tt_of 479 rfl rfl), (List.forall_mem_cons.mpr ⟨fun _ => va_Nw.use rfl (C.2.2.2.2.2.1.2.2.2.2.1 _ (List.mem_of_getElem? (i := 1) rfl)), (List.forall_mem_cons.mpr ⟨fun _ => C.1.2.2.2.2 _ (tt_of 481 rfl rfl), (List.forall_mem_cons.mpr ⟨fun _ => C.1.2.2.2.2 _ (tt_of 407 rfl rfl), (List.forall_mem_cons.mpr ⟨fun _ => C.1.2.2.2.2 _ (tt_of 482 rfl rfl), (List.forall_mem_cons.mpr ⟨fun _ => C.1.2.2.2.2 _ (tt_of 483 rfl rfl), (List.forall_mem_cons.mpr ⟨fun _ => C.1.2.2.2.2 _ (tt_of 484 rfl rfl), (List.forall_mem_cons.mpr ⟨fun _ => C.1.2.2.2.2 _ (tt_of 485 rfl rfl), (List.forall_mem_cons.mpr ⟨fun h => absurd h (by decide +kernel), (List.forall_mem_cons.mpr ⟨fun h => absurd h (by decide +kernel), (List.forall_mem_cons.mpr ⟨fun _ => C.1.2.2.2.2 _ (tt_of 395 rfl rfl), (List.forall_mem_cons.mpr ⟨fun _ => C.1.2.2.2.2 _ (tt_of 394 rfl rfl), (List.forall_mem_cons.mpr ⟨fun _ => C.1.2.2.2.2 _ (tt_of 486 rfl rfl), (fun _ h => absurd h List.not_mem_nil)⟩)⟩)⟩)⟩)⟩)⟩)⟩)⟩)⟩)⟩)⟩)⟩)⟩)⟩)⟩)⟩)⟩)⟩)⟩)⟩)⟩)⟩)⟩)⟩)⟩)⟩)⟩)⟩)⟩)⟩)⟩)⟩)⟩)⟩)⟩)⟩)⟩)⟩)⟩)⟩)⟩)⟩)⟩)⟩)⟩)⟩)⟩)⟩)⟩)⟩)⟩)⟩)⟩)⟩)⟩)⟩)⟩)
  intro w hw
  obtain ⟨h1, h2⟩ := List.mem_filter.mp hw
  exact h w h1 h2
set_option maxRecDepth 20000 in
theorem hgood_IAE : ∀ w ∈ Cond.classLink RX6 77 "java/lang/IllegalArgumentException" :: Cond.initialized "java/lang/IllegalArgumentException" :: vx_atS RX6 81 "java/lang/IllegalArgumentException" ["java/lang/RuntimeException", "java/lang/Exception"], vx_ot w = true := by
  have h : ∀ w ∈ Bundle.ownAtoms RX6 81 "java/lang/IllegalArgumentException" ["java/lang/RuntimeException", "java/lang/Exception"], vx_no w = true → vx_ot w = true := (List.forall_mem_cons.mpr ⟨fun _ => rfl, (List.forall_mem_cons.mpr ⟨fun _ => rfl, (List.forall_mem_cons.mpr ⟨fun _ => rfl, (List.forall_mem_cons.mpr ⟨fun _ => rfl, (List.forall_mem_cons.mpr ⟨fun _ => rfl, (List.forall_mem_cons.mpr ⟨fun _ => rfl, (List.forall_mem_cons.mpr ⟨fun _ => rfl, (List.forall_mem_cons.mpr ⟨fun _ => rfl, (List.forall_mem_cons.mpr ⟨fun _ => rfl, (List.forall_mem_cons.mpr ⟨fun _ => rfl, (List.forall_mem_cons.mpr ⟨fun _ => rfl, (List.forall_mem_cons.mpr ⟨fun _ => rfl, (List.forall_mem_cons.mpr ⟨fun _ => rfl, (List.forall_mem_cons.mpr ⟨fun _ => rfl, (List.forall_mem_cons.mpr ⟨fun _ => rfl, (List.forall_mem_cons.mpr ⟨fun _ => rfl, (List.forall_mem_cons.mpr ⟨fun _ => rfl, (List.forall_mem_cons.mpr ⟨fun _ => rfl, (List.forall_mem_cons.mpr ⟨fun _ => rfl, (List.forall_mem_cons.mpr ⟨fun _ => rfl, (List.forall_mem_cons.mpr ⟨fun h => absurd h (by decide +kernel), (List.forall_mem_cons.mpr ⟨fun _ => rfl, (List.forall_mem_cons.mpr ⟨fun h => absurd h (by decide +kernel), (List.forall_mem_cons.mpr ⟨fun _ => rfl, (List.forall_mem_cons.mpr ⟨fun _ => rfl, (List.forall_mem_cons.mpr ⟨fun _ => rfl, (List.forall_mem_cons.mpr ⟨fun _ => rfl, (List.forall_mem_cons.mpr ⟨fun _ => rfl, (List.forall_mem_cons.mpr ⟨fun _ => rfl, (List.forall_mem_cons.mpr ⟨fun _ => rfl, (List.forall_mem_cons.mpr ⟨fun _ => rfl, (List.forall_mem_cons.mpr ⟨fun _ => rfl, (List.forall_mem_cons.mpr ⟨fun _ => rfl, (List.forall_mem_cons.mpr ⟨fun _ => rfl, (List.forall_mem_cons.mpr ⟨fun _ => rfl, (List.forall_mem_cons.mpr ⟨fun _ => rfl, (List.forall_mem_cons.mpr ⟨fun _ => rfl, (List.forall_mem_cons.mpr ⟨fun _ => rfl, (List.forall_mem_cons.mpr ⟨fun _ => rfl, (List.forall_mem_cons.mpr ⟨fun _ => rfl, (List.forall_mem_cons.mpr ⟨fun _ => rfl, (List.forall_mem_cons.mpr ⟨fun _ => rfl, (List.forall_mem_cons.mpr ⟨fun _ => rfl, (List.forall_mem_cons.mpr ⟨fun _ => rfl, (List.forall_mem_cons.mpr ⟨fun _ => rfl, (List.forall_mem_cons.mpr ⟨fun _ => rfl, (List.forall_mem_cons.mpr ⟨fun _ => rfl, (List.forall_mem_cons.mpr ⟨fun _ => rfl, (List.forall_mem_cons.mpr ⟨fun _ => rfl, (List.forall_mem_cons.mpr ⟨fun _ => rfl, (List.forall_mem_cons.mpr ⟨fun _ => rfl, (List.forall_mem_cons.mpr ⟨fun _ => rfl, (List.forall_mem_cons.mpr ⟨fun h => absurd h (by decide +kernel), (List.forall_mem_cons.mpr ⟨fun h => absurd h (by decide +kernel), (List.forall_mem_cons.mpr ⟨fun _ => rfl, (List.forall_mem_cons.mpr ⟨fun _ => rfl, (List.forall_mem_cons.mpr ⟨fun _ => rfl, (fun _ h => absurd h List.not_mem_nil)⟩)⟩)⟩)⟩)⟩)⟩)⟩)⟩)⟩)⟩)⟩)⟩)⟩)⟩)⟩)⟩)⟩)⟩)⟩)⟩)⟩)⟩)⟩)⟩)⟩)⟩)⟩)⟩)⟩)⟩)⟩)⟩)⟩)⟩)⟩)⟩)⟩)⟩)⟩)⟩)⟩)⟩)⟩)⟩)⟩)⟩)⟩)⟩)⟩)⟩)⟩)⟩)⟩)⟩)⟩)⟩)⟩)
  refine List.forall_mem_cons.mpr ⟨rfl, List.forall_mem_cons.mpr ⟨rfl, ?_⟩⟩
  intro w hw
  obtain ⟨h1, h2⟩ := List.mem_filter.mp hw
  exact h w h1 h2
/-- 'throw new java/lang/IllegalArgumentException(text)' -/
theorem g_th_IAE {K : wK} {G : wG} {cells slots : Nat} {V : wV} {I : wI} {J : wJ} {pc : Nat} {lv : List (Nat × Value)} {cc : ByteArray} {nL : Nat} {rm : Room} {post : wPo} {xp : wPx} (C : Cx K G RX6 cc nL) (hT : ∀ x ∈ (kc K).exceptionTable.toList, False) (is : Nat) {text : String} (hs : (is, text) ∈ wStr)
    (d0 : decode cc pc = .ok (.new 77, 3)) (d3 : decode cc (pc + 3) = .ok (.dup, 1)) (d4 : decode cc (pc + 4) = .ok (.ldc is, 2)) (d6 : decode cc (pc + 6) = .ok (.invokespecial 81, 3)) (d9 : decode cc (pc + 9) = .ok (.athrow, 1))
    (hf : 5 < (kR K).frames) (hlo : 82 ≤ (kR K).locals) (hc1 : cells + 1 ≤ (kR K).cells) (hs1 : slots + 6 ≤ (kR K).slots) (hc : cells + 1 ≤ rm.cells) (hsl : slots + 6 ≤ rm.slots) (hx : xp "java/lang/IllegalArgumentException" V I J) : WW K G cells slots (QM K G rm post xp) V I J pc lv [] := by
  intro H locs ls hP hS hl
  obtain ⟨sa, hsa⟩ := C.2.2.2.2.2.1.2.2.1 _ hs
  exact vx_throwS (ik := 77) (ic := 81) (sa := sa) (names := ["java/lang/RuntimeException", "java/lang/Exception"]) C.1.1 C.1.2.1 C.2.2.2.2.2.2 C.1.2.2.2.1 (by decide +kernel) (by decide +kernel) (C.1.2.2.2.2 _ (tt_of 478 rfl rfl)) (C.1.2.2.2.2 _ (tt_of 44 rfl rfl)) hsa (hat_IAE C) hgood_IAE C.2.2.2.2.2.1.1 C.2.2.2.2.2.1.2.1 hS hl.1 d0 d3 d4 d6 d9 (fun x hx9 => (hT x hx9).elim) hf hlo hc1 hs1 C.2.2.2.2.1
    (fun t _ hz hk => ⟨⟨V, I, J, hx, hP.kept (fun k q hk2 => hk q.1 (hP k q hk2).lt)⟩, ⟨Nat.le_trans hS.1 hz, fun q h1 h2 => by rw [hk q (Nat.lt_of_lt_of_le h1 hS.1)]; exact hS.2.1 q h1 h2⟩⟩) hS.2.2 hc hsl
set_option maxRecDepth 20000 in
theorem hat_IOB {K : wK} {G : wG} {own : String} {cc : ByteArray} {nL : Nat} (C : Cx K G own cc nL) : ∀ w ∈ vx_atS RX6 179 "java/lang/IndexOutOfBoundsException" ["java/lang/RuntimeException", "java/lang/Exception"], w.before (ka K) (ks K) = true := by
  have h : ∀ w ∈ Bundle.ownAtoms RX6 179 "java/lang/IndexOutOfBoundsException" ["java/lang/RuntimeException", "java/lang/Exception"], vx_no w = true → w.before (ka K) (ks K) = true := (List.forall_mem_cons.mpr ⟨fun _ => C.1.2.2.2.2 _ (tt_of 39 rfl rfl), (List.forall_mem_cons.mpr ⟨fun _ => C.1.2.2.2.2 _ (tt_of 396 rfl rfl), (List.forall_mem_cons.mpr ⟨fun _ => C.1.2.2.2.2 _ (tt_of 405 rfl rfl), (List.forall_mem_cons.mpr ⟨fun _ => C.1.2.2.2.2 _ (tt_of 409 rfl rfl), (List.forall_mem_cons.mpr ⟨fun _ => C.1.2.2.2.2 _ (tt_of 412 rfl rfl), (List.forall_mem_cons.mpr ⟨fun _ => C.1.2.2.2.2 _ (tt_of 414 rfl rfl), (List.forall_mem_cons.mpr ⟨fun _ => C.1.2.2.2.2 _ (tt_of 397 rfl rfl), (List.forall_mem_cons.mpr ⟨fun _ => C.1.2.2.2.2 _ (tt_of 398 rfl rfl), (List.forall_mem_cons.mpr ⟨fun _ => C.1.2.2.2.2 _ (tt_of 52 rfl rfl), (List.forall_mem_cons.mpr ⟨fun _ => C.1.2.2.2.2 _ (tt_of 53 rfl rfl), (List.forall_mem_cons.mpr ⟨fun _ => C.1.2.2.2.2 _ (tt_of 399 rfl rfl), (List.forall_mem_cons.mpr ⟨fun _ => C.1.2.2.2.2 _ (tt_of 404 rfl rfl), (List.forall_mem_cons.mpr ⟨fun _ => C.1.2.2.2.2 _ (tt_of 410 rfl rfl), (List.forall_mem_cons.mpr ⟨fun _ => C.1.2.2.2.2 _ (tt_of 430 rfl rfl), (List.forall_mem_cons.mpr ⟨fun _ => C.1.2.2.2.2 _ (tt_of 386 rfl rfl), (List.forall_mem_cons.mpr ⟨fun _ => C.1.2.2.2.2 _ (tt_of 431 rfl rfl), (List.forall_mem_cons.mpr ⟨fun _ => C.1.2.2.2.2 _ (tt_of 388 rfl rfl), (List.forall_mem_cons.mpr ⟨fun _ => C.1.2.2.2.2 _ (tt_of 432 rfl rfl), (List.forall_mem_cons.mpr ⟨fun _ => C.1.2.2.2.2 _ (tt_of 390 rfl rfl), (List.forall_mem_cons.mpr ⟨fun _ => C.1.2.2.2.2 _ (tt_of 400 rfl rfl), (List.forall_mem_cons.mpr ⟨fun h => absurd h (by decide +kernel), (List.forall_mem_cons.mpr ⟨fun _ => C.1.2.2.2.2 _ (tt_of 402 rfl rfl), (List.forall_mem_cons.mpr ⟨fun h => absurd h (by decide +kernel), (List.forall_mem_cons.mpr ⟨fun _ => C.1.2.2.2.2 _ (tt_of 392 rfl rfl), (List.forall_mem_cons.mpr ⟨fun _ => C.1.2.2.2.2 _ (tt_of 426 rfl rfl), (List.forall_mem_cons.mpr ⟨fun _ => C.1.2.2.2.2 _ (tt_of 427 rfl rfl), (List.forall_mem_cons.mpr ⟨fun _ => C.1.2.2.2.2 _ (tt_of 429 rfl rfl), (List.forall_mem_cons.mpr ⟨fun _ => C.1.2.2.2.2 _ (tt_of 392 rfl rfl), (List.forall_mem_cons.mpr ⟨fun _ => C.1.2.2.2.2 _ (tt_of 470 rfl rfl), (List.forall_mem_cons.mpr ⟨fun _ => C.1.2.2.2.2 _ (tt_of 471 rfl rfl), (List.forall_mem_cons.mpr ⟨fun _ => C.1.2.2.2.2 _ (tt_of 472 rfl rfl), (List.forall_mem_cons.mpr ⟨fun _ => C.1.2.2.2.2 _ (tt_of 420 rfl rfl), (List.forall_mem_cons.mpr ⟨fun _ => va_Nw.use rfl (C.2.2.2.2.2.1.2.2.2.2.2.2 _ (List.mem_of_getElem? (i := 0) rfl)), (List.forall_mem_cons.mpr ⟨fun _ => C.1.2.2.2.2 _ (tt_of 420 rfl rfl), (List.forall_mem_cons.mpr ⟨fun _ => C.1.2.2.2.2 _ (tt_of 421 rfl rfl), (List.forall_mem_cons.mpr ⟨fun _ => C.1.2.2.2.2 _ (tt_of 422 rfl rfl), (List.forall_mem_cons.mpr ⟨fun _ => C.1.2.2.2.2 _ (tt_of 423 rfl rfl), (List.forall_mem_cons.mpr ⟨fun _ => va_Nw.use rfl (C.2.2.2.2.2.1.2.2.2.2.2.2 _ (List.mem_of_getElem? (i := 1) rfl)), (List.forall_mem_cons.mpr ⟨fun _ => C.1.2.2.2.2 _ (tt_of 423 rfl rfl), (List.forall_mem_cons.mpr ⟨fun _ => C.1.2.2.2.2 _ (tt_of 424 rfl rfl), (List.forall_mem_cons.mpr ⟨fun _ => C.1.2.2.2.2 _ (tt_of 425 rfl rfl), (List.forall_mem_cons.mpr ⟨fun _ => C.1.2.2.2.2 _ (tt_of 426 rfl rfl), (List.forall_mem_cons.mpr ⟨fun _ => va_Nw.use rfl (C.2.2.2.2.2.1.2.2.2.2.2.2 _ (List.mem_of_getElem? (i := 2) rfl)), (List.forall_mem_cons.mpr ⟨fun _ => C.1.2.2.2.2 _ (tt_of 469 rfl rfl), (List.forall_mem_cons.mpr ⟨fun _ => C.1.2.2.2.2 _ (tt_of 460 rfl rfl), (List.forall_mem_cons.mpr ⟨fun _ => va_Nw.use rfl (C.2.2.2.2.2.1.2.2.2.2.1 _ (List.mem_of_getElem? (i := 2) rfl)), (List.forall_mem_cons.mpr ⟨fun _ => C.1.2.2.2.2 _ (tt_of 462 rfl rfl), (List.forall_mem_cons.mpr ⟨fun _ => C.1.2.2.2.2 _ (tt_of 408 rfl rfl), (List.forall_mem_cons.mpr ⟨fun _ => C.1.2.2.2.2 _ (tt_of 463 rfl rfl), (List.forall_mem_cons.mpr ⟨fun _ => C.1.2.2.2.2 _ (tt_of 464 rfl rfl), (List.forall_mem_cons.mpr ⟨fun _ => C.1.2.2.2.2 _ (tt_of 465 rfl rfl), (List.forall_mem_cons.mpr ⟨fun _ => C.1.2.2.2.2 _ (tt_of 466 rfl rfl), (List.forall_mem_cons.mpr ⟨fun h => absurd h (by decide +kernel), (List.forall_mem_cons.mpr ⟨fun h => absurd h (by decide +kernel), (List.forall_mem_cons.mpr ⟨fun _ => C.1.2.2.2.2 _ (tt_of 395 rfl rfl), (List.forall_mem_cons.mpr ⟨fun _ => C.1.2.2.2.2 _ (tt_of 394 rfl rfl), (List.forall_mem_cons.mpr ⟨fun _ => C.1.2.2.2.2 _ (tt_of 467 rfl rfl), (fun _ h => absurd h List.not_mem_nil)⟩)⟩)⟩)⟩)⟩)⟩)⟩)⟩)⟩)⟩)⟩)⟩)⟩)⟩)⟩)⟩)⟩)⟩)⟩)⟩)⟩)⟩)⟩)⟩)⟩)⟩)⟩)⟩)⟩)⟩)⟩)⟩)⟩)⟩)⟩)⟩)⟩)⟩)⟩)⟩)⟩)⟩)⟩)⟩)⟩)⟩)⟩)⟩)⟩)⟩)⟩)⟩)⟩)⟩)⟩)⟩)⟩)
  intro w hw
  obtain ⟨h1, h2⟩ := List.mem_filter.mp hw
  exact h w h1 h2
set_option maxRecDepth 20000 in
theorem hgood_IOB : ∀ w ∈ Cond.classLink RX6 175 "java/lang/IndexOutOfBoundsException" :: Cond.initialized "java/lang/IndexOutOfBoundsException" :: vx_atS RX6 179 "java/lang/IndexOutOfBoundsException" ["java/lang/RuntimeException", "java/lang/Exception"], vx_ot w = true := by
  have h : ∀ w ∈ Bundle.ownAtoms RX6 179 "java/lang/IndexOutOfBoundsException" ["java/lang/RuntimeException", "java/lang/Exception"], vx_no w = true → vx_ot w = true := (List.forall_mem_cons.mpr ⟨fun _ => rfl, (List.forall_mem_cons.mpr ⟨fun _ => rfl, (List.forall_mem_cons.mpr ⟨fun _ => rfl, (List.forall_mem_cons.mpr ⟨fun _ => rfl, (List.forall_mem_cons.mpr ⟨fun _ => rfl, (List.forall_mem_cons.mpr ⟨fun _ => rfl, (List.forall_mem_cons.mpr ⟨fun _ => rfl, (List.forall_mem_cons.mpr ⟨fun _ => rfl, (List.forall_mem_cons.mpr ⟨fun _ => rfl, (List.forall_mem_cons.mpr ⟨fun _ => rfl, (List.forall_mem_cons.mpr ⟨fun _ => rfl, (List.forall_mem_cons.mpr ⟨fun _ => rfl, (List.forall_mem_cons.mpr ⟨fun _ => rfl, (List.forall_mem_cons.mpr ⟨fun _ => rfl, (List.forall_mem_cons.mpr ⟨fun _ => rfl, (List.forall_mem_cons.mpr ⟨fun _ => rfl, (List.forall_mem_cons.mpr ⟨fun _ => rfl, (List.forall_mem_cons.mpr ⟨fun _ => rfl, (List.forall_mem_cons.mpr ⟨fun _ => rfl, (List.forall_mem_cons.mpr ⟨fun _ => rfl, (List.forall_mem_cons.mpr ⟨fun h => absurd h (by decide +kernel), (List.forall_mem_cons.mpr ⟨fun _ => rfl, (List.forall_mem_cons.mpr ⟨fun h => absurd h (by decide +kernel), (List.forall_mem_cons.mpr ⟨fun _ => rfl, (List.forall_mem_cons.mpr ⟨fun _ => rfl, (List.forall_mem_cons.mpr ⟨fun _ => rfl, (List.forall_mem_cons.mpr ⟨fun _ => rfl, (List.forall_mem_cons.mpr ⟨fun _ => rfl, (List.forall_mem_cons.mpr ⟨fun _ => rfl, (List.forall_mem_cons.mpr ⟨fun _ => rfl, (List.forall_mem_cons.mpr ⟨fun _ => rfl, (List.forall_mem_cons.mpr ⟨fun _ => rfl, (List.forall_mem_cons.mpr ⟨fun _ => rfl, (List.forall_mem_cons.mpr ⟨fun _ => rfl, (List.forall_mem_cons.mpr ⟨fun _ => rfl, (List.forall_mem_cons.mpr ⟨fun _ => rfl, (List.forall_mem_cons.mpr ⟨fun _ => rfl, (List.forall_mem_cons.mpr ⟨fun _ => rfl, (List.forall_mem_cons.mpr ⟨fun _ => rfl, (List.forall_mem_cons.mpr ⟨fun _ => rfl, (List.forall_mem_cons.mpr ⟨fun _ => rfl, (List.forall_mem_cons.mpr ⟨fun _ => rfl, (List.forall_mem_cons.mpr ⟨fun _ => rfl, (List.forall_mem_cons.mpr ⟨fun _ => rfl, (List.forall_mem_cons.mpr ⟨fun _ => rfl, (List.forall_mem_cons.mpr ⟨fun _ => rfl, (List.forall_mem_cons.mpr ⟨fun _ => rfl, (List.forall_mem_cons.mpr ⟨fun _ => rfl, (List.forall_mem_cons.mpr ⟨fun _ => rfl, (List.forall_mem_cons.mpr ⟨fun _ => rfl, (List.forall_mem_cons.mpr ⟨fun _ => rfl, (List.forall_mem_cons.mpr ⟨fun _ => rfl, (List.forall_mem_cons.mpr ⟨fun h => absurd h (by decide +kernel), (List.forall_mem_cons.mpr ⟨fun h => absurd h (by decide +kernel), (List.forall_mem_cons.mpr ⟨fun _ => rfl, (List.forall_mem_cons.mpr ⟨fun _ => rfl, (List.forall_mem_cons.mpr ⟨fun _ => rfl, (fun _ h => absurd h List.not_mem_nil)⟩)⟩)⟩)⟩)⟩)⟩)⟩)⟩)⟩)⟩)⟩)⟩)⟩)⟩)⟩)⟩)⟩)⟩)⟩)⟩)⟩)⟩)⟩)⟩)⟩)⟩)⟩)⟩)⟩)⟩)⟩)⟩)⟩)⟩)⟩)⟩)⟩)⟩)⟩)⟩)⟩)⟩)⟩)⟩)⟩)⟩)⟩)⟩)⟩)⟩)⟩)⟩)⟩)⟩)⟩)⟩)⟩)
  refine List.forall_mem_cons.mpr ⟨rfl, List.forall_mem_cons.mpr ⟨rfl, ?_⟩⟩
  intro w hw
  obtain ⟨h1, h2⟩ := List.mem_filter.mp hw
  exact h w h1 h2
/-- 'throw new java/lang/IndexOutOfBoundsException(text)' -/
theorem g_th_IOB {K : wK} {G : wG} {cells slots : Nat} {V : wV} {I : wI} {J : wJ} {pc : Nat} {lv : List (Nat × Value)} {cc : ByteArray} {nL : Nat} {rm : Room} {post : wPo} {xp : wPx} (C : Cx K G RX6 cc nL) (hT : ∀ x ∈ (kc K).exceptionTable.toList, False) (is : Nat) {text : String} (hs : (is, text) ∈ wStr)
    (d0 : decode cc pc = .ok (.new 175, 3)) (d3 : decode cc (pc + 3) = .ok (.dup, 1)) (d4 : decode cc (pc + 4) = .ok (.ldc is, 2)) (d6 : decode cc (pc + 6) = .ok (.invokespecial 179, 3)) (d9 : decode cc (pc + 9) = .ok (.athrow, 1))
    (hf : 5 < (kR K).frames) (hlo : 82 ≤ (kR K).locals) (hc1 : cells + 1 ≤ (kR K).cells) (hs1 : slots + 6 ≤ (kR K).slots) (hc : cells + 1 ≤ rm.cells) (hsl : slots + 6 ≤ rm.slots) (hx : xp "java/lang/IndexOutOfBoundsException" V I J) : WW K G cells slots (QM K G rm post xp) V I J pc lv [] := by
  intro H locs ls hP hS hl
  obtain ⟨sa, hsa⟩ := C.2.2.2.2.2.1.2.2.1 _ hs
  exact vx_throwS (ik := 175) (ic := 179) (sa := sa) (names := ["java/lang/RuntimeException", "java/lang/Exception"]) C.1.1 C.1.2.1 C.2.2.2.2.2.2 C.1.2.2.2.1 (by decide +kernel) (by decide +kernel) (C.1.2.2.2.2 _ (tt_of 459 rfl rfl)) (C.1.2.2.2.2 _ (tt_of 43 rfl rfl)) hsa (hat_IOB C) hgood_IOB C.2.2.2.2.2.1.1 C.2.2.2.2.2.1.2.1 hS hl.1 d0 d3 d4 d6 d9 (fun x hx9 => (hT x hx9).elim) hf hlo hc1 hs1 C.2.2.2.2.1
    (fun t _ hz hk => ⟨⟨V, I, J, hx, hP.kept (fun k q hk2 => hk q.1 (hP k q hk2).lt)⟩, ⟨Nat.le_trans hS.1 hz, fun q h1 h2 => by rw [hk q (Nat.lt_of_lt_of_le h1 hS.1)]; exact hS.2.1 q h1 h2⟩⟩) hS.2.2 hc hsl
end
section
set_option maxRecDepth 20000 in
theorem inT0 : ∀ w ∈ u_ws RX0 TX0 4, w ∈ TT := (List.forall_mem_cons.mpr ⟨tt_of 219 rfl rfl, (List.forall_mem_cons.mpr ⟨tt_of 221 rfl rfl, (List.forall_mem_cons.mpr ⟨tt_of 223 rfl rfl, (List.forall_mem_cons.mpr ⟨tt_of 225 rfl rfl, (fun _ h => absurd h List.not_mem_nil)⟩)⟩)⟩)⟩)
set_option maxRecDepth 20000 in
theorem inT1 : ∀ w ∈ u_ws RX1 TX1 7, w ∈ TT := (List.forall_mem_cons.mpr ⟨tt_of 190 rfl rfl, (List.forall_mem_cons.mpr ⟨tt_of 192 rfl rfl, (List.forall_mem_cons.mpr ⟨tt_of 194 rfl rfl, (List.forall_mem_cons.mpr ⟨tt_of 196 rfl rfl, (List.forall_mem_cons.mpr ⟨tt_of 198 rfl rfl, (List.forall_mem_cons.mpr ⟨tt_of 200 rfl rfl, (List.forall_mem_cons.mpr ⟨tt_of 202 rfl rfl, (fun _ h => absurd h List.not_mem_nil)⟩)⟩)⟩)⟩)⟩)⟩)⟩)
set_option maxRecDepth 20000 in
theorem inT2 : ∀ w ∈ u_ws RX2 TX2 6, w ∈ TT := (List.forall_mem_cons.mpr ⟨tt_of 125 rfl rfl, (List.forall_mem_cons.mpr ⟨tt_of 127 rfl rfl, (List.forall_mem_cons.mpr ⟨tt_of 129 rfl rfl, (List.forall_mem_cons.mpr ⟨tt_of 131 rfl rfl, (List.forall_mem_cons.mpr ⟨tt_of 133 rfl rfl, (List.forall_mem_cons.mpr ⟨tt_of 135 rfl rfl, (fun _ h => absurd h List.not_mem_nil)⟩)⟩)⟩)⟩)⟩)⟩)
set_option maxRecDepth 20000 in
theorem inT3 : ∀ w ∈ u_ws RX3 TX3 6, w ∈ TT := (List.forall_mem_cons.mpr ⟨tt_of 156 rfl rfl, (List.forall_mem_cons.mpr ⟨tt_of 158 rfl rfl, (List.forall_mem_cons.mpr ⟨tt_of 160 rfl rfl, (List.forall_mem_cons.mpr ⟨tt_of 162 rfl rfl, (List.forall_mem_cons.mpr ⟨tt_of 164 rfl rfl, (List.forall_mem_cons.mpr ⟨tt_of 166 rfl rfl, (fun _ h => absurd h List.not_mem_nil)⟩)⟩)⟩)⟩)⟩)⟩)
set_option maxRecDepth 20000 in
theorem inT4 : ∀ w ∈ u_ws RX4 TX4 7, w ∈ TT := (List.forall_mem_cons.mpr ⟨tt_of 75 rfl rfl, (List.forall_mem_cons.mpr ⟨tt_of 77 rfl rfl, (List.forall_mem_cons.mpr ⟨tt_of 79 rfl rfl, (List.forall_mem_cons.mpr ⟨tt_of 81 rfl rfl, (List.forall_mem_cons.mpr ⟨tt_of 83 rfl rfl, (List.forall_mem_cons.mpr ⟨tt_of 85 rfl rfl, (List.forall_mem_cons.mpr ⟨tt_of 87 rfl rfl, (fun _ h => absurd h List.not_mem_nil)⟩)⟩)⟩)⟩)⟩)⟩)⟩)
set_option maxRecDepth 20000 in
theorem inT5 : ∀ w ∈ u_ws RX5 TX5 3, w ∈ TT := (List.forall_mem_cons.mpr ⟨tt_of 103 rfl rfl, (List.forall_mem_cons.mpr ⟨tt_of 105 rfl rfl, (List.forall_mem_cons.mpr ⟨tt_of 107 rfl rfl, (fun _ h => absurd h List.not_mem_nil)⟩)⟩)⟩)
set_option maxRecDepth 20000 in
theorem inT6 : ∀ w ∈ u_ws RX6 TX6 7, w ∈ TT := (List.forall_mem_cons.mpr ⟨tt_of 236 rfl rfl, (List.forall_mem_cons.mpr ⟨tt_of 238 rfl rfl, (List.forall_mem_cons.mpr ⟨tt_of 240 rfl rfl, (List.forall_mem_cons.mpr ⟨tt_of 242 rfl rfl, (List.forall_mem_cons.mpr ⟨tt_of 244 rfl rfl, (List.forall_mem_cons.mpr ⟨tt_of 246 rfl rfl, (List.forall_mem_cons.mpr ⟨tt_of 248 rfl rfl, (fun _ h => absurd h List.not_mem_nil)⟩)⟩)⟩)⟩)⟩)⟩)⟩)
set_option maxRecDepth 20000 in
theorem inT7 : ∀ w ∈ u_ws RX7 TX7 37, w ∈ TT := (List.forall_mem_cons.mpr ⟨tt_of 723 rfl rfl, (List.forall_mem_cons.mpr ⟨tt_of 725 rfl rfl, (List.forall_mem_cons.mpr ⟨tt_of 727 rfl rfl, (List.forall_mem_cons.mpr ⟨tt_of 729 rfl rfl, (List.forall_mem_cons.mpr ⟨tt_of 731 rfl rfl, (List.forall_mem_cons.mpr ⟨tt_of 733 rfl rfl, (List.forall_mem_cons.mpr ⟨tt_of 735 rfl rfl, (List.forall_mem_cons.mpr ⟨tt_of 737 rfl rfl, (List.forall_mem_cons.mpr ⟨tt_of 739 rfl rfl, (List.forall_mem_cons.mpr ⟨tt_of 741 rfl rfl, (List.forall_mem_cons.mpr ⟨tt_of 743 rfl rfl, (List.forall_mem_cons.mpr ⟨tt_of 745 rfl rfl, (List.forall_mem_cons.mpr ⟨tt_of 747 rfl rfl, (List.forall_mem_cons.mpr ⟨tt_of 749 rfl rfl, (List.forall_mem_cons.mpr ⟨tt_of 751 rfl rfl, (List.forall_mem_cons.mpr ⟨tt_of 753 rfl rfl, (List.forall_mem_cons.mpr ⟨tt_of 755 rfl rfl, (List.forall_mem_cons.mpr ⟨tt_of 757 rfl rfl, (List.forall_mem_cons.mpr ⟨tt_of 759 rfl rfl, (List.forall_mem_cons.mpr ⟨tt_of 761 rfl rfl, (List.forall_mem_cons.mpr ⟨tt_of 763 rfl rfl, (List.forall_mem_cons.mpr ⟨tt_of 765 rfl rfl, (List.forall_mem_cons.mpr ⟨tt_of 767 rfl rfl, (List.forall_mem_cons.mpr ⟨tt_of 769 rfl rfl, (List.forall_mem_cons.mpr ⟨tt_of 771 rfl rfl, (List.forall_mem_cons.mpr ⟨tt_of 773 rfl rfl, (List.forall_mem_cons.mpr ⟨tt_of 775 rfl rfl, (List.forall_mem_cons.mpr ⟨tt_of 777 rfl rfl, (List.forall_mem_cons.mpr ⟨tt_of 779 rfl rfl, (List.forall_mem_cons.mpr ⟨tt_of 781 rfl rfl, (List.forall_mem_cons.mpr ⟨tt_of 783 rfl rfl, (List.forall_mem_cons.mpr ⟨tt_of 785 rfl rfl, (List.forall_mem_cons.mpr ⟨tt_of 787 rfl rfl, (List.forall_mem_cons.mpr ⟨tt_of 789 rfl rfl, (List.forall_mem_cons.mpr ⟨tt_of 791 rfl rfl, (List.forall_mem_cons.mpr ⟨tt_of 793 rfl rfl, (List.forall_mem_cons.mpr ⟨tt_of 795 rfl rfl, (fun _ h => absurd h List.not_mem_nil)⟩)⟩)⟩)⟩)⟩)⟩)⟩)⟩)⟩)⟩)⟩)⟩)⟩)⟩)⟩)⟩)⟩)⟩)⟩)⟩)⟩)⟩)⟩)⟩)⟩)⟩)⟩)⟩)⟩)⟩)⟩)⟩)⟩)⟩)⟩)⟩)⟩)
end
section
theorem dX0_init_0 : decode cX0_init 0 = .ok (.aload_n 0, 1) := by decide +kernel
theorem dX0_init_1 : decode cX0_init 1 = .ok (.invokespecial 3, 3) := by decide +kernel
theorem dX0_init_4 : decode cX0_init 4 = .ok (.aload_n 0, 1) := by decide +kernel
theorem dX0_init_5 : decode cX0_init 5 = .ok (.bipush 6, 2) := by decide +kernel
theorem dX0_init_7 : decode cX0_init 7 = .ok (.newarray .long, 2) := by decide +kernel
theorem dX0_init_9 : decode cX0_init 9 = .ok (.putfield 9, 3) := by decide +kernel
theorem dX0_init_12 : decode cX0_init 12 = .ok (.aload_n 0, 1) := by decide +kernel
theorem dX0_init_13 : decode cX0_init 13 = .ok (.bipush 10, 2) := by decide +kernel
theorem dX0_init_15 : decode cX0_init 15 = .ok (.newarray .long, 2) := by decide +kernel
theorem dX0_init_17 : decode cX0_init 17 = .ok (.putfield 15, 3) := by decide +kernel
theorem dX0_init_20 : decode cX0_init 20 = .ok (.aload_n 0, 1) := by decide +kernel
theorem dX0_init_21 : decode cX0_init 21 = .ok (.bipush 10, 2) := by decide +kernel
theorem dX0_init_23 : decode cX0_init 23 = .ok (.newarray .long, 2) := by decide +kernel
theorem dX0_init_25 : decode cX0_init 25 = .ok (.putfield 18, 3) := by decide +kernel
theorem dX0_init_28 : decode cX0_init 28 = .ok (.aload_n 0, 1) := by decide +kernel
theorem dX0_init_29 : decode cX0_init 29 = .ok (.iconst 4, 1) := by decide +kernel
theorem dX0_init_30 : decode cX0_init 30 = .ok (.newarray .long, 2) := by decide +kernel
theorem dX0_init_32 : decode cX0_init 32 = .ok (.putfield 21, 3) := by decide +kernel
theorem dX0_init_35 : decode cX0_init 35 = .ok (.return_, 1) := by decide +kernel
theorem dX0_forgetShares_0 : decode cX0_forgetShares 0 = .ok (.iconst 0, 1) := by decide +kernel
theorem dX0_forgetShares_1 : decode cX0_forgetShares 1 = .ok (.istore_n 1, 1) := by decide +kernel
theorem dX0_forgetShares_2 : decode cX0_forgetShares 2 = .ok (.iload_n 1, 1) := by decide +kernel
theorem dX0_forgetShares_3 : decode cX0_forgetShares 3 = .ok (.iconst 4, 1) := by decide +kernel
theorem dX0_forgetShares_4 : decode cX0_forgetShares 4 = .ok (.if_icmp .ge 16, 3) := by decide +kernel
theorem dX0_forgetShares_7 : decode cX0_forgetShares 7 = .ok (.aload_n 0, 1) := by decide +kernel
theorem dX0_forgetShares_8 : decode cX0_forgetShares 8 = .ok (.getfield 21, 3) := by decide +kernel
theorem dX0_forgetShares_11 : decode cX0_forgetShares 11 = .ok (.iload_n 1, 1) := by decide +kernel
theorem dX0_forgetShares_12 : decode cX0_forgetShares 12 = .ok (.lconst 0, 1) := by decide +kernel
theorem dX0_forgetShares_13 : decode cX0_forgetShares 13 = .ok (.lastore, 1) := by decide +kernel
theorem dX0_forgetShares_14 : decode cX0_forgetShares 14 = .ok (.iinc 1 1, 3) := by decide +kernel
theorem dX0_forgetShares_17 : decode cX0_forgetShares 17 = .ok (.goto (-15), 3) := by decide +kernel
theorem dX0_forgetShares_20 : decode cX0_forgetShares 20 = .ok (.return_, 1) := by decide +kernel
theorem dX0_charge_0 : decode cX0_charge 0 = .ok (.lload_n 3, 1) := by decide +kernel
theorem dX0_charge_1 : decode cX0_charge 1 = .ok (.aload_n 0, 1) := by decide +kernel
theorem dX0_charge_2 : decode cX0_charge 2 = .ok (.getfield 18, 3) := by decide +kernel
theorem dX0_charge_5 : decode cX0_charge 5 = .ok (.iload_n 1, 1) := by decide +kernel
theorem dX0_charge_6 : decode cX0_charge 6 = .ok (.laload, 1) := by decide +kernel
theorem dX0_charge_7 : decode cX0_charge 7 = .ok (.lsub, 1) := by decide +kernel
theorem dX0_charge_8 : decode cX0_charge 8 = .ok (.lstore 5, 2) := by decide +kernel
theorem dX0_charge_10 : decode cX0_charge 10 = .ok (.aload_n 0, 1) := by decide +kernel
theorem dX0_charge_11 : decode cX0_charge 11 = .ok (.getfield 18, 3) := by decide +kernel
theorem dX0_charge_14 : decode cX0_charge 14 = .ok (.iload_n 1, 1) := by decide +kernel
theorem dX0_charge_15 : decode cX0_charge 15 = .ok (.lload_n 3, 1) := by decide +kernel
theorem dX0_charge_16 : decode cX0_charge 16 = .ok (.lastore, 1) := by decide +kernel
theorem dX0_charge_17 : decode cX0_charge 17 = .ok (.iload_n 2, 1) := by decide +kernel
theorem dX0_charge_18 : decode cX0_charge 18 = .ok (.iconst (-1), 1) := by decide +kernel
theorem dX0_charge_19 : decode cX0_charge 19 = .ok (.if_icmp .ne 17, 3) := by decide +kernel
theorem dX0_charge_22 : decode cX0_charge 22 = .ok (.aload_n 0, 1) := by decide +kernel
theorem dX0_charge_23 : decode cX0_charge 23 = .ok (.getfield 15, 3) := by decide +kernel
theorem dX0_charge_26 : decode cX0_charge 26 = .ok (.iload_n 1, 1) := by decide +kernel
theorem dX0_charge_27 : decode cX0_charge 27 = .ok (.dup2, 1) := by decide +kernel
theorem dX0_charge_28 : decode cX0_charge 28 = .ok (.laload, 1) := by decide +kernel
theorem dX0_charge_29 : decode cX0_charge 29 = .ok (.lload 5, 2) := by decide +kernel
theorem dX0_charge_31 : decode cX0_charge 31 = .ok (.lsub, 1) := by decide +kernel
theorem dX0_charge_32 : decode cX0_charge 32 = .ok (.lastore, 1) := by decide +kernel
theorem dX0_charge_33 : decode cX0_charge 33 = .ok (.goto 14, 3) := by decide +kernel
theorem dX0_charge_36 : decode cX0_charge 36 = .ok (.aload_n 0, 1) := by decide +kernel
theorem dX0_charge_37 : decode cX0_charge 37 = .ok (.getfield 9, 3) := by decide +kernel
theorem dX0_charge_40 : decode cX0_charge 40 = .ok (.iload_n 2, 1) := by decide +kernel
theorem dX0_charge_41 : decode cX0_charge 41 = .ok (.dup2, 1) := by decide +kernel
theorem dX0_charge_42 : decode cX0_charge 42 = .ok (.laload, 1) := by decide +kernel
theorem dX0_charge_43 : decode cX0_charge 43 = .ok (.lload 5, 2) := by decide +kernel
theorem dX0_charge_45 : decode cX0_charge 45 = .ok (.lsub, 1) := by decide +kernel
theorem dX0_charge_46 : decode cX0_charge 46 = .ok (.lastore, 1) := by decide +kernel
theorem dX0_charge_47 : decode cX0_charge 47 = .ok (.lload 5, 2) := by decide +kernel
theorem dX0_charge_49 : decode cX0_charge 49 = .ok (.lreturn, 1) := by decide +kernel
theorem dX1_init_0 : decode cX1_init 0 = .ok (.aload_n 0, 1) := by decide +kernel
theorem dX1_init_1 : decode cX1_init 1 = .ok (.invokespecial 3, 3) := by decide +kernel
theorem dX1_init_4 : decode cX1_init 4 = .ok (.aload_n 0, 1) := by decide +kernel
theorem dX1_init_5 : decode cX1_init 5 = .ok (.bipush 100, 2) := by decide +kernel
theorem dX1_init_7 : decode cX1_init 7 = .ok (.newarray .int, 2) := by decide +kernel
theorem dX1_init_9 : decode cX1_init 9 = .ok (.putfield 9, 3) := by decide +kernel
theorem dX1_init_12 : decode cX1_init 12 = .ok (.aload_n 0, 1) := by decide +kernel
theorem dX1_init_13 : decode cX1_init 13 = .ok (.bipush 100, 2) := by decide +kernel
theorem dX1_init_15 : decode cX1_init 15 = .ok (.newarray .int, 2) := by decide +kernel
theorem dX1_init_17 : decode cX1_init 17 = .ok (.putfield 15, 3) := by decide +kernel
theorem dX1_init_20 : decode cX1_init 20 = .ok (.aload_n 0, 1) := by decide +kernel
theorem dX1_init_21 : decode cX1_init 21 = .ok (.bipush 100, 2) := by decide +kernel
theorem dX1_init_23 : decode cX1_init 23 = .ok (.newarray .int, 2) := by decide +kernel
theorem dX1_init_25 : decode cX1_init 25 = .ok (.putfield 18, 3) := by decide +kernel
theorem dX1_init_28 : decode cX1_init 28 = .ok (.aload_n 0, 1) := by decide +kernel
theorem dX1_init_29 : decode cX1_init 29 = .ok (.iconst 4, 1) := by decide +kernel
theorem dX1_init_30 : decode cX1_init 30 = .ok (.bipush 100, 2) := by decide +kernel
theorem dX1_init_32 : decode cX1_init 32 = .ok (.multianewarray 21 2, 4) := by decide +kernel
theorem dX1_init_36 : decode cX1_init 36 = .ok (.putfield 23, 3) := by decide +kernel
theorem dX1_init_39 : decode cX1_init 39 = .ok (.aload_n 0, 1) := by decide +kernel
theorem dX1_init_40 : decode cX1_init 40 = .ok (.bipush 100, 2) := by decide +kernel
theorem dX1_init_42 : decode cX1_init 42 = .ok (.newarray .int, 2) := by decide +kernel
theorem dX1_init_44 : decode cX1_init 44 = .ok (.putfield 26, 3) := by decide +kernel
theorem dX1_init_47 : decode cX1_init 47 = .ok (.aload_n 0, 1) := by decide +kernel
theorem dX1_init_48 : decode cX1_init 48 = .ok (.bipush 100, 2) := by decide +kernel
theorem dX1_init_50 : decode cX1_init 50 = .ok (.newarray .boolean, 2) := by decide +kernel
theorem dX1_init_52 : decode cX1_init 52 = .ok (.putfield 29, 3) := by decide +kernel
theorem dX1_init_55 : decode cX1_init 55 = .ok (.aload_n 0, 1) := by decide +kernel
theorem dX1_init_56 : decode cX1_init 56 = .ok (.iconst 0, 1) := by decide +kernel
theorem dX1_init_57 : decode cX1_init 57 = .ok (.putfield 33, 3) := by decide +kernel
theorem dX1_init_60 : decode cX1_init 60 = .ok (.return_, 1) := by decide +kernel
theorem dX1_forgetAll_0 : decode cX1_forgetAll 0 = .ok (.aload_n 0, 1) := by decide +kernel
theorem dX1_forgetAll_1 : decode cX1_forgetAll 1 = .ok (.iconst 0, 1) := by decide +kernel
theorem dX1_forgetAll_2 : decode cX1_forgetAll 2 = .ok (.putfield 33, 3) := by decide +kernel
theorem dX1_forgetAll_5 : decode cX1_forgetAll 5 = .ok (.return_, 1) := by decide +kernel
theorem dX1_begin_0 : decode cX1_begin 0 = .ok (.aload_n 0, 1) := by decide +kernel
theorem dX1_begin_1 : decode cX1_begin 1 = .ok (.getfield 33, 3) := by decide +kernel
theorem dX1_begin_4 : decode cX1_begin 4 = .ok (.istore_n 3, 1) := by decide +kernel
theorem dX1_begin_5 : decode cX1_begin 5 = .ok (.aload_n 0, 1) := by decide +kernel
theorem dX1_begin_6 : decode cX1_begin 6 = .ok (.getfield 9, 3) := by decide +kernel
theorem dX1_begin_9 : decode cX1_begin 9 = .ok (.iload_n 3, 1) := by decide +kernel
theorem dX1_begin_10 : decode cX1_begin 10 = .ok (.iload_n 2, 1) := by decide +kernel
theorem dX1_begin_11 : decode cX1_begin 11 = .ok (.iastore, 1) := by decide +kernel
theorem dX1_begin_12 : decode cX1_begin 12 = .ok (.aload_n 0, 1) := by decide +kernel
theorem dX1_begin_13 : decode cX1_begin 13 = .ok (.getfield 15, 3) := by decide +kernel
theorem dX1_begin_16 : decode cX1_begin 16 = .ok (.iload_n 3, 1) := by decide +kernel
theorem dX1_begin_17 : decode cX1_begin 17 = .ok (.iload_n 2, 1) := by decide +kernel
theorem dX1_begin_18 : decode cX1_begin 18 = .ok (.iastore, 1) := by decide +kernel
theorem dX1_begin_19 : decode cX1_begin 19 = .ok (.aload_n 0, 1) := by decide +kernel
theorem dX1_begin_20 : decode cX1_begin 20 = .ok (.getfield 18, 3) := by decide +kernel
theorem dX1_begin_23 : decode cX1_begin 23 = .ok (.iload_n 3, 1) := by decide +kernel
theorem dX1_begin_24 : decode cX1_begin 24 = .ok (.iconst 1, 1) := by decide +kernel
theorem dX1_begin_25 : decode cX1_begin 25 = .ok (.iastore, 1) := by decide +kernel
theorem dX1_begin_26 : decode cX1_begin 26 = .ok (.iconst 0, 1) := by decide +kernel
theorem dX1_begin_27 : decode cX1_begin 27 = .ok (.istore 4, 2) := by decide +kernel
theorem dX1_begin_29 : decode cX1_begin 29 = .ok (.iload 4, 2) := by decide +kernel
theorem dX1_begin_31 : decode cX1_begin 31 = .ok (.iconst 4, 1) := by decide +kernel
theorem dX1_begin_32 : decode cX1_begin 32 = .ok (.if_icmp .ge 19, 3) := by decide +kernel
theorem dX1_begin_35 : decode cX1_begin 35 = .ok (.aload_n 0, 1) := by decide +kernel
theorem dX1_begin_36 : decode cX1_begin 36 = .ok (.getfield 23, 3) := by decide +kernel
theorem dX1_begin_39 : decode cX1_begin 39 = .ok (.iload 4, 2) := by decide +kernel
theorem dX1_begin_41 : decode cX1_begin 41 = .ok (.aaload, 1) := by decide +kernel
theorem dX1_begin_42 : decode cX1_begin 42 = .ok (.iload_n 3, 1) := by decide +kernel
theorem dX1_begin_43 : decode cX1_begin 43 = .ok (.iconst 0, 1) := by decide +kernel
theorem dX1_begin_44 : decode cX1_begin 44 = .ok (.iastore, 1) := by decide +kernel
theorem dX1_begin_45 : decode cX1_begin 45 = .ok (.iinc 4 1, 3) := by decide +kernel
theorem dX1_begin_48 : decode cX1_begin 48 = .ok (.goto (-19), 3) := by decide +kernel
theorem dX1_begin_51 : decode cX1_begin 51 = .ok (.aload_n 0, 1) := by decide +kernel
theorem dX1_begin_52 : decode cX1_begin 52 = .ok (.getfield 26, 3) := by decide +kernel
theorem dX1_begin_55 : decode cX1_begin 55 = .ok (.iload_n 1, 1) := by decide +kernel
theorem dX1_begin_56 : decode cX1_begin 56 = .ok (.iload_n 3, 1) := by decide +kernel
theorem dX1_begin_57 : decode cX1_begin 57 = .ok (.iastore, 1) := by decide +kernel
theorem dX1_begin_58 : decode cX1_begin 58 = .ok (.aload_n 0, 1) := by decide +kernel
theorem dX1_begin_59 : decode cX1_begin 59 = .ok (.getfield 29, 3) := by decide +kernel
theorem dX1_begin_62 : decode cX1_begin 62 = .ok (.iload_n 1, 1) := by decide +kernel
theorem dX1_begin_63 : decode cX1_begin 63 = .ok (.iconst 0, 1) := by decide +kernel
theorem dX1_begin_64 : decode cX1_begin 64 = .ok (.bastore, 1) := by decide +kernel
theorem dX1_begin_65 : decode cX1_begin 65 = .ok (.aload_n 0, 1) := by decide +kernel
theorem dX1_begin_66 : decode cX1_begin 66 = .ok (.dup, 1) := by decide +kernel
theorem dX1_begin_67 : decode cX1_begin 67 = .ok (.getfield 33, 3) := by decide +kernel
theorem dX1_begin_70 : decode cX1_begin 70 = .ok (.iconst 1, 1) := by decide +kernel
theorem dX1_begin_71 : decode cX1_begin 71 = .ok (.iadd, 1) := by decide +kernel
theorem dX1_begin_72 : decode cX1_begin 72 = .ok (.putfield 33, 3) := by decide +kernel
theorem dX1_begin_75 : decode cX1_begin 75 = .ok (.return_, 1) := by decide +kernel
theorem dX1_goOn_0 : decode cX1_goOn 0 = .ok (.aload_n 0, 1) := by decide +kernel
theorem dX1_goOn_1 : decode cX1_goOn 1 = .ok (.getfield 15, 3) := by decide +kernel
theorem dX1_goOn_4 : decode cX1_goOn 4 = .ok (.iload_n 2, 1) := by decide +kernel
theorem dX1_goOn_5 : decode cX1_goOn 5 = .ok (.iload_n 3, 1) := by decide +kernel
theorem dX1_goOn_6 : decode cX1_goOn 6 = .ok (.iastore, 1) := by decide +kernel
theorem dX1_goOn_7 : decode cX1_goOn 7 = .ok (.aload_n 0, 1) := by decide +kernel
theorem dX1_goOn_8 : decode cX1_goOn 8 = .ok (.getfield 18, 3) := by decide +kernel
theorem dX1_goOn_11 : decode cX1_goOn 11 = .ok (.iload_n 2, 1) := by decide +kernel
theorem dX1_goOn_12 : decode cX1_goOn 12 = .ok (.dup2, 1) := by decide +kernel
theorem dX1_goOn_13 : decode cX1_goOn 13 = .ok (.iaload, 1) := by decide +kernel
theorem dX1_goOn_14 : decode cX1_goOn 14 = .ok (.iconst 1, 1) := by decide +kernel
theorem dX1_goOn_15 : decode cX1_goOn 15 = .ok (.iadd, 1) := by decide +kernel
theorem dX1_goOn_16 : decode cX1_goOn 16 = .ok (.iastore, 1) := by decide +kernel
theorem dX1_goOn_17 : decode cX1_goOn 17 = .ok (.aload_n 0, 1) := by decide +kernel
theorem dX1_goOn_18 : decode cX1_goOn 18 = .ok (.getfield 26, 3) := by decide +kernel
theorem dX1_goOn_21 : decode cX1_goOn 21 = .ok (.iload_n 1, 1) := by decide +kernel
theorem dX1_goOn_22 : decode cX1_goOn 22 = .ok (.iload_n 2, 1) := by decide +kernel
theorem dX1_goOn_23 : decode cX1_goOn 23 = .ok (.iastore, 1) := by decide +kernel
theorem dX1_goOn_24 : decode cX1_goOn 24 = .ok (.aload_n 0, 1) := by decide +kernel
theorem dX1_goOn_25 : decode cX1_goOn 25 = .ok (.getfield 29, 3) := by decide +kernel
theorem dX1_goOn_28 : decode cX1_goOn 28 = .ok (.iload_n 1, 1) := by decide +kernel
theorem dX1_goOn_29 : decode cX1_goOn 29 = .ok (.iconst 0, 1) := by decide +kernel
theorem dX1_goOn_30 : decode cX1_goOn 30 = .ok (.bastore, 1) := by decide +kernel
theorem dX1_goOn_31 : decode cX1_goOn 31 = .ok (.return_, 1) := by decide +kernel
theorem dX1_putDouble_0 : decode cX1_putDouble 0 = .ok (.aload_n 0, 1) := by decide +kernel
theorem dX1_putDouble_1 : decode cX1_putDouble 1 = .ok (.getfield 26, 3) := by decide +kernel
theorem dX1_putDouble_4 : decode cX1_putDouble 4 = .ok (.iload_n 1, 1) := by decide +kernel
theorem dX1_putDouble_5 : decode cX1_putDouble 5 = .ok (.iload_n 2, 1) := by decide +kernel
theorem dX1_putDouble_6 : decode cX1_putDouble 6 = .ok (.iastore, 1) := by decide +kernel
theorem dX1_putDouble_7 : decode cX1_putDouble 7 = .ok (.aload_n 0, 1) := by decide +kernel
theorem dX1_putDouble_8 : decode cX1_putDouble 8 = .ok (.getfield 29, 3) := by decide +kernel
theorem dX1_putDouble_11 : decode cX1_putDouble 11 = .ok (.iload_n 1, 1) := by decide +kernel
theorem dX1_putDouble_12 : decode cX1_putDouble 12 = .ok (.iconst 1, 1) := by decide +kernel
theorem dX1_putDouble_13 : decode cX1_putDouble 13 = .ok (.bastore, 1) := by decide +kernel
theorem dX1_putDouble_14 : decode cX1_putDouble 14 = .ok (.return_, 1) := by decide +kernel
theorem dX1_pay_0 : decode cX1_pay 0 = .ok (.aload_n 0, 1) := by decide +kernel
theorem dX1_pay_1 : decode cX1_pay 1 = .ok (.getfield 23, 3) := by decide +kernel
theorem dX1_pay_4 : decode cX1_pay 4 = .ok (.iload_n 2, 1) := by decide +kernel
theorem dX1_pay_5 : decode cX1_pay 5 = .ok (.aaload, 1) := by decide +kernel
theorem dX1_pay_6 : decode cX1_pay 6 = .ok (.iload_n 1, 1) := by decide +kernel
theorem dX1_pay_7 : decode cX1_pay 7 = .ok (.dup2, 1) := by decide +kernel
theorem dX1_pay_8 : decode cX1_pay 8 = .ok (.iaload, 1) := by decide +kernel
theorem dX1_pay_9 : decode cX1_pay 9 = .ok (.iload_n 3, 1) := by decide +kernel
theorem dX1_pay_10 : decode cX1_pay 10 = .ok (.iadd, 1) := by decide +kernel
theorem dX1_pay_11 : decode cX1_pay 11 = .ok (.iastore, 1) := by decide +kernel
theorem dX1_pay_12 : decode cX1_pay 12 = .ok (.return_, 1) := by decide +kernel
theorem dX1_isOver_0 : decode cX1_isOver 0 = .ok (.iload_n 2, 1) := by decide +kernel
theorem dX1_isOver_1 : decode cX1_isOver 1 = .ok (.aload_n 0, 1) := by decide +kernel
theorem dX1_isOver_2 : decode cX1_isOver 2 = .ok (.getfield 15, 3) := by decide +kernel
theorem dX1_isOver_5 : decode cX1_isOver 5 = .ok (.iload_n 1, 1) := by decide +kernel
theorem dX1_isOver_6 : decode cX1_isOver 6 = .ok (.iaload, 1) := by decide +kernel
theorem dX1_isOver_7 : decode cX1_isOver 7 = .ok (.isub, 1) := by decide +kernel
theorem dX1_isOver_8 : decode cX1_isOver 8 = .ok (.bipush 60, 2) := by decide +kernel
theorem dX1_isOver_10 : decode cX1_isOver 10 = .ok (.if_icmp .lt 7, 3) := by decide +kernel
theorem dX1_isOver_13 : decode cX1_isOver 13 = .ok (.iconst 1, 1) := by decide +kernel
theorem dX1_isOver_14 : decode cX1_isOver 14 = .ok (.goto 4, 3) := by decide +kernel
theorem dX1_isOver_17 : decode cX1_isOver 17 = .ok (.iconst 0, 1) := by decide +kernel
theorem dX1_isOver_18 : decode cX1_isOver 18 = .ok (.ireturn, 1) := by decide +kernel
theorem dX1_wholeOf_0 : decode cX1_wholeOf 0 = .ok (.iconst 0, 1) := by decide +kernel
theorem dX1_wholeOf_1 : decode cX1_wholeOf 1 = .ok (.istore_n 2, 1) := by decide +kernel
theorem dX1_wholeOf_2 : decode cX1_wholeOf 2 = .ok (.iconst 0, 1) := by decide +kernel
theorem dX1_wholeOf_3 : decode cX1_wholeOf 3 = .ok (.istore_n 3, 1) := by decide +kernel
theorem dX1_wholeOf_4 : decode cX1_wholeOf 4 = .ok (.iload_n 3, 1) := by decide +kernel
theorem dX1_wholeOf_5 : decode cX1_wholeOf 5 = .ok (.iconst 4, 1) := by decide +kernel
theorem dX1_wholeOf_6 : decode cX1_wholeOf 6 = .ok (.if_icmp .ge 20, 3) := by decide +kernel
theorem dX1_wholeOf_9 : decode cX1_wholeOf 9 = .ok (.iload_n 2, 1) := by decide +kernel
theorem dX1_wholeOf_10 : decode cX1_wholeOf 10 = .ok (.aload_n 0, 1) := by decide +kernel
theorem dX1_wholeOf_11 : decode cX1_wholeOf 11 = .ok (.getfield 23, 3) := by decide +kernel
theorem dX1_wholeOf_14 : decode cX1_wholeOf 14 = .ok (.iload_n 3, 1) := by decide +kernel
theorem dX1_wholeOf_15 : decode cX1_wholeOf 15 = .ok (.aaload, 1) := by decide +kernel
theorem dX1_wholeOf_16 : decode cX1_wholeOf 16 = .ok (.iload_n 1, 1) := by decide +kernel
theorem dX1_wholeOf_17 : decode cX1_wholeOf 17 = .ok (.iaload, 1) := by decide +kernel
theorem dX1_wholeOf_18 : decode cX1_wholeOf 18 = .ok (.iadd, 1) := by decide +kernel
theorem dX1_wholeOf_19 : decode cX1_wholeOf 19 = .ok (.istore_n 2, 1) := by decide +kernel
theorem dX1_wholeOf_20 : decode cX1_wholeOf 20 = .ok (.iinc 3 1, 3) := by decide +kernel
theorem dX1_wholeOf_23 : decode cX1_wholeOf 23 = .ok (.goto (-19), 3) := by decide +kernel
theorem dX1_wholeOf_26 : decode cX1_wholeOf 26 = .ok (.iload_n 2, 1) := by decide +kernel
theorem dX1_wholeOf_27 : decode cX1_wholeOf 27 = .ok (.ireturn, 1) := by decide +kernel
theorem dX1_fareOf_0 : decode cX1_fareOf 0 = .ok (.aload_n 0, 1) := by decide +kernel
theorem dX1_fareOf_1 : decode cX1_fareOf 1 = .ok (.iload_n 1, 1) := by decide +kernel
theorem dX1_fareOf_2 : decode cX1_fareOf 2 = .ok (.invokevirtual 37, 3) := by decide +kernel
theorem dX1_fareOf_5 : decode cX1_fareOf 5 = .ok (.iload_n 2, 1) := by decide +kernel
theorem dX1_fareOf_6 : decode cX1_fareOf 6 = .ok (.invokestatic 41, 3) := by decide +kernel
theorem dX1_fareOf_9 : decode cX1_fareOf 9 = .ok (.ireturn, 1) := by decide +kernel
theorem dX1_shareOf_0 : decode cX1_shareOf 0 = .ok (.aload_n 0, 1) := by decide +kernel
theorem dX1_shareOf_1 : decode cX1_shareOf 1 = .ok (.iload_n 1, 1) := by decide +kernel
theorem dX1_shareOf_2 : decode cX1_shareOf 2 = .ok (.invokevirtual 37, 3) := by decide +kernel
theorem dX1_shareOf_5 : decode cX1_shareOf 5 = .ok (.istore 4, 2) := by decide +kernel
theorem dX1_shareOf_7 : decode cX1_shareOf 7 = .ok (.iload 4, 2) := by decide +kernel
theorem dX1_shareOf_9 : decode cX1_shareOf 9 = .ok (.iload_n 3, 1) := by decide +kernel
theorem dX1_shareOf_10 : decode cX1_shareOf 10 = .ok (.if_icmp .gt 12, 3) := by decide +kernel
theorem dX1_shareOf_13 : decode cX1_shareOf 13 = .ok (.aload_n 0, 1) := by decide +kernel
theorem dX1_shareOf_14 : decode cX1_shareOf 14 = .ok (.getfield 23, 3) := by decide +kernel
theorem dX1_shareOf_17 : decode cX1_shareOf 17 = .ok (.iload_n 2, 1) := by decide +kernel
theorem dX1_shareOf_18 : decode cX1_shareOf 18 = .ok (.aaload, 1) := by decide +kernel
theorem dX1_shareOf_19 : decode cX1_shareOf 19 = .ok (.iload_n 1, 1) := by decide +kernel
theorem dX1_shareOf_20 : decode cX1_shareOf 20 = .ok (.iaload, 1) := by decide +kernel
theorem dX1_shareOf_21 : decode cX1_shareOf 21 = .ok (.ireturn, 1) := by decide +kernel
theorem dX1_shareOf_22 : decode cX1_shareOf 22 = .ok (.iload_n 2, 1) := by decide +kernel
theorem dX1_shareOf_23 : decode cX1_shareOf 23 = .ok (.aload_n 0, 1) := by decide +kernel
theorem dX1_shareOf_24 : decode cX1_shareOf 24 = .ok (.iload_n 1, 1) := by decide +kernel
theorem dX1_shareOf_25 : decode cX1_shareOf 25 = .ok (.invokevirtual 47, 3) := by decide +kernel
theorem dX1_shareOf_28 : decode cX1_shareOf 28 = .ok (.if_icmp .eq 13, 3) := by decide +kernel
theorem dX1_shareOf_31 : decode cX1_shareOf 31 = .ok (.aload_n 0, 1) := by decide +kernel
theorem dX1_shareOf_32 : decode cX1_shareOf 32 = .ok (.iload_n 1, 1) := by decide +kernel
theorem dX1_shareOf_33 : decode cX1_shareOf 33 = .ok (.iload_n 2, 1) := by decide +kernel
theorem dX1_shareOf_34 : decode cX1_shareOf 34 = .ok (.iload_n 3, 1) := by decide +kernel
theorem dX1_shareOf_35 : decode cX1_shareOf 35 = .ok (.iload 4, 2) := by decide +kernel
theorem dX1_shareOf_37 : decode cX1_shareOf 37 = .ok (.invokevirtual 50, 3) := by decide +kernel
theorem dX1_shareOf_40 : decode cX1_shareOf 40 = .ok (.ireturn, 1) := by decide +kernel
theorem dX1_shareOf_41 : decode cX1_shareOf 41 = .ok (.iload_n 3, 1) := by decide +kernel
theorem dX1_shareOf_42 : decode cX1_shareOf 42 = .ok (.istore 5, 2) := by decide +kernel
theorem dX1_shareOf_44 : decode cX1_shareOf 44 = .ok (.iconst 0, 1) := by decide +kernel
theorem dX1_shareOf_45 : decode cX1_shareOf 45 = .ok (.istore 6, 2) := by decide +kernel
theorem dX1_shareOf_47 : decode cX1_shareOf 47 = .ok (.iload 6, 2) := by decide +kernel
theorem dX1_shareOf_49 : decode cX1_shareOf 49 = .ok (.iconst 4, 1) := by decide +kernel
theorem dX1_shareOf_50 : decode cX1_shareOf 50 = .ok (.if_icmp .ge 30, 3) := by decide +kernel
theorem dX1_shareOf_53 : decode cX1_shareOf 53 = .ok (.iload 6, 2) := by decide +kernel
theorem dX1_shareOf_55 : decode cX1_shareOf 55 = .ok (.iload_n 2, 1) := by decide +kernel
theorem dX1_shareOf_56 : decode cX1_shareOf 56 = .ok (.if_icmp .eq 18, 3) := by decide +kernel
theorem dX1_shareOf_59 : decode cX1_shareOf 59 = .ok (.iload 5, 2) := by decide +kernel
theorem dX1_shareOf_61 : decode cX1_shareOf 61 = .ok (.aload_n 0, 1) := by decide +kernel
theorem dX1_shareOf_62 : decode cX1_shareOf 62 = .ok (.iload_n 1, 1) := by decide +kernel
theorem dX1_shareOf_63 : decode cX1_shareOf 63 = .ok (.iload 6, 2) := by decide +kernel
theorem dX1_shareOf_65 : decode cX1_shareOf 65 = .ok (.iload_n 3, 1) := by decide +kernel
theorem dX1_shareOf_66 : decode cX1_shareOf 66 = .ok (.iload 4, 2) := by decide +kernel
theorem dX1_shareOf_68 : decode cX1_shareOf 68 = .ok (.invokevirtual 50, 3) := by decide +kernel
theorem dX1_shareOf_71 : decode cX1_shareOf 71 = .ok (.isub, 1) := by decide +kernel
theorem dX1_shareOf_72 : decode cX1_shareOf 72 = .ok (.istore 5, 2) := by decide +kernel
theorem dX1_shareOf_74 : decode cX1_shareOf 74 = .ok (.iinc 6 1, 3) := by decide +kernel
theorem dX1_shareOf_77 : decode cX1_shareOf 77 = .ok (.goto (-30), 3) := by decide +kernel
theorem dX1_shareOf_80 : decode cX1_shareOf 80 = .ok (.iload 5, 2) := by decide +kernel
theorem dX1_shareOf_82 : decode cX1_shareOf 82 = .ok (.ireturn, 1) := by decide +kernel
theorem dX1_cutShare_0 : decode cX1_cutShare 0 = .ok (.iload 4, 2) := by decide +kernel
theorem dX1_cutShare_2 : decode cX1_cutShare 2 = .ok (.ifCond .gt 5, 3) := by decide +kernel
theorem dX1_cutShare_5 : decode cX1_cutShare 5 = .ok (.iconst 0, 1) := by decide +kernel
theorem dX1_cutShare_6 : decode cX1_cutShare 6 = .ok (.ireturn, 1) := by decide +kernel
theorem dX1_cutShare_7 : decode cX1_cutShare 7 = .ok (.aload_n 0, 1) := by decide +kernel
theorem dX1_cutShare_8 : decode cX1_cutShare 8 = .ok (.getfield 23, 3) := by decide +kernel
theorem dX1_cutShare_11 : decode cX1_cutShare 11 = .ok (.iload_n 2, 1) := by decide +kernel
theorem dX1_cutShare_12 : decode cX1_cutShare 12 = .ok (.aaload, 1) := by decide +kernel
theorem dX1_cutShare_13 : decode cX1_cutShare 13 = .ok (.iload_n 1, 1) := by decide +kernel
theorem dX1_cutShare_14 : decode cX1_cutShare 14 = .ok (.iaload, 1) := by decide +kernel
theorem dX1_cutShare_15 : decode cX1_cutShare 15 = .ok (.i2l, 1) := by decide +kernel
theorem dX1_cutShare_16 : decode cX1_cutShare 16 = .ok (.iload_n 3, 1) := by decide +kernel
theorem dX1_cutShare_17 : decode cX1_cutShare 17 = .ok (.i2l, 1) := by decide +kernel
theorem dX1_cutShare_18 : decode cX1_cutShare 18 = .ok (.lmul, 1) := by decide +kernel
theorem dX1_cutShare_19 : decode cX1_cutShare 19 = .ok (.iload 4, 2) := by decide +kernel
theorem dX1_cutShare_21 : decode cX1_cutShare 21 = .ok (.i2l, 1) := by decide +kernel
theorem dX1_cutShare_22 : decode cX1_cutShare 22 = .ok (.ldiv, 1) := by decide +kernel
theorem dX1_cutShare_23 : decode cX1_cutShare 23 = .ok (.l2i, 1) := by decide +kernel
theorem dX1_cutShare_24 : decode cX1_cutShare 24 = .ok (.ireturn, 1) := by decide +kernel
theorem dX1_ownerOfTheMost_0 : decode cX1_ownerOfTheMost 0 = .ok (.iconst 0, 1) := by decide +kernel
theorem dX1_ownerOfTheMost_1 : decode cX1_ownerOfTheMost 1 = .ok (.istore_n 2, 1) := by decide +kernel
theorem dX1_ownerOfTheMost_2 : decode cX1_ownerOfTheMost 2 = .ok (.iconst 1, 1) := by decide +kernel
theorem dX1_ownerOfTheMost_3 : decode cX1_ownerOfTheMost 3 = .ok (.istore_n 3, 1) := by decide +kernel
theorem dX1_ownerOfTheMost_4 : decode cX1_ownerOfTheMost 4 = .ok (.iload_n 3, 1) := by decide +kernel
theorem dX1_ownerOfTheMost_5 : decode cX1_ownerOfTheMost 5 = .ok (.iconst 4, 1) := by decide +kernel
theorem dX1_ownerOfTheMost_6 : decode cX1_ownerOfTheMost 6 = .ok (.if_icmp .ge 30, 3) := by decide +kernel
theorem dX1_ownerOfTheMost_9 : decode cX1_ownerOfTheMost 9 = .ok (.aload_n 0, 1) := by decide +kernel
theorem dX1_ownerOfTheMost_10 : decode cX1_ownerOfTheMost 10 = .ok (.getfield 23, 3) := by decide +kernel
theorem dX1_ownerOfTheMost_13 : decode cX1_ownerOfTheMost 13 = .ok (.iload_n 3, 1) := by decide +kernel
theorem dX1_ownerOfTheMost_14 : decode cX1_ownerOfTheMost 14 = .ok (.aaload, 1) := by decide +kernel
theorem dX1_ownerOfTheMost_15 : decode cX1_ownerOfTheMost 15 = .ok (.iload_n 1, 1) := by decide +kernel
theorem dX1_ownerOfTheMost_16 : decode cX1_ownerOfTheMost 16 = .ok (.iaload, 1) := by decide +kernel
theorem dX1_ownerOfTheMost_17 : decode cX1_ownerOfTheMost 17 = .ok (.aload_n 0, 1) := by decide +kernel
theorem dX1_ownerOfTheMost_18 : decode cX1_ownerOfTheMost 18 = .ok (.getfield 23, 3) := by decide +kernel
theorem dX1_ownerOfTheMost_21 : decode cX1_ownerOfTheMost 21 = .ok (.iload_n 2, 1) := by decide +kernel
theorem dX1_ownerOfTheMost_22 : decode cX1_ownerOfTheMost 22 = .ok (.aaload, 1) := by decide +kernel
theorem dX1_ownerOfTheMost_23 : decode cX1_ownerOfTheMost 23 = .ok (.iload_n 1, 1) := by decide +kernel
theorem dX1_ownerOfTheMost_24 : decode cX1_ownerOfTheMost 24 = .ok (.iaload, 1) := by decide +kernel
theorem dX1_ownerOfTheMost_25 : decode cX1_ownerOfTheMost 25 = .ok (.if_icmp .le 5, 3) := by decide +kernel
theorem dX1_ownerOfTheMost_28 : decode cX1_ownerOfTheMost 28 = .ok (.iload_n 3, 1) := by decide +kernel
theorem dX1_ownerOfTheMost_29 : decode cX1_ownerOfTheMost 29 = .ok (.istore_n 2, 1) := by decide +kernel
theorem dX1_ownerOfTheMost_30 : decode cX1_ownerOfTheMost 30 = .ok (.iinc 3 1, 3) := by decide +kernel
theorem dX1_ownerOfTheMost_33 : decode cX1_ownerOfTheMost 33 = .ok (.goto (-29), 3) := by decide +kernel
theorem dX1_ownerOfTheMost_36 : decode cX1_ownerOfTheMost 36 = .ok (.iload_n 2, 1) := by decide +kernel
theorem dX1_ownerOfTheMost_37 : decode cX1_ownerOfTheMost 37 = .ok (.ireturn, 1) := by decide +kernel
theorem dX1_sumFares_0 : decode cX1_sumFares 0 = .ok (.lconst 0, 1) := by decide +kernel
theorem dX1_sumFares_1 : decode cX1_sumFares 1 = .ok (.lstore_n 3, 1) := by decide +kernel
theorem dX1_sumFares_2 : decode cX1_sumFares 2 = .ok (.iconst 0, 1) := by decide +kernel
theorem dX1_sumFares_3 : decode cX1_sumFares 3 = .ok (.istore 5, 2) := by decide +kernel
theorem dX1_sumFares_5 : decode cX1_sumFares 5 = .ok (.iload 5, 2) := by decide +kernel
theorem dX1_sumFares_7 : decode cX1_sumFares 7 = .ok (.aload_n 0, 1) := by decide +kernel
theorem dX1_sumFares_8 : decode cX1_sumFares 8 = .ok (.getfield 33, 3) := by decide +kernel
theorem dX1_sumFares_11 : decode cX1_sumFares 11 = .ok (.if_icmp .ge 30, 3) := by decide +kernel
theorem dX1_sumFares_14 : decode cX1_sumFares 14 = .ok (.aload_n 0, 1) := by decide +kernel
theorem dX1_sumFares_15 : decode cX1_sumFares 15 = .ok (.iload 5, 2) := by decide +kernel
theorem dX1_sumFares_17 : decode cX1_sumFares 17 = .ok (.iload_n 1, 1) := by decide +kernel
theorem dX1_sumFares_18 : decode cX1_sumFares 18 = .ok (.invokevirtual 54, 3) := by decide +kernel
theorem dX1_sumFares_21 : decode cX1_sumFares 21 = .ok (.ifCond .eq 14, 3) := by decide +kernel
theorem dX1_sumFares_24 : decode cX1_sumFares 24 = .ok (.lload_n 3, 1) := by decide +kernel
theorem dX1_sumFares_25 : decode cX1_sumFares 25 = .ok (.aload_n 0, 1) := by decide +kernel
theorem dX1_sumFares_26 : decode cX1_sumFares 26 = .ok (.iload 5, 2) := by decide +kernel
theorem dX1_sumFares_28 : decode cX1_sumFares 28 = .ok (.iload_n 2, 1) := by decide +kernel
theorem dX1_sumFares_29 : decode cX1_sumFares 29 = .ok (.invokevirtual 58, 3) := by decide +kernel
theorem dX1_sumFares_32 : decode cX1_sumFares 32 = .ok (.i2l, 1) := by decide +kernel
theorem dX1_sumFares_33 : decode cX1_sumFares 33 = .ok (.ladd, 1) := by decide +kernel
theorem dX1_sumFares_34 : decode cX1_sumFares 34 = .ok (.lstore_n 3, 1) := by decide +kernel
theorem dX1_sumFares_35 : decode cX1_sumFares 35 = .ok (.iinc 5 1, 3) := by decide +kernel
theorem dX1_sumFares_38 : decode cX1_sumFares 38 = .ok (.goto (-33), 3) := by decide +kernel
theorem dX1_sumFares_41 : decode cX1_sumFares 41 = .ok (.lload_n 3, 1) := by decide +kernel
theorem dX1_sumFares_42 : decode cX1_sumFares 42 = .ok (.lreturn, 1) := by decide +kernel
theorem dX1_sumShares_0 : decode cX1_sumShares 0 = .ok (.lconst 0, 1) := by decide +kernel
theorem dX1_sumShares_1 : decode cX1_sumShares 1 = .ok (.lstore 4, 2) := by decide +kernel
theorem dX1_sumShares_3 : decode cX1_sumShares 3 = .ok (.iconst 0, 1) := by decide +kernel
theorem dX1_sumShares_4 : decode cX1_sumShares 4 = .ok (.istore 6, 2) := by decide +kernel
theorem dX1_sumShares_6 : decode cX1_sumShares 6 = .ok (.iload 6, 2) := by decide +kernel
theorem dX1_sumShares_8 : decode cX1_sumShares 8 = .ok (.aload_n 0, 1) := by decide +kernel
theorem dX1_sumShares_9 : decode cX1_sumShares 9 = .ok (.getfield 33, 3) := by decide +kernel
theorem dX1_sumShares_12 : decode cX1_sumShares 12 = .ok (.if_icmp .ge 33, 3) := by decide +kernel
theorem dX1_sumShares_15 : decode cX1_sumShares 15 = .ok (.aload_n 0, 1) := by decide +kernel
theorem dX1_sumShares_16 : decode cX1_sumShares 16 = .ok (.iload 6, 2) := by decide +kernel
theorem dX1_sumShares_18 : decode cX1_sumShares 18 = .ok (.iload_n 2, 1) := by decide +kernel
theorem dX1_sumShares_19 : decode cX1_sumShares 19 = .ok (.invokevirtual 54, 3) := by decide +kernel
theorem dX1_sumShares_22 : decode cX1_sumShares 22 = .ok (.ifCond .eq 17, 3) := by decide +kernel
theorem dX1_sumShares_25 : decode cX1_sumShares 25 = .ok (.lload 4, 2) := by decide +kernel
theorem dX1_sumShares_27 : decode cX1_sumShares 27 = .ok (.aload_n 0, 1) := by decide +kernel
theorem dX1_sumShares_28 : decode cX1_sumShares 28 = .ok (.iload 6, 2) := by decide +kernel
theorem dX1_sumShares_30 : decode cX1_sumShares 30 = .ok (.iload_n 1, 1) := by decide +kernel
theorem dX1_sumShares_31 : decode cX1_sumShares 31 = .ok (.iload_n 3, 1) := by decide +kernel
theorem dX1_sumShares_32 : decode cX1_sumShares 32 = .ok (.invokevirtual 61, 3) := by decide +kernel
theorem dX1_sumShares_35 : decode cX1_sumShares 35 = .ok (.i2l, 1) := by decide +kernel
theorem dX1_sumShares_36 : decode cX1_sumShares 36 = .ok (.ladd, 1) := by decide +kernel
theorem dX1_sumShares_37 : decode cX1_sumShares 37 = .ok (.lstore 4, 2) := by decide +kernel
theorem dX1_sumShares_39 : decode cX1_sumShares 39 = .ok (.iinc 6 1, 3) := by decide +kernel
theorem dX1_sumShares_42 : decode cX1_sumShares 42 = .ok (.goto (-36), 3) := by decide +kernel
theorem dX1_sumShares_45 : decode cX1_sumShares 45 = .ok (.lload 4, 2) := by decide +kernel
theorem dX1_sumShares_47 : decode cX1_sumShares 47 = .ok (.lreturn, 1) := by decide +kernel
theorem dX2_init_0 : decode cX2_init 0 = .ok (.aload_n 0, 1) := by decide +kernel
theorem dX2_init_1 : decode cX2_init 1 = .ok (.invokespecial 3, 3) := by decide +kernel
theorem dX2_init_4 : decode cX2_init 4 = .ok (.aload_n 0, 1) := by decide +kernel
theorem dX2_init_5 : decode cX2_init 5 = .ok (.bipush 10, 2) := by decide +kernel
theorem dX2_init_7 : decode cX2_init 7 = .ok (.newarray .int, 2) := by decide +kernel
theorem dX2_init_9 : decode cX2_init 9 = .ok (.putfield 9, 3) := by decide +kernel
theorem dX2_init_12 : decode cX2_init 12 = .ok (.aload_n 0, 1) := by decide +kernel
theorem dX2_init_13 : decode cX2_init 13 = .ok (.bipush 10, 2) := by decide +kernel
theorem dX2_init_15 : decode cX2_init 15 = .ok (.newarray .int, 2) := by decide +kernel
theorem dX2_init_17 : decode cX2_init 17 = .ok (.putfield 15, 3) := by decide +kernel
theorem dX2_init_20 : decode cX2_init 20 = .ok (.iconst 0, 1) := by decide +kernel
theorem dX2_init_21 : decode cX2_init 21 = .ok (.istore_n 1, 1) := by decide +kernel
theorem dX2_init_22 : decode cX2_init 22 = .ok (.iload_n 1, 1) := by decide +kernel
theorem dX2_init_23 : decode cX2_init 23 = .ok (.bipush 10, 2) := by decide +kernel
theorem dX2_init_25 : decode cX2_init 25 = .ok (.if_icmp .ge 16, 3) := by decide +kernel
theorem dX2_init_28 : decode cX2_init 28 = .ok (.aload_n 0, 1) := by decide +kernel
theorem dX2_init_29 : decode cX2_init 29 = .ok (.getfield 15, 3) := by decide +kernel
theorem dX2_init_32 : decode cX2_init 32 = .ok (.iload_n 1, 1) := by decide +kernel
theorem dX2_init_33 : decode cX2_init 33 = .ok (.iconst (-1), 1) := by decide +kernel
theorem dX2_init_34 : decode cX2_init 34 = .ok (.iastore, 1) := by decide +kernel
theorem dX2_init_35 : decode cX2_init 35 = .ok (.iinc 1 1, 3) := by decide +kernel
theorem dX2_init_38 : decode cX2_init 38 = .ok (.goto (-16), 3) := by decide +kernel
theorem dX2_init_41 : decode cX2_init 41 = .ok (.aload_n 0, 1) := by decide +kernel
theorem dX2_init_42 : decode cX2_init 42 = .ok (.bipush 20, 2) := by decide +kernel
theorem dX2_init_44 : decode cX2_init 44 = .ok (.newarray .int, 2) := by decide +kernel
theorem dX2_init_46 : decode cX2_init 46 = .ok (.putfield 18, 3) := by decide +kernel
theorem dX2_init_49 : decode cX2_init 49 = .ok (.aload_n 0, 1) := by decide +kernel
theorem dX2_init_50 : decode cX2_init 50 = .ok (.bipush 20, 2) := by decide +kernel
theorem dX2_init_52 : decode cX2_init 52 = .ok (.newarray .int, 2) := by decide +kernel
theorem dX2_init_54 : decode cX2_init 54 = .ok (.putfield 21, 3) := by decide +kernel
theorem dX2_init_57 : decode cX2_init 57 = .ok (.aload_n 0, 1) := by decide +kernel
theorem dX2_init_58 : decode cX2_init 58 = .ok (.bipush 20, 2) := by decide +kernel
theorem dX2_init_60 : decode cX2_init 60 = .ok (.newarray .int, 2) := by decide +kernel
theorem dX2_init_62 : decode cX2_init 62 = .ok (.putfield 24, 3) := by decide +kernel
theorem dX2_init_65 : decode cX2_init 65 = .ok (.aload_n 0, 1) := by decide +kernel
theorem dX2_init_66 : decode cX2_init 66 = .ok (.iconst 0, 1) := by decide +kernel
theorem dX2_init_67 : decode cX2_init 67 = .ok (.putfield 27, 3) := by decide +kernel
theorem dX2_init_70 : decode cX2_init 70 = .ok (.return_, 1) := by decide +kernel
theorem dX2_addSpan_0 : decode cX2_addSpan 0 = .ok (.aload_n 0, 1) := by decide +kernel
theorem dX2_addSpan_1 : decode cX2_addSpan 1 = .ok (.getfield 18, 3) := by decide +kernel
theorem dX2_addSpan_4 : decode cX2_addSpan 4 = .ok (.aload_n 0, 1) := by decide +kernel
theorem dX2_addSpan_5 : decode cX2_addSpan 5 = .ok (.getfield 27, 3) := by decide +kernel
theorem dX2_addSpan_8 : decode cX2_addSpan 8 = .ok (.iload_n 1, 1) := by decide +kernel
theorem dX2_addSpan_9 : decode cX2_addSpan 9 = .ok (.iastore, 1) := by decide +kernel
theorem dX2_addSpan_10 : decode cX2_addSpan 10 = .ok (.aload_n 0, 1) := by decide +kernel
theorem dX2_addSpan_11 : decode cX2_addSpan 11 = .ok (.getfield 21, 3) := by decide +kernel
theorem dX2_addSpan_14 : decode cX2_addSpan 14 = .ok (.aload_n 0, 1) := by decide +kernel
theorem dX2_addSpan_15 : decode cX2_addSpan 15 = .ok (.getfield 27, 3) := by decide +kernel
theorem dX2_addSpan_18 : decode cX2_addSpan 18 = .ok (.iload_n 2, 1) := by decide +kernel
theorem dX2_addSpan_19 : decode cX2_addSpan 19 = .ok (.iastore, 1) := by decide +kernel
theorem dX2_addSpan_20 : decode cX2_addSpan 20 = .ok (.aload_n 0, 1) := by decide +kernel
theorem dX2_addSpan_21 : decode cX2_addSpan 21 = .ok (.getfield 24, 3) := by decide +kernel
theorem dX2_addSpan_24 : decode cX2_addSpan 24 = .ok (.aload_n 0, 1) := by decide +kernel
theorem dX2_addSpan_25 : decode cX2_addSpan 25 = .ok (.getfield 27, 3) := by decide +kernel
theorem dX2_addSpan_28 : decode cX2_addSpan 28 = .ok (.iload_n 3, 1) := by decide +kernel
theorem dX2_addSpan_29 : decode cX2_addSpan 29 = .ok (.iastore, 1) := by decide +kernel
theorem dX2_addSpan_30 : decode cX2_addSpan 30 = .ok (.aload_n 0, 1) := by decide +kernel
theorem dX2_addSpan_31 : decode cX2_addSpan 31 = .ok (.dup, 1) := by decide +kernel
theorem dX2_addSpan_32 : decode cX2_addSpan 32 = .ok (.getfield 27, 3) := by decide +kernel
theorem dX2_addSpan_35 : decode cX2_addSpan 35 = .ok (.iconst 1, 1) := by decide +kernel
theorem dX2_addSpan_36 : decode cX2_addSpan 36 = .ok (.iadd, 1) := by decide +kernel
theorem dX2_addSpan_37 : decode cX2_addSpan 37 = .ok (.putfield 27, 3) := by decide +kernel
theorem dX2_addSpan_40 : decode cX2_addSpan 40 = .ok (.aload_n 0, 1) := by decide +kernel
theorem dX2_addSpan_41 : decode cX2_addSpan 41 = .ok (.getfield 27, 3) := by decide +kernel
theorem dX2_addSpan_44 : decode cX2_addSpan 44 = .ok (.ireturn, 1) := by decide +kernel
theorem dX2_isExempt_0 : decode cX2_isExempt 0 = .ok (.iconst 0, 1) := by decide +kernel
theorem dX2_isExempt_1 : decode cX2_isExempt 1 = .ok (.istore_n 3, 1) := by decide +kernel
theorem dX2_isExempt_2 : decode cX2_isExempt 2 = .ok (.iload_n 3, 1) := by decide +kernel
theorem dX2_isExempt_3 : decode cX2_isExempt 3 = .ok (.aload_n 0, 1) := by decide +kernel
theorem dX2_isExempt_4 : decode cX2_isExempt 4 = .ok (.getfield 27, 3) := by decide +kernel
theorem dX2_isExempt_7 : decode cX2_isExempt 7 = .ok (.if_icmp .ge 41, 3) := by decide +kernel
theorem dX2_isExempt_10 : decode cX2_isExempt 10 = .ok (.aload_n 0, 1) := by decide +kernel
theorem dX2_isExempt_11 : decode cX2_isExempt 11 = .ok (.getfield 18, 3) := by decide +kernel
theorem dX2_isExempt_14 : decode cX2_isExempt 14 = .ok (.iload_n 3, 1) := by decide +kernel
theorem dX2_isExempt_15 : decode cX2_isExempt 15 = .ok (.iaload, 1) := by decide +kernel
theorem dX2_isExempt_16 : decode cX2_isExempt 16 = .ok (.iload_n 1, 1) := by decide +kernel
theorem dX2_isExempt_17 : decode cX2_isExempt 17 = .ok (.if_icmp .ne 25, 3) := by decide +kernel
theorem dX2_isExempt_20 : decode cX2_isExempt 20 = .ok (.aload_n 0, 1) := by decide +kernel
theorem dX2_isExempt_21 : decode cX2_isExempt 21 = .ok (.getfield 21, 3) := by decide +kernel
theorem dX2_isExempt_24 : decode cX2_isExempt 24 = .ok (.iload_n 3, 1) := by decide +kernel
theorem dX2_isExempt_25 : decode cX2_isExempt 25 = .ok (.iaload, 1) := by decide +kernel
theorem dX2_isExempt_26 : decode cX2_isExempt 26 = .ok (.iload_n 2, 1) := by decide +kernel
theorem dX2_isExempt_27 : decode cX2_isExempt 27 = .ok (.if_icmp .gt 15, 3) := by decide +kernel
theorem dX2_isExempt_30 : decode cX2_isExempt 30 = .ok (.iload_n 2, 1) := by decide +kernel
theorem dX2_isExempt_31 : decode cX2_isExempt 31 = .ok (.aload_n 0, 1) := by decide +kernel
theorem dX2_isExempt_32 : decode cX2_isExempt 32 = .ok (.getfield 24, 3) := by decide +kernel
theorem dX2_isExempt_35 : decode cX2_isExempt 35 = .ok (.iload_n 3, 1) := by decide +kernel
theorem dX2_isExempt_36 : decode cX2_isExempt 36 = .ok (.iaload, 1) := by decide +kernel
theorem dX2_isExempt_37 : decode cX2_isExempt 37 = .ok (.if_icmp .gt 5, 3) := by decide +kernel
theorem dX2_isExempt_40 : decode cX2_isExempt 40 = .ok (.iconst 1, 1) := by decide +kernel
theorem dX2_isExempt_41 : decode cX2_isExempt 41 = .ok (.ireturn, 1) := by decide +kernel
theorem dX2_isExempt_42 : decode cX2_isExempt 42 = .ok (.iinc 3 1, 3) := by decide +kernel
theorem dX2_isExempt_45 : decode cX2_isExempt 45 = .ok (.goto (-43), 3) := by decide +kernel
theorem dX2_isExempt_48 : decode cX2_isExempt 48 = .ok (.iconst 0, 1) := by decide +kernel
theorem dX2_isExempt_49 : decode cX2_isExempt 49 = .ok (.ireturn, 1) := by decide +kernel
theorem dX3_init_0 : decode cX3_init 0 = .ok (.aload_n 0, 1) := by decide +kernel
theorem dX3_init_1 : decode cX3_init 1 = .ok (.invokespecial 3, 3) := by decide +kernel
theorem dX3_init_4 : decode cX3_init 4 = .ok (.aload_n 0, 1) := by decide +kernel
theorem dX3_init_5 : decode cX3_init 5 = .ok (.bipush 100, 2) := by decide +kernel
theorem dX3_init_7 : decode cX3_init 7 = .ok (.newarray .int, 2) := by decide +kernel
theorem dX3_init_9 : decode cX3_init 9 = .ok (.putfield 9, 3) := by decide +kernel
theorem dX3_init_12 : decode cX3_init 12 = .ok (.aload_n 0, 1) := by decide +kernel
theorem dX3_init_13 : decode cX3_init 13 = .ok (.bipush 100, 2) := by decide +kernel
theorem dX3_init_15 : decode cX3_init 15 = .ok (.newarray .int, 2) := by decide +kernel
theorem dX3_init_17 : decode cX3_init 17 = .ok (.putfield 15, 3) := by decide +kernel
theorem dX3_init_20 : decode cX3_init 20 = .ok (.aload_n 0, 1) := by decide +kernel
theorem dX3_init_21 : decode cX3_init 21 = .ok (.bipush 100, 2) := by decide +kernel
theorem dX3_init_23 : decode cX3_init 23 = .ok (.newarray .int, 2) := by decide +kernel
theorem dX3_init_25 : decode cX3_init 25 = .ok (.putfield 18, 3) := by decide +kernel
theorem dX3_init_28 : decode cX3_init 28 = .ok (.aload_n 0, 1) := by decide +kernel
theorem dX3_init_29 : decode cX3_init 29 = .ok (.bipush 100, 2) := by decide +kernel
theorem dX3_init_31 : decode cX3_init 31 = .ok (.newarray .boolean, 2) := by decide +kernel
theorem dX3_init_33 : decode cX3_init 33 = .ok (.putfield 21, 3) := by decide +kernel
theorem dX3_init_36 : decode cX3_init 36 = .ok (.aload_n 0, 1) := by decide +kernel
theorem dX3_init_37 : decode cX3_init 37 = .ok (.bipush 100, 2) := by decide +kernel
theorem dX3_init_39 : decode cX3_init 39 = .ok (.newarray .int, 2) := by decide +kernel
theorem dX3_init_41 : decode cX3_init 41 = .ok (.putfield 25, 3) := by decide +kernel
theorem dX3_init_44 : decode cX3_init 44 = .ok (.aload_n 0, 1) := by decide +kernel
theorem dX3_init_45 : decode cX3_init 45 = .ok (.iconst 0, 1) := by decide +kernel
theorem dX3_init_46 : decode cX3_init 46 = .ok (.putfield 28, 3) := by decide +kernel
theorem dX3_init_49 : decode cX3_init 49 = .ok (.return_, 1) := by decide +kernel
theorem dX3_add_0 : decode cX3_add 0 = .ok (.aload_n 0, 1) := by decide +kernel
theorem dX3_add_1 : decode cX3_add 1 = .ok (.getfield 28, 3) := by decide +kernel
theorem dX3_add_4 : decode cX3_add 4 = .ok (.istore 4, 2) := by decide +kernel
theorem dX3_add_6 : decode cX3_add 6 = .ok (.aload_n 0, 1) := by decide +kernel
theorem dX3_add_7 : decode cX3_add 7 = .ok (.getfield 9, 3) := by decide +kernel
theorem dX3_add_10 : decode cX3_add 10 = .ok (.iload 4, 2) := by decide +kernel
theorem dX3_add_12 : decode cX3_add 12 = .ok (.iload_n 1, 1) := by decide +kernel
theorem dX3_add_13 : decode cX3_add 13 = .ok (.iastore, 1) := by decide +kernel
theorem dX3_add_14 : decode cX3_add 14 = .ok (.aload_n 0, 1) := by decide +kernel
theorem dX3_add_15 : decode cX3_add 15 = .ok (.getfield 15, 3) := by decide +kernel
theorem dX3_add_18 : decode cX3_add 18 = .ok (.iload 4, 2) := by decide +kernel
theorem dX3_add_20 : decode cX3_add 20 = .ok (.iload_n 2, 1) := by decide +kernel
theorem dX3_add_21 : decode cX3_add 21 = .ok (.iastore, 1) := by decide +kernel
theorem dX3_add_22 : decode cX3_add 22 = .ok (.aload_n 0, 1) := by decide +kernel
theorem dX3_add_23 : decode cX3_add 23 = .ok (.getfield 18, 3) := by decide +kernel
theorem dX3_add_26 : decode cX3_add 26 = .ok (.iload 4, 2) := by decide +kernel
theorem dX3_add_28 : decode cX3_add 28 = .ok (.iload_n 3, 1) := by decide +kernel
theorem dX3_add_29 : decode cX3_add 29 = .ok (.iastore, 1) := by decide +kernel
theorem dX3_add_30 : decode cX3_add 30 = .ok (.aload_n 0, 1) := by decide +kernel
theorem dX3_add_31 : decode cX3_add 31 = .ok (.getfield 28, 3) := by decide +kernel
theorem dX3_add_34 : decode cX3_add 34 = .ok (.istore 5, 2) := by decide +kernel
theorem dX3_add_36 : decode cX3_add 36 = .ok (.iload 5, 2) := by decide +kernel
theorem dX3_add_38 : decode cX3_add 38 = .ok (.ifCond .le 43, 3) := by decide +kernel
theorem dX3_add_41 : decode cX3_add 41 = .ok (.aload_n 0, 1) := by decide +kernel
theorem dX3_add_42 : decode cX3_add 42 = .ok (.getfield 18, 3) := by decide +kernel
theorem dX3_add_45 : decode cX3_add 45 = .ok (.aload_n 0, 1) := by decide +kernel
theorem dX3_add_46 : decode cX3_add 46 = .ok (.getfield 25, 3) := by decide +kernel
theorem dX3_add_49 : decode cX3_add 49 = .ok (.iload 5, 2) := by decide +kernel
theorem dX3_add_51 : decode cX3_add 51 = .ok (.iconst 1, 1) := by decide +kernel
theorem dX3_add_52 : decode cX3_add 52 = .ok (.isub, 1) := by decide +kernel
theorem dX3_add_53 : decode cX3_add 53 = .ok (.iaload, 1) := by decide +kernel
theorem dX3_add_54 : decode cX3_add 54 = .ok (.iaload, 1) := by decide +kernel
theorem dX3_add_55 : decode cX3_add 55 = .ok (.iload_n 3, 1) := by decide +kernel
theorem dX3_add_56 : decode cX3_add 56 = .ok (.if_icmp .le 25, 3) := by decide +kernel
theorem dX3_add_59 : decode cX3_add 59 = .ok (.aload_n 0, 1) := by decide +kernel
theorem dX3_add_60 : decode cX3_add 60 = .ok (.getfield 25, 3) := by decide +kernel
theorem dX3_add_63 : decode cX3_add 63 = .ok (.iload 5, 2) := by decide +kernel
theorem dX3_add_65 : decode cX3_add 65 = .ok (.aload_n 0, 1) := by decide +kernel
theorem dX3_add_66 : decode cX3_add 66 = .ok (.getfield 25, 3) := by decide +kernel
theorem dX3_add_69 : decode cX3_add 69 = .ok (.iload 5, 2) := by decide +kernel
theorem dX3_add_71 : decode cX3_add 71 = .ok (.iconst 1, 1) := by decide +kernel
theorem dX3_add_72 : decode cX3_add 72 = .ok (.isub, 1) := by decide +kernel
theorem dX3_add_73 : decode cX3_add 73 = .ok (.iaload, 1) := by decide +kernel
theorem dX3_add_74 : decode cX3_add 74 = .ok (.iastore, 1) := by decide +kernel
theorem dX3_add_75 : decode cX3_add 75 = .ok (.iinc 5 (-1), 3) := by decide +kernel
theorem dX3_add_78 : decode cX3_add 78 = .ok (.goto (-42), 3) := by decide +kernel
theorem dX3_add_81 : decode cX3_add 81 = .ok (.aload_n 0, 1) := by decide +kernel
theorem dX3_add_82 : decode cX3_add 82 = .ok (.getfield 25, 3) := by decide +kernel
theorem dX3_add_85 : decode cX3_add 85 = .ok (.iload 5, 2) := by decide +kernel
theorem dX3_add_87 : decode cX3_add 87 = .ok (.iload 4, 2) := by decide +kernel
theorem dX3_add_89 : decode cX3_add 89 = .ok (.iastore, 1) := by decide +kernel
theorem dX3_add_90 : decode cX3_add 90 = .ok (.aload_n 0, 1) := by decide +kernel
theorem dX3_add_91 : decode cX3_add 91 = .ok (.dup, 1) := by decide +kernel
theorem dX3_add_92 : decode cX3_add 92 = .ok (.getfield 28, 3) := by decide +kernel
theorem dX3_add_95 : decode cX3_add 95 = .ok (.iconst 1, 1) := by decide +kernel
theorem dX3_add_96 : decode cX3_add 96 = .ok (.iadd, 1) := by decide +kernel
theorem dX3_add_97 : decode cX3_add 97 = .ok (.putfield 28, 3) := by decide +kernel
theorem dX3_add_100 : decode cX3_add 100 = .ok (.iload 4, 2) := by decide +kernel
theorem dX3_add_102 : decode cX3_add 102 = .ok (.ireturn, 1) := by decide +kernel
theorem dX3_minutesBetween_0 : decode cX3_minutesBetween 0 = .ok (.aload_n 0, 1) := by decide +kernel
theorem dX3_minutesBetween_1 : decode cX3_minutesBetween 1 = .ok (.getfield 18, 3) := by decide +kernel
theorem dX3_minutesBetween_4 : decode cX3_minutesBetween 4 = .ok (.iload_n 2, 1) := by decide +kernel
theorem dX3_minutesBetween_5 : decode cX3_minutesBetween 5 = .ok (.iaload, 1) := by decide +kernel
theorem dX3_minutesBetween_6 : decode cX3_minutesBetween 6 = .ok (.aload_n 0, 1) := by decide +kernel
theorem dX3_minutesBetween_7 : decode cX3_minutesBetween 7 = .ok (.getfield 18, 3) := by decide +kernel
theorem dX3_minutesBetween_10 : decode cX3_minutesBetween 10 = .ok (.iload_n 1, 1) := by decide +kernel
theorem dX3_minutesBetween_11 : decode cX3_minutesBetween 11 = .ok (.iaload, 1) := by decide +kernel
theorem dX3_minutesBetween_12 : decode cX3_minutesBetween 12 = .ok (.isub, 1) := by decide +kernel
theorem dX3_minutesBetween_13 : decode cX3_minutesBetween 13 = .ok (.ireturn, 1) := by decide +kernel
theorem dX4_init_0 : decode cX4_init 0 = .ok (.aload_n 0, 1) := by decide +kernel
theorem dX4_init_1 : decode cX4_init 1 = .ok (.invokespecial 3, 3) := by decide +kernel
theorem dX4_init_4 : decode cX4_init 4 = .ok (.aload_n 0, 1) := by decide +kernel
theorem dX4_init_5 : decode cX4_init 5 = .ok (.bipush 24, 2) := by decide +kernel
theorem dX4_init_7 : decode cX4_init 7 = .ok (.newarray .int, 2) := by decide +kernel
theorem dX4_init_9 : decode cX4_init 9 = .ok (.putfield 9, 3) := by decide +kernel
theorem dX4_init_12 : decode cX4_init 12 = .ok (.aload_n 0, 1) := by decide +kernel
theorem dX4_init_13 : decode cX4_init 13 = .ok (.bipush 24, 2) := by decide +kernel
theorem dX4_init_15 : decode cX4_init 15 = .ok (.newarray .int, 2) := by decide +kernel
theorem dX4_init_17 : decode cX4_init 17 = .ok (.putfield 15, 3) := by decide +kernel
theorem dX4_init_20 : decode cX4_init 20 = .ok (.aload_n 0, 1) := by decide +kernel
theorem dX4_init_21 : decode cX4_init 21 = .ok (.bipush 24, 2) := by decide +kernel
theorem dX4_init_23 : decode cX4_init 23 = .ok (.newarray .int, 2) := by decide +kernel
theorem dX4_init_25 : decode cX4_init 25 = .ok (.putfield 18, 3) := by decide +kernel
theorem dX4_init_28 : decode cX4_init 28 = .ok (.aload_n 0, 1) := by decide +kernel
theorem dX4_init_29 : decode cX4_init 29 = .ok (.bipush 24, 2) := by decide +kernel
theorem dX4_init_31 : decode cX4_init 31 = .ok (.newarray .int, 2) := by decide +kernel
theorem dX4_init_33 : decode cX4_init 33 = .ok (.putfield 21, 3) := by decide +kernel
theorem dX4_init_36 : decode cX4_init 36 = .ok (.aload_n 0, 1) := by decide +kernel
theorem dX4_init_37 : decode cX4_init 37 = .ok (.bipush 12, 2) := by decide +kernel
theorem dX4_init_39 : decode cX4_init 39 = .ok (.bipush 12, 2) := by decide +kernel
theorem dX4_init_41 : decode cX4_init 41 = .ok (.multianewarray 24 2, 4) := by decide +kernel
theorem dX4_init_45 : decode cX4_init 45 = .ok (.putfield 26, 3) := by decide +kernel
theorem dX4_init_48 : decode cX4_init 48 = .ok (.iconst 0, 1) := by decide +kernel
theorem dX4_init_49 : decode cX4_init 49 = .ok (.istore_n 1, 1) := by decide +kernel
theorem dX4_init_50 : decode cX4_init 50 = .ok (.iload_n 1, 1) := by decide +kernel
theorem dX4_init_51 : decode cX4_init 51 = .ok (.bipush 12, 2) := by decide +kernel
theorem dX4_init_53 : decode cX4_init 53 = .ok (.if_icmp .ge 42, 3) := by decide +kernel
theorem dX4_init_56 : decode cX4_init 56 = .ok (.iconst 0, 1) := by decide +kernel
theorem dX4_init_57 : decode cX4_init 57 = .ok (.istore_n 2, 1) := by decide +kernel
theorem dX4_init_58 : decode cX4_init 58 = .ok (.iload_n 2, 1) := by decide +kernel
theorem dX4_init_59 : decode cX4_init 59 = .ok (.bipush 12, 2) := by decide +kernel
theorem dX4_init_61 : decode cX4_init 61 = .ok (.if_icmp .ge 28, 3) := by decide +kernel
theorem dX4_init_64 : decode cX4_init 64 = .ok (.aload_n 0, 1) := by decide +kernel
theorem dX4_init_65 : decode cX4_init 65 = .ok (.getfield 26, 3) := by decide +kernel
theorem dX4_init_68 : decode cX4_init 68 = .ok (.iload_n 1, 1) := by decide +kernel
theorem dX4_init_69 : decode cX4_init 69 = .ok (.aaload, 1) := by decide +kernel
theorem dX4_init_70 : decode cX4_init 70 = .ok (.iload_n 2, 1) := by decide +kernel
theorem dX4_init_71 : decode cX4_init 71 = .ok (.iload_n 1, 1) := by decide +kernel
theorem dX4_init_72 : decode cX4_init 72 = .ok (.iload_n 2, 1) := by decide +kernel
theorem dX4_init_73 : decode cX4_init 73 = .ok (.if_icmp .ne 7, 3) := by decide +kernel
theorem dX4_init_76 : decode cX4_init 76 = .ok (.iconst 0, 1) := by decide +kernel
theorem dX4_init_77 : decode cX4_init 77 = .ok (.goto 5, 3) := by decide +kernel
theorem dX4_init_80 : decode cX4_init 80 = .ok (.ldc 29, 2) := by decide +kernel
theorem dX4_init_82 : decode cX4_init 82 = .ok (.iastore, 1) := by decide +kernel
theorem dX4_init_83 : decode cX4_init 83 = .ok (.iinc 2 1, 3) := by decide +kernel
theorem dX4_init_86 : decode cX4_init 86 = .ok (.goto (-28), 3) := by decide +kernel
theorem dX4_init_89 : decode cX4_init 89 = .ok (.iinc 1 1, 3) := by decide +kernel
theorem dX4_init_92 : decode cX4_init 92 = .ok (.goto (-42), 3) := by decide +kernel
theorem dX4_init_95 : decode cX4_init 95 = .ok (.aload_n 0, 1) := by decide +kernel
theorem dX4_init_96 : decode cX4_init 96 = .ok (.iconst 0, 1) := by decide +kernel
theorem dX4_init_97 : decode cX4_init 97 = .ok (.putfield 30, 3) := by decide +kernel
theorem dX4_init_100 : decode cX4_init 100 = .ok (.aload_n 0, 1) := by decide +kernel
theorem dX4_init_101 : decode cX4_init 101 = .ok (.iconst 0, 1) := by decide +kernel
theorem dX4_init_102 : decode cX4_init 102 = .ok (.putfield 34, 3) := by decide +kernel
theorem dX4_init_105 : decode cX4_init 105 = .ok (.return_, 1) := by decide +kernel
theorem dX4_addGate_0 : decode cX4_addGate 0 = .ok (.aload_n 0, 1) := by decide +kernel
theorem dX4_addGate_1 : decode cX4_addGate 1 = .ok (.getfield 30, 3) := by decide +kernel
theorem dX4_addGate_4 : decode cX4_addGate 4 = .ok (.istore_n 1, 1) := by decide +kernel
theorem dX4_addGate_5 : decode cX4_addGate 5 = .ok (.aload_n 0, 1) := by decide +kernel
theorem dX4_addGate_6 : decode cX4_addGate 6 = .ok (.dup, 1) := by decide +kernel
theorem dX4_addGate_7 : decode cX4_addGate 7 = .ok (.getfield 30, 3) := by decide +kernel
theorem dX4_addGate_10 : decode cX4_addGate 10 = .ok (.iconst 1, 1) := by decide +kernel
theorem dX4_addGate_11 : decode cX4_addGate 11 = .ok (.iadd, 1) := by decide +kernel
theorem dX4_addGate_12 : decode cX4_addGate 12 = .ok (.putfield 30, 3) := by decide +kernel
theorem dX4_addGate_15 : decode cX4_addGate 15 = .ok (.iload_n 1, 1) := by decide +kernel
theorem dX4_addGate_16 : decode cX4_addGate 16 = .ok (.ireturn, 1) := by decide +kernel
theorem dX4_addRoad_0 : decode cX4_addRoad 0 = .ok (.aload_n 0, 1) := by decide +kernel
theorem dX4_addRoad_1 : decode cX4_addRoad 1 = .ok (.getfield 34, 3) := by decide +kernel
theorem dX4_addRoad_4 : decode cX4_addRoad 4 = .ok (.istore 5, 2) := by decide +kernel
theorem dX4_addRoad_6 : decode cX4_addRoad 6 = .ok (.aload_n 0, 1) := by decide +kernel
theorem dX4_addRoad_7 : decode cX4_addRoad 7 = .ok (.getfield 9, 3) := by decide +kernel
theorem dX4_addRoad_10 : decode cX4_addRoad 10 = .ok (.iload 5, 2) := by decide +kernel
theorem dX4_addRoad_12 : decode cX4_addRoad 12 = .ok (.iload_n 1, 1) := by decide +kernel
theorem dX4_addRoad_13 : decode cX4_addRoad 13 = .ok (.iastore, 1) := by decide +kernel
theorem dX4_addRoad_14 : decode cX4_addRoad 14 = .ok (.aload_n 0, 1) := by decide +kernel
theorem dX4_addRoad_15 : decode cX4_addRoad 15 = .ok (.getfield 15, 3) := by decide +kernel
theorem dX4_addRoad_18 : decode cX4_addRoad 18 = .ok (.iload 5, 2) := by decide +kernel
theorem dX4_addRoad_20 : decode cX4_addRoad 20 = .ok (.iload_n 2, 1) := by decide +kernel
theorem dX4_addRoad_21 : decode cX4_addRoad 21 = .ok (.iastore, 1) := by decide +kernel
theorem dX4_addRoad_22 : decode cX4_addRoad 22 = .ok (.aload_n 0, 1) := by decide +kernel
theorem dX4_addRoad_23 : decode cX4_addRoad 23 = .ok (.getfield 18, 3) := by decide +kernel
theorem dX4_addRoad_26 : decode cX4_addRoad 26 = .ok (.iload 5, 2) := by decide +kernel
theorem dX4_addRoad_28 : decode cX4_addRoad 28 = .ok (.iload_n 3, 1) := by decide +kernel
theorem dX4_addRoad_29 : decode cX4_addRoad 29 = .ok (.iastore, 1) := by decide +kernel
theorem dX4_addRoad_30 : decode cX4_addRoad 30 = .ok (.aload_n 0, 1) := by decide +kernel
theorem dX4_addRoad_31 : decode cX4_addRoad 31 = .ok (.getfield 21, 3) := by decide +kernel
theorem dX4_addRoad_34 : decode cX4_addRoad 34 = .ok (.iload 5, 2) := by decide +kernel
theorem dX4_addRoad_36 : decode cX4_addRoad 36 = .ok (.iload 4, 2) := by decide +kernel
theorem dX4_addRoad_38 : decode cX4_addRoad 38 = .ok (.iastore, 1) := by decide +kernel
theorem dX4_addRoad_39 : decode cX4_addRoad 39 = .ok (.aload_n 0, 1) := by decide +kernel
theorem dX4_addRoad_40 : decode cX4_addRoad 40 = .ok (.dup, 1) := by decide +kernel
theorem dX4_addRoad_41 : decode cX4_addRoad 41 = .ok (.getfield 34, 3) := by decide +kernel
theorem dX4_addRoad_44 : decode cX4_addRoad 44 = .ok (.iconst 1, 1) := by decide +kernel
theorem dX4_addRoad_45 : decode cX4_addRoad 45 = .ok (.iadd, 1) := by decide +kernel
theorem dX4_addRoad_46 : decode cX4_addRoad 46 = .ok (.putfield 34, 3) := by decide +kernel
theorem dX4_addRoad_49 : decode cX4_addRoad 49 = .ok (.aload_n 0, 1) := by decide +kernel
theorem dX4_addRoad_50 : decode cX4_addRoad 50 = .ok (.iload_n 1, 1) := by decide +kernel
theorem dX4_addRoad_51 : decode cX4_addRoad 51 = .ok (.iload_n 2, 1) := by decide +kernel
theorem dX4_addRoad_52 : decode cX4_addRoad 52 = .ok (.iload_n 3, 1) := by decide +kernel
theorem dX4_addRoad_53 : decode cX4_addRoad 53 = .ok (.invokevirtual 37, 3) := by decide +kernel
theorem dX4_addRoad_56 : decode cX4_addRoad 56 = .ok (.iload 5, 2) := by decide +kernel
theorem dX4_addRoad_58 : decode cX4_addRoad 58 = .ok (.ireturn, 1) := by decide +kernel
theorem dX4_shortenDistances_0 : decode cX4_shortenDistances 0 = .ok (.iconst 0, 1) := by decide +kernel
theorem dX4_shortenDistances_1 : decode cX4_shortenDistances 1 = .ok (.istore 4, 2) := by decide +kernel
theorem dX4_shortenDistances_3 : decode cX4_shortenDistances 3 = .ok (.iload 4, 2) := by decide +kernel
theorem dX4_shortenDistances_5 : decode cX4_shortenDistances 5 = .ok (.aload_n 0, 1) := by decide +kernel
theorem dX4_shortenDistances_6 : decode cX4_shortenDistances 6 = .ok (.getfield 30, 3) := by decide +kernel
theorem dX4_shortenDistances_9 : decode cX4_shortenDistances 9 = .ok (.if_icmp .ge 107, 3) := by decide +kernel
theorem dX4_shortenDistances_12 : decode cX4_shortenDistances 12 = .ok (.iconst 0, 1) := by decide +kernel
theorem dX4_shortenDistances_13 : decode cX4_shortenDistances 13 = .ok (.istore 5, 2) := by decide +kernel
theorem dX4_shortenDistances_15 : decode cX4_shortenDistances 15 = .ok (.iload 5, 2) := by decide +kernel
theorem dX4_shortenDistances_17 : decode cX4_shortenDistances 17 = .ok (.aload_n 0, 1) := by decide +kernel
theorem dX4_shortenDistances_18 : decode cX4_shortenDistances 18 = .ok (.getfield 30, 3) := by decide +kernel
theorem dX4_shortenDistances_21 : decode cX4_shortenDistances 21 = .ok (.if_icmp .ge 89, 3) := by decide +kernel
theorem dX4_shortenDistances_24 : decode cX4_shortenDistances 24 = .ok (.aload_n 0, 1) := by decide +kernel
theorem dX4_shortenDistances_25 : decode cX4_shortenDistances 25 = .ok (.getfield 26, 3) := by decide +kernel
theorem dX4_shortenDistances_28 : decode cX4_shortenDistances 28 = .ok (.iload 4, 2) := by decide +kernel
theorem dX4_shortenDistances_30 : decode cX4_shortenDistances 30 = .ok (.aaload, 1) := by decide +kernel
theorem dX4_shortenDistances_31 : decode cX4_shortenDistances 31 = .ok (.iload_n 1, 1) := by decide +kernel
theorem dX4_shortenDistances_32 : decode cX4_shortenDistances 32 = .ok (.iaload, 1) := by decide +kernel
theorem dX4_shortenDistances_33 : decode cX4_shortenDistances 33 = .ok (.iload_n 3, 1) := by decide +kernel
theorem dX4_shortenDistances_34 : decode cX4_shortenDistances 34 = .ok (.iadd, 1) := by decide +kernel
theorem dX4_shortenDistances_35 : decode cX4_shortenDistances 35 = .ok (.aload_n 0, 1) := by decide +kernel
theorem dX4_shortenDistances_36 : decode cX4_shortenDistances 36 = .ok (.getfield 26, 3) := by decide +kernel
theorem dX4_shortenDistances_39 : decode cX4_shortenDistances 39 = .ok (.iload_n 2, 1) := by decide +kernel
theorem dX4_shortenDistances_40 : decode cX4_shortenDistances 40 = .ok (.aaload, 1) := by decide +kernel
theorem dX4_shortenDistances_41 : decode cX4_shortenDistances 41 = .ok (.iload 5, 2) := by decide +kernel
theorem dX4_shortenDistances_43 : decode cX4_shortenDistances 43 = .ok (.iaload, 1) := by decide +kernel
theorem dX4_shortenDistances_44 : decode cX4_shortenDistances 44 = .ok (.iadd, 1) := by decide +kernel
theorem dX4_shortenDistances_45 : decode cX4_shortenDistances 45 = .ok (.istore 6, 2) := by decide +kernel
theorem dX4_shortenDistances_47 : decode cX4_shortenDistances 47 = .ok (.aload_n 0, 1) := by decide +kernel
theorem dX4_shortenDistances_48 : decode cX4_shortenDistances 48 = .ok (.getfield 26, 3) := by decide +kernel
theorem dX4_shortenDistances_51 : decode cX4_shortenDistances 51 = .ok (.iload 4, 2) := by decide +kernel
theorem dX4_shortenDistances_53 : decode cX4_shortenDistances 53 = .ok (.aaload, 1) := by decide +kernel
theorem dX4_shortenDistances_54 : decode cX4_shortenDistances 54 = .ok (.iload_n 2, 1) := by decide +kernel
theorem dX4_shortenDistances_55 : decode cX4_shortenDistances 55 = .ok (.iaload, 1) := by decide +kernel
theorem dX4_shortenDistances_56 : decode cX4_shortenDistances 56 = .ok (.iload_n 3, 1) := by decide +kernel
theorem dX4_shortenDistances_57 : decode cX4_shortenDistances 57 = .ok (.iadd, 1) := by decide +kernel
theorem dX4_shortenDistances_58 : decode cX4_shortenDistances 58 = .ok (.aload_n 0, 1) := by decide +kernel
theorem dX4_shortenDistances_59 : decode cX4_shortenDistances 59 = .ok (.getfield 26, 3) := by decide +kernel
theorem dX4_shortenDistances_62 : decode cX4_shortenDistances 62 = .ok (.iload_n 1, 1) := by decide +kernel
theorem dX4_shortenDistances_63 : decode cX4_shortenDistances 63 = .ok (.aaload, 1) := by decide +kernel
theorem dX4_shortenDistances_64 : decode cX4_shortenDistances 64 = .ok (.iload 5, 2) := by decide +kernel
theorem dX4_shortenDistances_66 : decode cX4_shortenDistances 66 = .ok (.iaload, 1) := by decide +kernel
theorem dX4_shortenDistances_67 : decode cX4_shortenDistances 67 = .ok (.iadd, 1) := by decide +kernel
theorem dX4_shortenDistances_68 : decode cX4_shortenDistances 68 = .ok (.istore 7, 2) := by decide +kernel
theorem dX4_shortenDistances_70 : decode cX4_shortenDistances 70 = .ok (.iload 6, 2) := by decide +kernel
theorem dX4_shortenDistances_72 : decode cX4_shortenDistances 72 = .ok (.iload 7, 2) := by decide +kernel
theorem dX4_shortenDistances_74 : decode cX4_shortenDistances 74 = .ok (.invokestatic 41, 3) := by decide +kernel
theorem dX4_shortenDistances_77 : decode cX4_shortenDistances 77 = .ok (.istore 8, 2) := by decide +kernel
theorem dX4_shortenDistances_79 : decode cX4_shortenDistances 79 = .ok (.aload_n 0, 1) := by decide +kernel
theorem dX4_shortenDistances_80 : decode cX4_shortenDistances 80 = .ok (.getfield 26, 3) := by decide +kernel
theorem dX4_shortenDistances_83 : decode cX4_shortenDistances 83 = .ok (.iload 4, 2) := by decide +kernel
theorem dX4_shortenDistances_85 : decode cX4_shortenDistances 85 = .ok (.aaload, 1) := by decide +kernel
theorem dX4_shortenDistances_86 : decode cX4_shortenDistances 86 = .ok (.iload 5, 2) := by decide +kernel
theorem dX4_shortenDistances_88 : decode cX4_shortenDistances 88 = .ok (.aload_n 0, 1) := by decide +kernel
theorem dX4_shortenDistances_89 : decode cX4_shortenDistances 89 = .ok (.getfield 26, 3) := by decide +kernel
theorem dX4_shortenDistances_92 : decode cX4_shortenDistances 92 = .ok (.iload 4, 2) := by decide +kernel
theorem dX4_shortenDistances_94 : decode cX4_shortenDistances 94 = .ok (.aaload, 1) := by decide +kernel
theorem dX4_shortenDistances_95 : decode cX4_shortenDistances 95 = .ok (.iload 5, 2) := by decide +kernel
theorem dX4_shortenDistances_97 : decode cX4_shortenDistances 97 = .ok (.iaload, 1) := by decide +kernel
theorem dX4_shortenDistances_98 : decode cX4_shortenDistances 98 = .ok (.iload 8, 2) := by decide +kernel
theorem dX4_shortenDistances_100 : decode cX4_shortenDistances 100 = .ok (.invokestatic 41, 3) := by decide +kernel
theorem dX4_shortenDistances_103 : decode cX4_shortenDistances 103 = .ok (.iastore, 1) := by decide +kernel
theorem dX4_shortenDistances_104 : decode cX4_shortenDistances 104 = .ok (.iinc 5 1, 3) := by decide +kernel
theorem dX4_shortenDistances_107 : decode cX4_shortenDistances 107 = .ok (.goto (-92), 3) := by decide +kernel
theorem dX4_shortenDistances_110 : decode cX4_shortenDistances 110 = .ok (.iinc 4 1, 3) := by decide +kernel
theorem dX4_shortenDistances_113 : decode cX4_shortenDistances 113 = .ok (.goto (-110), 3) := by decide +kernel
theorem dX4_shortenDistances_116 : decode cX4_shortenDistances 116 = .ok (.return_, 1) := by decide +kernel
theorem dX4_hasWay_0 : decode cX4_hasWay 0 = .ok (.aload_n 0, 1) := by decide +kernel
theorem dX4_hasWay_1 : decode cX4_hasWay 1 = .ok (.getfield 26, 3) := by decide +kernel
theorem dX4_hasWay_4 : decode cX4_hasWay 4 = .ok (.iload_n 1, 1) := by decide +kernel
theorem dX4_hasWay_5 : decode cX4_hasWay 5 = .ok (.aaload, 1) := by decide +kernel
theorem dX4_hasWay_6 : decode cX4_hasWay 6 = .ok (.iload_n 2, 1) := by decide +kernel
theorem dX4_hasWay_7 : decode cX4_hasWay 7 = .ok (.iaload, 1) := by decide +kernel
theorem dX4_hasWay_8 : decode cX4_hasWay 8 = .ok (.ldc 29, 2) := by decide +kernel
theorem dX4_hasWay_10 : decode cX4_hasWay 10 = .ok (.if_icmp .ge 7, 3) := by decide +kernel
theorem dX4_hasWay_13 : decode cX4_hasWay 13 = .ok (.iconst 1, 1) := by decide +kernel
theorem dX4_hasWay_14 : decode cX4_hasWay 14 = .ok (.goto 4, 3) := by decide +kernel
theorem dX4_hasWay_17 : decode cX4_hasWay 17 = .ok (.iconst 0, 1) := by decide +kernel
theorem dX4_hasWay_18 : decode cX4_hasWay 18 = .ok (.ireturn, 1) := by decide +kernel
theorem dX4_roadOfWay_0 : decode cX4_roadOfWay 0 = .ok (.iload_n 1, 1) := by decide +kernel
theorem dX4_roadOfWay_1 : decode cX4_roadOfWay 1 = .ok (.istore 4, 2) := by decide +kernel
theorem dX4_roadOfWay_3 : decode cX4_roadOfWay 3 = .ok (.iconst 0, 1) := by decide +kernel
theorem dX4_roadOfWay_4 : decode cX4_roadOfWay 4 = .ok (.istore 5, 2) := by decide +kernel
theorem dX4_roadOfWay_6 : decode cX4_roadOfWay 6 = .ok (.iload 5, 2) := by decide +kernel
theorem dX4_roadOfWay_8 : decode cX4_roadOfWay 8 = .ok (.bipush 12, 2) := by decide +kernel
theorem dX4_roadOfWay_10 : decode cX4_roadOfWay 10 = .ok (.if_icmp .ge 43, 3) := by decide +kernel
theorem dX4_roadOfWay_13 : decode cX4_roadOfWay 13 = .ok (.aload_n 0, 1) := by decide +kernel
theorem dX4_roadOfWay_14 : decode cX4_roadOfWay 14 = .ok (.iload 4, 2) := by decide +kernel
theorem dX4_roadOfWay_16 : decode cX4_roadOfWay 16 = .ok (.iload_n 2, 1) := by decide +kernel
theorem dX4_roadOfWay_17 : decode cX4_roadOfWay 17 = .ok (.invokevirtual 47, 3) := by decide +kernel
theorem dX4_roadOfWay_20 : decode cX4_roadOfWay 20 = .ok (.istore 6, 2) := by decide +kernel
theorem dX4_roadOfWay_22 : decode cX4_roadOfWay 22 = .ok (.iload 6, 2) := by decide +kernel
theorem dX4_roadOfWay_24 : decode cX4_roadOfWay 24 = .ok (.iconst (-1), 1) := by decide +kernel
theorem dX4_roadOfWay_25 : decode cX4_roadOfWay 25 = .ok (.if_icmp .eq 9, 3) := by decide +kernel
theorem dX4_roadOfWay_28 : decode cX4_roadOfWay 28 = .ok (.iload 5, 2) := by decide +kernel
theorem dX4_roadOfWay_30 : decode cX4_roadOfWay 30 = .ok (.iload_n 3, 1) := by decide +kernel
theorem dX4_roadOfWay_31 : decode cX4_roadOfWay 31 = .ok (.if_icmp .ne 6, 3) := by decide +kernel
theorem dX4_roadOfWay_34 : decode cX4_roadOfWay 34 = .ok (.iload 6, 2) := by decide +kernel
theorem dX4_roadOfWay_36 : decode cX4_roadOfWay 36 = .ok (.ireturn, 1) := by decide +kernel
theorem dX4_roadOfWay_37 : decode cX4_roadOfWay 37 = .ok (.aload_n 0, 1) := by decide +kernel
theorem dX4_roadOfWay_38 : decode cX4_roadOfWay 38 = .ok (.iload 6, 2) := by decide +kernel
theorem dX4_roadOfWay_40 : decode cX4_roadOfWay 40 = .ok (.iload 4, 2) := by decide +kernel
theorem dX4_roadOfWay_42 : decode cX4_roadOfWay 42 = .ok (.invokevirtual 50, 3) := by decide +kernel
theorem dX4_roadOfWay_45 : decode cX4_roadOfWay 45 = .ok (.istore 4, 2) := by decide +kernel
theorem dX4_roadOfWay_47 : decode cX4_roadOfWay 47 = .ok (.iinc 5 1, 3) := by decide +kernel
theorem dX4_roadOfWay_50 : decode cX4_roadOfWay 50 = .ok (.goto (-44), 3) := by decide +kernel
theorem dX4_roadOfWay_53 : decode cX4_roadOfWay 53 = .ok (.iconst (-1), 1) := by decide +kernel
theorem dX4_roadOfWay_54 : decode cX4_roadOfWay 54 = .ok (.ireturn, 1) := by decide +kernel
theorem dX4_roadTowards_0 : decode cX4_roadTowards 0 = .ok (.iconst 0, 1) := by decide +kernel
theorem dX4_roadTowards_1 : decode cX4_roadTowards 1 = .ok (.istore_n 3, 1) := by decide +kernel
theorem dX4_roadTowards_2 : decode cX4_roadTowards 2 = .ok (.iload_n 3, 1) := by decide +kernel
theorem dX4_roadTowards_3 : decode cX4_roadTowards 3 = .ok (.aload_n 0, 1) := by decide +kernel
theorem dX4_roadTowards_4 : decode cX4_roadTowards 4 = .ok (.getfield 34, 3) := by decide +kernel
theorem dX4_roadTowards_7 : decode cX4_roadTowards 7 = .ok (.if_icmp .ge 52, 3) := by decide +kernel
theorem dX4_roadTowards_10 : decode cX4_roadTowards 10 = .ok (.aload_n 0, 1) := by decide +kernel
theorem dX4_roadTowards_11 : decode cX4_roadTowards 11 = .ok (.iload_n 3, 1) := by decide +kernel
theorem dX4_roadTowards_12 : decode cX4_roadTowards 12 = .ok (.iload_n 1, 1) := by decide +kernel
theorem dX4_roadTowards_13 : decode cX4_roadTowards 13 = .ok (.invokevirtual 50, 3) := by decide +kernel
theorem dX4_roadTowards_16 : decode cX4_roadTowards 16 = .ok (.istore 4, 2) := by decide +kernel
theorem dX4_roadTowards_18 : decode cX4_roadTowards 18 = .ok (.iload 4, 2) := by decide +kernel
theorem dX4_roadTowards_20 : decode cX4_roadTowards 20 = .ok (.iconst (-1), 1) := by decide +kernel
theorem dX4_roadTowards_21 : decode cX4_roadTowards 21 = .ok (.if_icmp .eq 32, 3) := by decide +kernel
theorem dX4_roadTowards_24 : decode cX4_roadTowards 24 = .ok (.aload_n 0, 1) := by decide +kernel
theorem dX4_roadTowards_25 : decode cX4_roadTowards 25 = .ok (.getfield 26, 3) := by decide +kernel
theorem dX4_roadTowards_28 : decode cX4_roadTowards 28 = .ok (.iload 4, 2) := by decide +kernel
theorem dX4_roadTowards_30 : decode cX4_roadTowards 30 = .ok (.aaload, 1) := by decide +kernel
theorem dX4_roadTowards_31 : decode cX4_roadTowards 31 = .ok (.iload_n 2, 1) := by decide +kernel
theorem dX4_roadTowards_32 : decode cX4_roadTowards 32 = .ok (.iaload, 1) := by decide +kernel
theorem dX4_roadTowards_33 : decode cX4_roadTowards 33 = .ok (.aload_n 0, 1) := by decide +kernel
theorem dX4_roadTowards_34 : decode cX4_roadTowards 34 = .ok (.getfield 18, 3) := by decide +kernel
theorem dX4_roadTowards_37 : decode cX4_roadTowards 37 = .ok (.iload_n 3, 1) := by decide +kernel
theorem dX4_roadTowards_38 : decode cX4_roadTowards 38 = .ok (.iaload, 1) := by decide +kernel
theorem dX4_roadTowards_39 : decode cX4_roadTowards 39 = .ok (.iadd, 1) := by decide +kernel
theorem dX4_roadTowards_40 : decode cX4_roadTowards 40 = .ok (.aload_n 0, 1) := by decide +kernel
theorem dX4_roadTowards_41 : decode cX4_roadTowards 41 = .ok (.getfield 26, 3) := by decide +kernel
theorem dX4_roadTowards_44 : decode cX4_roadTowards 44 = .ok (.iload_n 1, 1) := by decide +kernel
theorem dX4_roadTowards_45 : decode cX4_roadTowards 45 = .ok (.aaload, 1) := by decide +kernel
theorem dX4_roadTowards_46 : decode cX4_roadTowards 46 = .ok (.iload_n 2, 1) := by decide +kernel
theorem dX4_roadTowards_47 : decode cX4_roadTowards 47 = .ok (.iaload, 1) := by decide +kernel
theorem dX4_roadTowards_48 : decode cX4_roadTowards 48 = .ok (.if_icmp .ne 5, 3) := by decide +kernel
theorem dX4_roadTowards_51 : decode cX4_roadTowards 51 = .ok (.iload_n 3, 1) := by decide +kernel
theorem dX4_roadTowards_52 : decode cX4_roadTowards 52 = .ok (.ireturn, 1) := by decide +kernel
theorem dX4_roadTowards_53 : decode cX4_roadTowards 53 = .ok (.iinc 3 1, 3) := by decide +kernel
theorem dX4_roadTowards_56 : decode cX4_roadTowards 56 = .ok (.goto (-54), 3) := by decide +kernel
theorem dX4_roadTowards_59 : decode cX4_roadTowards 59 = .ok (.iconst (-1), 1) := by decide +kernel
theorem dX4_roadTowards_60 : decode cX4_roadTowards 60 = .ok (.ireturn, 1) := by decide +kernel
theorem dX4_otherEnd_0 : decode cX4_otherEnd 0 = .ok (.aload_n 0, 1) := by decide +kernel
theorem dX4_otherEnd_1 : decode cX4_otherEnd 1 = .ok (.getfield 9, 3) := by decide +kernel
theorem dX4_otherEnd_4 : decode cX4_otherEnd 4 = .ok (.iload_n 1, 1) := by decide +kernel
theorem dX4_otherEnd_5 : decode cX4_otherEnd 5 = .ok (.iaload, 1) := by decide +kernel
theorem dX4_otherEnd_6 : decode cX4_otherEnd 6 = .ok (.iload_n 2, 1) := by decide +kernel
theorem dX4_otherEnd_7 : decode cX4_otherEnd 7 = .ok (.if_icmp .ne 10, 3) := by decide +kernel
theorem dX4_otherEnd_10 : decode cX4_otherEnd 10 = .ok (.aload_n 0, 1) := by decide +kernel
theorem dX4_otherEnd_11 : decode cX4_otherEnd 11 = .ok (.getfield 15, 3) := by decide +kernel
theorem dX4_otherEnd_14 : decode cX4_otherEnd 14 = .ok (.iload_n 1, 1) := by decide +kernel
theorem dX4_otherEnd_15 : decode cX4_otherEnd 15 = .ok (.iaload, 1) := by decide +kernel
theorem dX4_otherEnd_16 : decode cX4_otherEnd 16 = .ok (.ireturn, 1) := by decide +kernel
theorem dX4_otherEnd_17 : decode cX4_otherEnd 17 = .ok (.aload_n 0, 1) := by decide +kernel
theorem dX4_otherEnd_18 : decode cX4_otherEnd 18 = .ok (.getfield 15, 3) := by decide +kernel
theorem dX4_otherEnd_21 : decode cX4_otherEnd 21 = .ok (.iload_n 1, 1) := by decide +kernel
theorem dX4_otherEnd_22 : decode cX4_otherEnd 22 = .ok (.iaload, 1) := by decide +kernel
theorem dX4_otherEnd_23 : decode cX4_otherEnd 23 = .ok (.iload_n 2, 1) := by decide +kernel
theorem dX4_otherEnd_24 : decode cX4_otherEnd 24 = .ok (.if_icmp .ne 12, 3) := by decide +kernel
theorem dX4_otherEnd_27 : decode cX4_otherEnd 27 = .ok (.aload_n 0, 1) := by decide +kernel
theorem dX4_otherEnd_28 : decode cX4_otherEnd 28 = .ok (.getfield 9, 3) := by decide +kernel
theorem dX4_otherEnd_31 : decode cX4_otherEnd 31 = .ok (.iload_n 1, 1) := by decide +kernel
theorem dX4_otherEnd_32 : decode cX4_otherEnd 32 = .ok (.iaload, 1) := by decide +kernel
theorem dX4_otherEnd_33 : decode cX4_otherEnd 33 = .ok (.goto 4, 3) := by decide +kernel
theorem dX4_otherEnd_36 : decode cX4_otherEnd 36 = .ok (.iconst (-1), 1) := by decide +kernel
theorem dX4_otherEnd_37 : decode cX4_otherEnd 37 = .ok (.ireturn, 1) := by decide +kernel
theorem dX5_init_0 : decode cX5_init 0 = .ok (.aload_n 0, 1) := by decide +kernel
theorem dX5_init_1 : decode cX5_init 1 = .ok (.invokespecial 3, 3) := by decide +kernel
theorem dX5_init_4 : decode cX5_init 4 = .ok (.aload_n 0, 1) := by decide +kernel
theorem dX5_init_5 : decode cX5_init 5 = .ok (.iconst 3, 1) := by decide +kernel
theorem dX5_init_6 : decode cX5_init 6 = .ok (.newarray .int, 2) := by decide +kernel
theorem dX5_init_8 : decode cX5_init 8 = .ok (.putfield 9, 3) := by decide +kernel
theorem dX5_init_11 : decode cX5_init 11 = .ok (.aload_n 0, 1) := by decide +kernel
theorem dX5_init_12 : decode cX5_init 12 = .ok (.iconst 3, 1) := by decide +kernel
theorem dX5_init_13 : decode cX5_init 13 = .ok (.newarray .int, 2) := by decide +kernel
theorem dX5_init_15 : decode cX5_init 15 = .ok (.putfield 15, 3) := by decide +kernel
theorem dX5_init_18 : decode cX5_init 18 = .ok (.iconst 0, 1) := by decide +kernel
theorem dX5_init_19 : decode cX5_init 19 = .ok (.istore_n 1, 1) := by decide +kernel
theorem dX5_init_20 : decode cX5_init 20 = .ok (.iload_n 1, 1) := by decide +kernel
theorem dX5_init_21 : decode cX5_init 21 = .ok (.iconst 3, 1) := by decide +kernel
theorem dX5_init_22 : decode cX5_init 22 = .ok (.if_icmp .ge 26, 3) := by decide +kernel
theorem dX5_init_25 : decode cX5_init 25 = .ok (.aload_n 0, 1) := by decide +kernel
theorem dX5_init_26 : decode cX5_init 26 = .ok (.getfield 9, 3) := by decide +kernel
theorem dX5_init_29 : decode cX5_init 29 = .ok (.iload_n 1, 1) := by decide +kernel
theorem dX5_init_30 : decode cX5_init 30 = .ok (.bipush 10, 2) := by decide +kernel
theorem dX5_init_32 : decode cX5_init 32 = .ok (.iastore, 1) := by decide +kernel
theorem dX5_init_33 : decode cX5_init 33 = .ok (.aload_n 0, 1) := by decide +kernel
theorem dX5_init_34 : decode cX5_init 34 = .ok (.getfield 15, 3) := by decide +kernel
theorem dX5_init_37 : decode cX5_init 37 = .ok (.iload_n 1, 1) := by decide +kernel
theorem dX5_init_38 : decode cX5_init 38 = .ok (.sipush 150, 3) := by decide +kernel
theorem dX5_init_41 : decode cX5_init 41 = .ok (.iastore, 1) := by decide +kernel
theorem dX5_init_42 : decode cX5_init 42 = .ok (.iinc 1 1, 3) := by decide +kernel
theorem dX5_init_45 : decode cX5_init 45 = .ok (.goto (-25), 3) := by decide +kernel
theorem dX5_init_48 : decode cX5_init 48 = .ok (.aload_n 0, 1) := by decide +kernel
theorem dX5_init_49 : decode cX5_init 49 = .ok (.sipush 5000, 3) := by decide +kernel
theorem dX5_init_52 : decode cX5_init 52 = .ok (.putfield 18, 3) := by decide +kernel
theorem dX5_init_55 : decode cX5_init 55 = .ok (.return_, 1) := by decide +kernel
theorem dX5_centsFor_0 : decode cX5_centsFor 0 = .ok (.iload_n 3, 1) := by decide +kernel
theorem dX5_centsFor_1 : decode cX5_centsFor 1 = .ok (.invokestatic 22, 3) := by decide +kernel
theorem dX5_centsFor_4 : decode cX5_centsFor 4 = .ok (.ifCond .eq 12, 3) := by decide +kernel
theorem dX5_centsFor_7 : decode cX5_centsFor 7 = .ok (.aload_n 0, 1) := by decide +kernel
theorem dX5_centsFor_8 : decode cX5_centsFor 8 = .ok (.getfield 15, 3) := by decide +kernel
theorem dX5_centsFor_11 : decode cX5_centsFor 11 = .ok (.iload_n 2, 1) := by decide +kernel
theorem dX5_centsFor_12 : decode cX5_centsFor 12 = .ok (.iaload, 1) := by decide +kernel
theorem dX5_centsFor_13 : decode cX5_centsFor 13 = .ok (.goto 5, 3) := by decide +kernel
theorem dX5_centsFor_16 : decode cX5_centsFor 16 = .ok (.bipush 100, 2) := by decide +kernel
theorem dX5_centsFor_18 : decode cX5_centsFor 18 = .ok (.istore 4, 2) := by decide +kernel
theorem dX5_centsFor_20 : decode cX5_centsFor 20 = .ok (.iload_n 1, 1) := by decide +kernel
theorem dX5_centsFor_21 : decode cX5_centsFor 21 = .ok (.aload_n 0, 1) := by decide +kernel
theorem dX5_centsFor_22 : decode cX5_centsFor 22 = .ok (.getfield 9, 3) := by decide +kernel
theorem dX5_centsFor_25 : decode cX5_centsFor 25 = .ok (.iload_n 2, 1) := by decide +kernel
theorem dX5_centsFor_26 : decode cX5_centsFor 26 = .ok (.iaload, 1) := by decide +kernel
theorem dX5_centsFor_27 : decode cX5_centsFor 27 = .ok (.imul, 1) := by decide +kernel
theorem dX5_centsFor_28 : decode cX5_centsFor 28 = .ok (.iload 4, 2) := by decide +kernel
theorem dX5_centsFor_30 : decode cX5_centsFor 30 = .ok (.imul, 1) := by decide +kernel
theorem dX5_centsFor_31 : decode cX5_centsFor 31 = .ok (.bipush 100, 2) := by decide +kernel
theorem dX5_centsFor_33 : decode cX5_centsFor 33 = .ok (.idiv, 1) := by decide +kernel
theorem dX5_centsFor_34 : decode cX5_centsFor 34 = .ok (.ireturn, 1) := by decide +kernel
theorem dX5_isBusy_0 : decode cX5_isBusy 0 = .ok (.iload_n 0, 1) := by decide +kernel
theorem dX5_isBusy_1 : decode cX5_isBusy 1 = .ok (.bipush 60, 2) := by decide +kernel
theorem dX5_isBusy_3 : decode cX5_isBusy 3 = .ok (.idiv, 1) := by decide +kernel
theorem dX5_isBusy_4 : decode cX5_isBusy 4 = .ok (.bipush 24, 2) := by decide +kernel
theorem dX5_isBusy_6 : decode cX5_isBusy 6 = .ok (.irem, 1) := by decide +kernel
theorem dX5_isBusy_7 : decode cX5_isBusy 7 = .ok (.istore_n 1, 1) := by decide +kernel
theorem dX5_isBusy_8 : decode cX5_isBusy 8 = .ok (.iload_n 1, 1) := by decide +kernel
theorem dX5_isBusy_9 : decode cX5_isBusy 9 = .ok (.bipush 7, 2) := by decide +kernel
theorem dX5_isBusy_11 : decode cX5_isBusy 11 = .ok (.if_icmp .eq 21, 3) := by decide +kernel
theorem dX5_isBusy_14 : decode cX5_isBusy 14 = .ok (.iload_n 1, 1) := by decide +kernel
theorem dX5_isBusy_15 : decode cX5_isBusy 15 = .ok (.bipush 8, 2) := by decide +kernel
theorem dX5_isBusy_17 : decode cX5_isBusy 17 = .ok (.if_icmp .eq 15, 3) := by decide +kernel
theorem dX5_isBusy_20 : decode cX5_isBusy 20 = .ok (.iload_n 1, 1) := by decide +kernel
theorem dX5_isBusy_21 : decode cX5_isBusy 21 = .ok (.bipush 16, 2) := by decide +kernel
theorem dX5_isBusy_23 : decode cX5_isBusy 23 = .ok (.if_icmp .eq 9, 3) := by decide +kernel
theorem dX5_isBusy_26 : decode cX5_isBusy 26 = .ok (.iload_n 1, 1) := by decide +kernel
theorem dX5_isBusy_27 : decode cX5_isBusy 27 = .ok (.bipush 17, 2) := by decide +kernel
theorem dX5_isBusy_29 : decode cX5_isBusy 29 = .ok (.if_icmp .ne 7, 3) := by decide +kernel
theorem dX5_isBusy_32 : decode cX5_isBusy 32 = .ok (.iconst 1, 1) := by decide +kernel
theorem dX5_isBusy_33 : decode cX5_isBusy 33 = .ok (.goto 4, 3) := by decide +kernel
theorem dX5_isBusy_36 : decode cX5_isBusy 36 = .ok (.iconst 0, 1) := by decide +kernel
theorem dX5_isBusy_37 : decode cX5_isBusy 37 = .ok (.ireturn, 1) := by decide +kernel
end
section
theorem dX6_init_0 : decode cX6_init 0 = .ok (.aload_n 0, 1) := by decide +kernel
theorem dX6_init_1 : decode cX6_init 1 = .ok (.invokespecial 1, 3) := by decide +kernel
theorem dX6_init_4 : decode cX6_init 4 = .ok (.aload_n 0, 1) := by decide +kernel
theorem dX6_init_5 : decode cX6_init 5 = .ok (.new 7, 3) := by decide +kernel
theorem dX6_init_8 : decode cX6_init 8 = .ok (.dup, 1) := by decide +kernel
theorem dX6_init_9 : decode cX6_init 9 = .ok (.invokespecial 9, 3) := by decide +kernel
theorem dX6_init_12 : decode cX6_init 12 = .ok (.putfield 10, 3) := by decide +kernel
theorem dX6_init_15 : decode cX6_init 15 = .ok (.aload_n 0, 1) := by decide +kernel
theorem dX6_init_16 : decode cX6_init 16 = .ok (.new 16, 3) := by decide +kernel
theorem dX6_init_19 : decode cX6_init 19 = .ok (.dup, 1) := by decide +kernel
theorem dX6_init_20 : decode cX6_init 20 = .ok (.invokespecial 18, 3) := by decide +kernel
theorem dX6_init_23 : decode cX6_init 23 = .ok (.putfield 19, 3) := by decide +kernel
theorem dX6_init_26 : decode cX6_init 26 = .ok (.aload_n 0, 1) := by decide +kernel
theorem dX6_init_27 : decode cX6_init 27 = .ok (.new 23, 3) := by decide +kernel
theorem dX6_init_30 : decode cX6_init 30 = .ok (.dup, 1) := by decide +kernel
theorem dX6_init_31 : decode cX6_init 31 = .ok (.invokespecial 25, 3) := by decide +kernel
theorem dX6_init_34 : decode cX6_init 34 = .ok (.putfield 26, 3) := by decide +kernel
theorem dX6_init_37 : decode cX6_init 37 = .ok (.aload_n 0, 1) := by decide +kernel
theorem dX6_init_38 : decode cX6_init 38 = .ok (.new 30, 3) := by decide +kernel
theorem dX6_init_41 : decode cX6_init 41 = .ok (.dup, 1) := by decide +kernel
theorem dX6_init_42 : decode cX6_init 42 = .ok (.invokespecial 32, 3) := by decide +kernel
theorem dX6_init_45 : decode cX6_init 45 = .ok (.putfield 33, 3) := by decide +kernel
theorem dX6_init_48 : decode cX6_init 48 = .ok (.aload_n 0, 1) := by decide +kernel
theorem dX6_init_49 : decode cX6_init 49 = .ok (.new 37, 3) := by decide +kernel
theorem dX6_init_52 : decode cX6_init 52 = .ok (.dup, 1) := by decide +kernel
theorem dX6_init_53 : decode cX6_init 53 = .ok (.invokespecial 39, 3) := by decide +kernel
theorem dX6_init_56 : decode cX6_init 56 = .ok (.putfield 40, 3) := by decide +kernel
theorem dX6_init_59 : decode cX6_init 59 = .ok (.aload_n 0, 1) := by decide +kernel
theorem dX6_init_60 : decode cX6_init 60 = .ok (.new 44, 3) := by decide +kernel
theorem dX6_init_63 : decode cX6_init 63 = .ok (.dup, 1) := by decide +kernel
theorem dX6_init_64 : decode cX6_init 64 = .ok (.invokespecial 46, 3) := by decide +kernel
theorem dX6_init_67 : decode cX6_init 67 = .ok (.putfield 47, 3) := by decide +kernel
theorem dX6_init_70 : decode cX6_init 70 = .ok (.aload_n 0, 1) := by decide +kernel
theorem dX6_init_71 : decode cX6_init 71 = .ok (.iconst 0, 1) := by decide +kernel
theorem dX6_init_72 : decode cX6_init 72 = .ok (.putfield 51, 3) := by decide +kernel
theorem dX6_init_75 : decode cX6_init 75 = .ok (.return_, 1) := by decide +kernel
theorem dX6_gate_0 : decode cX6_gate 0 = .ok (.aload_n 0, 1) := by decide +kernel
theorem dX6_gate_1 : decode cX6_gate 1 = .ok (.getfield 10, 3) := by decide +kernel
theorem dX6_gate_4 : decode cX6_gate 4 = .ok (.getfield 55, 3) := by decide +kernel
theorem dX6_gate_7 : decode cX6_gate 7 = .ok (.bipush 12, 2) := by decide +kernel
theorem dX6_gate_9 : decode cX6_gate 9 = .ok (.if_icmp .lt 13, 3) := by decide +kernel
theorem dX6_gate_12 : decode cX6_gate 12 = .ok (.new 58, 3) := by decide +kernel
theorem dX6_gate_15 : decode cX6_gate 15 = .ok (.dup, 1) := by decide +kernel
theorem dX6_gate_16 : decode cX6_gate 16 = .ok (.ldc 60, 2) := by decide +kernel
theorem dX6_gate_18 : decode cX6_gate 18 = .ok (.invokespecial 62, 3) := by decide +kernel
theorem dX6_gate_21 : decode cX6_gate 21 = .ok (.athrow, 1) := by decide +kernel
theorem dX6_gate_22 : decode cX6_gate 22 = .ok (.aload_n 0, 1) := by decide +kernel
theorem dX6_gate_23 : decode cX6_gate 23 = .ok (.getfield 10, 3) := by decide +kernel
theorem dX6_gate_26 : decode cX6_gate 26 = .ok (.invokevirtual 65, 3) := by decide +kernel
theorem dX6_gate_29 : decode cX6_gate 29 = .ok (.ireturn, 1) := by decide +kernel
theorem dX6_road_0 : decode cX6_road 0 = .ok (.aload_n 0, 1) := by decide +kernel
theorem dX6_road_1 : decode cX6_road 1 = .ok (.iload_n 1, 1) := by decide +kernel
theorem dX6_road_2 : decode cX6_road 2 = .ok (.invokevirtual 69, 3) := by decide +kernel
theorem dX6_road_5 : decode cX6_road 5 = .ok (.aload_n 0, 1) := by decide +kernel
theorem dX6_road_6 : decode cX6_road 6 = .ok (.iload_n 2, 1) := by decide +kernel
theorem dX6_road_7 : decode cX6_road 7 = .ok (.invokevirtual 69, 3) := by decide +kernel
theorem dX6_road_10 : decode cX6_road 10 = .ok (.iload_n 3, 1) := by decide +kernel
theorem dX6_road_11 : decode cX6_road 11 = .ok (.iconst 1, 1) := by decide +kernel
theorem dX6_road_12 : decode cX6_road 12 = .ok (.bipush 50, 2) := by decide +kernel
theorem dX6_road_14 : decode cX6_road 14 = .ok (.invokestatic 73, 3) := by decide +kernel
theorem dX6_road_17 : decode cX6_road 17 = .ok (.iload 4, 2) := by decide +kernel
theorem dX6_road_19 : decode cX6_road 19 = .ok (.iconst 0, 1) := by decide +kernel
theorem dX6_road_20 : decode cX6_road 20 = .ok (.iconst 3, 1) := by decide +kernel
theorem dX6_road_21 : decode cX6_road 21 = .ok (.invokestatic 73, 3) := by decide +kernel
theorem dX6_road_24 : decode cX6_road 24 = .ok (.iload_n 1, 1) := by decide +kernel
theorem dX6_road_25 : decode cX6_road 25 = .ok (.iload_n 2, 1) := by decide +kernel
theorem dX6_road_26 : decode cX6_road 26 = .ok (.if_icmp .ne 13, 3) := by decide +kernel
theorem dX6_road_29 : decode cX6_road 29 = .ok (.new 77, 3) := by decide +kernel
theorem dX6_road_32 : decode cX6_road 32 = .ok (.dup, 1) := by decide +kernel
theorem dX6_road_33 : decode cX6_road 33 = .ok (.ldc 79, 2) := by decide +kernel
theorem dX6_road_35 : decode cX6_road 35 = .ok (.invokespecial 81, 3) := by decide +kernel
theorem dX6_road_38 : decode cX6_road 38 = .ok (.athrow, 1) := by decide +kernel
theorem dX6_road_39 : decode cX6_road 39 = .ok (.aload_n 0, 1) := by decide +kernel
theorem dX6_road_40 : decode cX6_road 40 = .ok (.getfield 10, 3) := by decide +kernel
theorem dX6_road_43 : decode cX6_road 43 = .ok (.getfield 82, 3) := by decide +kernel
theorem dX6_road_46 : decode cX6_road 46 = .ok (.bipush 24, 2) := by decide +kernel
theorem dX6_road_48 : decode cX6_road 48 = .ok (.if_icmp .lt 13, 3) := by decide +kernel
theorem dX6_road_51 : decode cX6_road 51 = .ok (.new 58, 3) := by decide +kernel
theorem dX6_road_54 : decode cX6_road 54 = .ok (.dup, 1) := by decide +kernel
theorem dX6_road_55 : decode cX6_road 55 = .ok (.ldc 85, 2) := by decide +kernel
theorem dX6_road_57 : decode cX6_road 57 = .ok (.invokespecial 62, 3) := by decide +kernel
theorem dX6_road_60 : decode cX6_road 60 = .ok (.athrow, 1) := by decide +kernel
theorem dX6_road_61 : decode cX6_road 61 = .ok (.aload_n 0, 1) := by decide +kernel
theorem dX6_road_62 : decode cX6_road 62 = .ok (.getfield 10, 3) := by decide +kernel
theorem dX6_road_65 : decode cX6_road 65 = .ok (.iload_n 1, 1) := by decide +kernel
theorem dX6_road_66 : decode cX6_road 66 = .ok (.iload_n 2, 1) := by decide +kernel
theorem dX6_road_67 : decode cX6_road 67 = .ok (.iload_n 3, 1) := by decide +kernel
theorem dX6_road_68 : decode cX6_road 68 = .ok (.iload 4, 2) := by decide +kernel
theorem dX6_road_70 : decode cX6_road 70 = .ok (.invokevirtual 87, 3) := by decide +kernel
theorem dX6_road_73 : decode cX6_road 73 = .ok (.ireturn, 1) := by decide +kernel
theorem dX6_rate_0 : decode cX6_rate 0 = .ok (.iload_n 1, 1) := by decide +kernel
theorem dX6_rate_1 : decode cX6_rate 1 = .ok (.iconst 0, 1) := by decide +kernel
theorem dX6_rate_2 : decode cX6_rate 2 = .ok (.iconst 2, 1) := by decide +kernel
theorem dX6_rate_3 : decode cX6_rate 3 = .ok (.invokestatic 73, 3) := by decide +kernel
theorem dX6_rate_6 : decode cX6_rate 6 = .ok (.iload_n 2, 1) := by decide +kernel
theorem dX6_rate_7 : decode cX6_rate 7 = .ok (.iconst 0, 1) := by decide +kernel
theorem dX6_rate_8 : decode cX6_rate 8 = .ok (.bipush 100, 2) := by decide +kernel
theorem dX6_rate_10 : decode cX6_rate 10 = .ok (.invokestatic 73, 3) := by decide +kernel
theorem dX6_rate_13 : decode cX6_rate 13 = .ok (.iload_n 3, 1) := by decide +kernel
theorem dX6_rate_14 : decode cX6_rate 14 = .ok (.iconst 0, 1) := by decide +kernel
theorem dX6_rate_15 : decode cX6_rate 15 = .ok (.sipush 300, 3) := by decide +kernel
theorem dX6_rate_18 : decode cX6_rate 18 = .ok (.invokestatic 73, 3) := by decide +kernel
theorem dX6_rate_21 : decode cX6_rate 21 = .ok (.aload_n 0, 1) := by decide +kernel
theorem dX6_rate_22 : decode cX6_rate 22 = .ok (.getfield 19, 3) := by decide +kernel
theorem dX6_rate_25 : decode cX6_rate 25 = .ok (.getfield 91, 3) := by decide +kernel
theorem dX6_rate_28 : decode cX6_rate 28 = .ok (.iload_n 1, 1) := by decide +kernel
theorem dX6_rate_29 : decode cX6_rate 29 = .ok (.iload_n 2, 1) := by decide +kernel
theorem dX6_rate_30 : decode cX6_rate 30 = .ok (.iastore, 1) := by decide +kernel
theorem dX6_rate_31 : decode cX6_rate 31 = .ok (.aload_n 0, 1) := by decide +kernel
theorem dX6_rate_32 : decode cX6_rate 32 = .ok (.getfield 19, 3) := by decide +kernel
theorem dX6_rate_35 : decode cX6_rate 35 = .ok (.getfield 95, 3) := by decide +kernel
theorem dX6_rate_38 : decode cX6_rate 38 = .ok (.iload_n 1, 1) := by decide +kernel
theorem dX6_rate_39 : decode cX6_rate 39 = .ok (.iload_n 3, 1) := by decide +kernel
theorem dX6_rate_40 : decode cX6_rate 40 = .ok (.iastore, 1) := by decide +kernel
theorem dX6_rate_41 : decode cX6_rate 41 = .ok (.return_, 1) := by decide +kernel
theorem dX6_most_0 : decode cX6_most 0 = .ok (.iload_n 1, 1) := by decide +kernel
theorem dX6_most_1 : decode cX6_most 1 = .ok (.iconst 0, 1) := by decide +kernel
theorem dX6_most_2 : decode cX6_most 2 = .ok (.ldc 98, 2) := by decide +kernel
theorem dX6_most_4 : decode cX6_most 4 = .ok (.invokestatic 73, 3) := by decide +kernel
theorem dX6_most_7 : decode cX6_most 7 = .ok (.aload_n 0, 1) := by decide +kernel
theorem dX6_most_8 : decode cX6_most 8 = .ok (.getfield 19, 3) := by decide +kernel
theorem dX6_most_11 : decode cX6_most 11 = .ok (.getfield 99, 3) := by decide +kernel
theorem dX6_most_14 : decode cX6_most 14 = .ok (.istore_n 2, 1) := by decide +kernel
theorem dX6_most_15 : decode cX6_most 15 = .ok (.aload_n 0, 1) := by decide +kernel
theorem dX6_most_16 : decode cX6_most 16 = .ok (.getfield 19, 3) := by decide +kernel
theorem dX6_most_19 : decode cX6_most 19 = .ok (.iload_n 1, 1) := by decide +kernel
theorem dX6_most_20 : decode cX6_most 20 = .ok (.putfield 99, 3) := by decide +kernel
theorem dX6_most_23 : decode cX6_most 23 = .ok (.iload_n 2, 1) := by decide +kernel
theorem dX6_most_24 : decode cX6_most 24 = .ok (.ireturn, 1) := by decide +kernel
theorem dX6_plate_0 : decode cX6_plate 0 = .ok (.iload_n 1, 1) := by decide +kernel
theorem dX6_plate_1 : decode cX6_plate 1 = .ok (.invokestatic 102, 3) := by decide +kernel
theorem dX6_plate_4 : decode cX6_plate 4 = .ok (.iload_n 2, 1) := by decide +kernel
theorem dX6_plate_5 : decode cX6_plate 5 = .ok (.iconst 0, 1) := by decide +kernel
theorem dX6_plate_6 : decode cX6_plate 6 = .ok (.iconst 2, 1) := by decide +kernel
theorem dX6_plate_7 : decode cX6_plate 7 = .ok (.invokestatic 73, 3) := by decide +kernel
theorem dX6_plate_10 : decode cX6_plate 10 = .ok (.iload_n 3, 1) := by decide +kernel
theorem dX6_plate_11 : decode cX6_plate 11 = .ok (.iconst (-1), 1) := by decide +kernel
theorem dX6_plate_12 : decode cX6_plate 12 = .ok (.if_icmp .eq 9, 3) := by decide +kernel
theorem dX6_plate_15 : decode cX6_plate 15 = .ok (.iload_n 3, 1) := by decide +kernel
theorem dX6_plate_16 : decode cX6_plate 16 = .ok (.iconst 0, 1) := by decide +kernel
theorem dX6_plate_17 : decode cX6_plate 17 = .ok (.iconst 5, 1) := by decide +kernel
theorem dX6_plate_18 : decode cX6_plate 18 = .ok (.invokestatic 73, 3) := by decide +kernel
theorem dX6_plate_21 : decode cX6_plate 21 = .ok (.aload_n 0, 1) := by decide +kernel
theorem dX6_plate_22 : decode cX6_plate 22 = .ok (.getfield 26, 3) := by decide +kernel
theorem dX6_plate_25 : decode cX6_plate 25 = .ok (.getfield 105, 3) := by decide +kernel
theorem dX6_plate_28 : decode cX6_plate 28 = .ok (.iload_n 1, 1) := by decide +kernel
theorem dX6_plate_29 : decode cX6_plate 29 = .ok (.iload_n 2, 1) := by decide +kernel
theorem dX6_plate_30 : decode cX6_plate 30 = .ok (.iastore, 1) := by decide +kernel
theorem dX6_plate_31 : decode cX6_plate 31 = .ok (.aload_n 0, 1) := by decide +kernel
theorem dX6_plate_32 : decode cX6_plate 32 = .ok (.getfield 26, 3) := by decide +kernel
theorem dX6_plate_35 : decode cX6_plate 35 = .ok (.getfield 108, 3) := by decide +kernel
theorem dX6_plate_38 : decode cX6_plate 38 = .ok (.iload_n 1, 1) := by decide +kernel
theorem dX6_plate_39 : decode cX6_plate 39 = .ok (.iload_n 3, 1) := by decide +kernel
theorem dX6_plate_40 : decode cX6_plate 40 = .ok (.iastore, 1) := by decide +kernel
theorem dX6_plate_41 : decode cX6_plate 41 = .ok (.return_, 1) := by decide +kernel
theorem dX6_top_0 : decode cX6_top 0 = .ok (.iload_n 1, 1) := by decide +kernel
theorem dX6_top_1 : decode cX6_top 1 = .ok (.invokestatic 111, 3) := by decide +kernel
theorem dX6_top_4 : decode cX6_top 4 = .ok (.iload_n 2, 1) := by decide +kernel
theorem dX6_top_5 : decode cX6_top 5 = .ok (.iconst 1, 1) := by decide +kernel
theorem dX6_top_6 : decode cX6_top 6 = .ok (.ldc 98, 2) := by decide +kernel
theorem dX6_top_8 : decode cX6_top 8 = .ok (.invokestatic 73, 3) := by decide +kernel
theorem dX6_top_11 : decode cX6_top 11 = .ok (.aload_n 0, 1) := by decide +kernel
theorem dX6_top_12 : decode cX6_top 12 = .ok (.getfield 47, 3) := by decide +kernel
theorem dX6_top_15 : decode cX6_top 15 = .ok (.getfield 114, 3) := by decide +kernel
theorem dX6_top_18 : decode cX6_top 18 = .ok (.iload_n 1, 1) := by decide +kernel
theorem dX6_top_19 : decode cX6_top 19 = .ok (.dup2, 1) := by decide +kernel
theorem dX6_top_20 : decode cX6_top 20 = .ok (.laload, 1) := by decide +kernel
theorem dX6_top_21 : decode cX6_top 21 = .ok (.iload_n 2, 1) := by decide +kernel
theorem dX6_top_22 : decode cX6_top 22 = .ok (.i2l, 1) := by decide +kernel
theorem dX6_top_23 : decode cX6_top 23 = .ok (.ladd, 1) := by decide +kernel
theorem dX6_top_24 : decode cX6_top 24 = .ok (.lastore, 1) := by decide +kernel
theorem dX6_top_25 : decode cX6_top 25 = .ok (.aload_n 0, 1) := by decide +kernel
theorem dX6_top_26 : decode cX6_top 26 = .ok (.getfield 47, 3) := by decide +kernel
theorem dX6_top_29 : decode cX6_top 29 = .ok (.getfield 114, 3) := by decide +kernel
theorem dX6_top_32 : decode cX6_top 32 = .ok (.iload_n 1, 1) := by decide +kernel
theorem dX6_top_33 : decode cX6_top 33 = .ok (.laload, 1) := by decide +kernel
theorem dX6_top_34 : decode cX6_top 34 = .ok (.lreturn, 1) := by decide +kernel
theorem dX6_exempt_0 : decode cX6_exempt 0 = .ok (.iload_n 1, 1) := by decide +kernel
theorem dX6_exempt_1 : decode cX6_exempt 1 = .ok (.invokestatic 102, 3) := by decide +kernel
theorem dX6_exempt_4 : decode cX6_exempt 4 = .ok (.iload_n 2, 1) := by decide +kernel
theorem dX6_exempt_5 : decode cX6_exempt 5 = .ok (.iconst 0, 1) := by decide +kernel
theorem dX6_exempt_6 : decode cX6_exempt 6 = .ok (.ldc 98, 2) := by decide +kernel
theorem dX6_exempt_8 : decode cX6_exempt 8 = .ok (.invokestatic 73, 3) := by decide +kernel
theorem dX6_exempt_11 : decode cX6_exempt 11 = .ok (.iload_n 3, 1) := by decide +kernel
theorem dX6_exempt_12 : decode cX6_exempt 12 = .ok (.iload_n 2, 1) := by decide +kernel
theorem dX6_exempt_13 : decode cX6_exempt 13 = .ok (.ldc 98, 2) := by decide +kernel
theorem dX6_exempt_15 : decode cX6_exempt 15 = .ok (.invokestatic 73, 3) := by decide +kernel
theorem dX6_exempt_18 : decode cX6_exempt 18 = .ok (.aload_n 0, 1) := by decide +kernel
theorem dX6_exempt_19 : decode cX6_exempt 19 = .ok (.getfield 26, 3) := by decide +kernel
theorem dX6_exempt_22 : decode cX6_exempt 22 = .ok (.getfield 118, 3) := by decide +kernel
theorem dX6_exempt_25 : decode cX6_exempt 25 = .ok (.bipush 20, 2) := by decide +kernel
theorem dX6_exempt_27 : decode cX6_exempt 27 = .ok (.if_icmp .lt 13, 3) := by decide +kernel
theorem dX6_exempt_30 : decode cX6_exempt 30 = .ok (.new 58, 3) := by decide +kernel
theorem dX6_exempt_33 : decode cX6_exempt 33 = .ok (.dup, 1) := by decide +kernel
theorem dX6_exempt_34 : decode cX6_exempt 34 = .ok (.ldc 121, 2) := by decide +kernel
theorem dX6_exempt_36 : decode cX6_exempt 36 = .ok (.invokespecial 62, 3) := by decide +kernel
theorem dX6_exempt_39 : decode cX6_exempt 39 = .ok (.athrow, 1) := by decide +kernel
theorem dX6_exempt_40 : decode cX6_exempt 40 = .ok (.aload_n 0, 1) := by decide +kernel
theorem dX6_exempt_41 : decode cX6_exempt 41 = .ok (.getfield 26, 3) := by decide +kernel
theorem dX6_exempt_44 : decode cX6_exempt 44 = .ok (.iload_n 1, 1) := by decide +kernel
theorem dX6_exempt_45 : decode cX6_exempt 45 = .ok (.iload_n 2, 1) := by decide +kernel
theorem dX6_exempt_46 : decode cX6_exempt 46 = .ok (.iload_n 3, 1) := by decide +kernel
theorem dX6_exempt_47 : decode cX6_exempt 47 = .ok (.invokevirtual 123, 3) := by decide +kernel
theorem dX6_exempt_50 : decode cX6_exempt 50 = .ok (.ireturn, 1) := by decide +kernel
theorem dX6_read_0 : decode cX6_read 0 = .ok (.aload_n 0, 1) := by decide +kernel
theorem dX6_read_1 : decode cX6_read 1 = .ok (.iload_n 1, 1) := by decide +kernel
theorem dX6_read_2 : decode cX6_read 2 = .ok (.invokevirtual 69, 3) := by decide +kernel
theorem dX6_read_5 : decode cX6_read 5 = .ok (.iload_n 2, 1) := by decide +kernel
theorem dX6_read_6 : decode cX6_read 6 = .ok (.invokestatic 102, 3) := by decide +kernel
theorem dX6_read_9 : decode cX6_read 9 = .ok (.iload_n 3, 1) := by decide +kernel
theorem dX6_read_10 : decode cX6_read 10 = .ok (.iconst 0, 1) := by decide +kernel
theorem dX6_read_11 : decode cX6_read 11 = .ok (.aload_n 0, 1) := by decide +kernel
theorem dX6_read_12 : decode cX6_read 12 = .ok (.getfield 51, 3) := by decide +kernel
theorem dX6_read_15 : decode cX6_read 15 = .ok (.invokestatic 73, 3) := by decide +kernel
theorem dX6_read_18 : decode cX6_read 18 = .ok (.aload_n 0, 1) := by decide +kernel
theorem dX6_read_19 : decode cX6_read 19 = .ok (.getfield 33, 3) := by decide +kernel
theorem dX6_read_22 : decode cX6_read 22 = .ok (.getfield 127, 3) := by decide +kernel
theorem dX6_read_25 : decode cX6_read 25 = .ok (.bipush 100, 2) := by decide +kernel
theorem dX6_read_27 : decode cX6_read 27 = .ok (.if_icmp .lt 13, 3) := by decide +kernel
theorem dX6_read_30 : decode cX6_read 30 = .ok (.new 58, 3) := by decide +kernel
theorem dX6_read_33 : decode cX6_read 33 = .ok (.dup, 1) := by decide +kernel
theorem dX6_read_34 : decode cX6_read 34 = .ok (.ldc 130, 2) := by decide +kernel
theorem dX6_read_36 : decode cX6_read 36 = .ok (.invokespecial 62, 3) := by decide +kernel
theorem dX6_read_39 : decode cX6_read 39 = .ok (.athrow, 1) := by decide +kernel
theorem dX6_read_40 : decode cX6_read 40 = .ok (.aload_n 0, 1) := by decide +kernel
theorem dX6_read_41 : decode cX6_read 41 = .ok (.getfield 33, 3) := by decide +kernel
theorem dX6_read_44 : decode cX6_read 44 = .ok (.iload_n 1, 1) := by decide +kernel
theorem dX6_read_45 : decode cX6_read 45 = .ok (.iload_n 2, 1) := by decide +kernel
theorem dX6_read_46 : decode cX6_read 46 = .ok (.iload_n 3, 1) := by decide +kernel
theorem dX6_read_47 : decode cX6_read 47 = .ok (.invokevirtual 132, 3) := by decide +kernel
theorem dX6_read_50 : decode cX6_read 50 = .ok (.ireturn, 1) := by decide +kernel
theorem dX6_strike_0 : decode cX6_strike 0 = .ok (.aload_n 0, 1) := by decide +kernel
theorem dX6_strike_1 : decode cX6_strike 1 = .ok (.iload_n 1, 1) := by decide +kernel
theorem dX6_strike_2 : decode cX6_strike 2 = .ok (.invokevirtual 135, 3) := by decide +kernel
theorem dX6_strike_5 : decode cX6_strike 5 = .ok (.aload_n 0, 1) := by decide +kernel
theorem dX6_strike_6 : decode cX6_strike 6 = .ok (.getfield 33, 3) := by decide +kernel
theorem dX6_strike_9 : decode cX6_strike 9 = .ok (.getfield 138, 3) := by decide +kernel
theorem dX6_strike_12 : decode cX6_strike 12 = .ok (.iload_n 1, 1) := by decide +kernel
theorem dX6_strike_13 : decode cX6_strike 13 = .ok (.baload, 1) := by decide +kernel
theorem dX6_strike_14 : decode cX6_strike 14 = .ok (.ifCond .eq 13, 3) := by decide +kernel
theorem dX6_strike_17 : decode cX6_strike 17 = .ok (.new 58, 3) := by decide +kernel
theorem dX6_strike_20 : decode cX6_strike 20 = .ok (.dup, 1) := by decide +kernel
theorem dX6_strike_21 : decode cX6_strike 21 = .ok (.ldc 142, 2) := by decide +kernel
theorem dX6_strike_23 : decode cX6_strike 23 = .ok (.invokespecial 62, 3) := by decide +kernel
theorem dX6_strike_26 : decode cX6_strike 26 = .ok (.athrow, 1) := by decide +kernel
theorem dX6_strike_27 : decode cX6_strike 27 = .ok (.aload_n 0, 1) := by decide +kernel
theorem dX6_strike_28 : decode cX6_strike 28 = .ok (.getfield 33, 3) := by decide +kernel
theorem dX6_strike_31 : decode cX6_strike 31 = .ok (.getfield 138, 3) := by decide +kernel
theorem dX6_strike_34 : decode cX6_strike 34 = .ok (.iload_n 1, 1) := by decide +kernel
theorem dX6_strike_35 : decode cX6_strike 35 = .ok (.iconst 1, 1) := by decide +kernel
theorem dX6_strike_36 : decode cX6_strike 36 = .ok (.bastore, 1) := by decide +kernel
theorem dX6_strike_37 : decode cX6_strike 37 = .ok (.return_, 1) := by decide +kernel
theorem dX6_pass_0 : decode cX6_pass 0 = .ok (.iload_n 1, 1) := by decide +kernel
theorem dX6_pass_1 : decode cX6_pass 1 = .ok (.iconst 1, 1) := by decide +kernel
theorem dX6_pass_2 : decode cX6_pass 2 = .ok (.sipush 1440, 3) := by decide +kernel
theorem dX6_pass_5 : decode cX6_pass 5 = .ok (.invokestatic 73, 3) := by decide +kernel
theorem dX6_pass_8 : decode cX6_pass 8 = .ok (.aload_n 0, 1) := by decide +kernel
theorem dX6_pass_9 : decode cX6_pass 9 = .ok (.getfield 51, 3) := by decide +kernel
theorem dX6_pass_12 : decode cX6_pass 12 = .ok (.iload_n 1, 1) := by decide +kernel
theorem dX6_pass_13 : decode cX6_pass 13 = .ok (.iadd, 1) := by decide +kernel
theorem dX6_pass_14 : decode cX6_pass 14 = .ok (.ldc 98, 2) := by decide +kernel
theorem dX6_pass_16 : decode cX6_pass 16 = .ok (.if_icmp .le 13, 3) := by decide +kernel
theorem dX6_pass_19 : decode cX6_pass 19 = .ok (.new 58, 3) := by decide +kernel
theorem dX6_pass_22 : decode cX6_pass 22 = .ok (.dup, 1) := by decide +kernel
theorem dX6_pass_23 : decode cX6_pass 23 = .ok (.ldc 144, 2) := by decide +kernel
theorem dX6_pass_25 : decode cX6_pass 25 = .ok (.invokespecial 62, 3) := by decide +kernel
theorem dX6_pass_28 : decode cX6_pass 28 = .ok (.athrow, 1) := by decide +kernel
theorem dX6_pass_29 : decode cX6_pass 29 = .ok (.aload_n 0, 1) := by decide +kernel
theorem dX6_pass_30 : decode cX6_pass 30 = .ok (.dup, 1) := by decide +kernel
theorem dX6_pass_31 : decode cX6_pass 31 = .ok (.getfield 51, 3) := by decide +kernel
theorem dX6_pass_34 : decode cX6_pass 34 = .ok (.iload_n 1, 1) := by decide +kernel
theorem dX6_pass_35 : decode cX6_pass 35 = .ok (.iadd, 1) := by decide +kernel
theorem dX6_pass_36 : decode cX6_pass 36 = .ok (.putfield 51, 3) := by decide +kernel
theorem dX6_pass_39 : decode cX6_pass 39 = .ok (.aload_n 0, 1) := by decide +kernel
theorem dX6_pass_40 : decode cX6_pass 40 = .ok (.getfield 51, 3) := by decide +kernel
theorem dX6_pass_43 : decode cX6_pass 43 = .ok (.ireturn, 1) := by decide +kernel
theorem dX6_bill_0 : decode cX6_bill 0 = .ok (.lconst 0, 1) := by decide +kernel
theorem dX6_bill_1 : decode cX6_bill 1 = .ok (.lstore_n 1, 1) := by decide +kernel
theorem dX6_bill_2 : decode cX6_bill 2 = .ok (.aload_n 0, 1) := by decide +kernel
theorem dX6_bill_3 : decode cX6_bill 3 = .ok (.getfield 47, 3) := by decide +kernel
theorem dX6_bill_6 : decode cX6_bill 6 = .ok (.invokevirtual 146, 3) := by decide +kernel
theorem dX6_bill_9 : decode cX6_bill 9 = .ok (.iconst 0, 1) := by decide +kernel
theorem dX6_bill_10 : decode cX6_bill 10 = .ok (.istore_n 3, 1) := by decide +kernel
theorem dX6_bill_11 : decode cX6_bill 11 = .ok (.iload_n 3, 1) := by decide +kernel
theorem dX6_bill_12 : decode cX6_bill 12 = .ok (.bipush 10, 2) := by decide +kernel
theorem dX6_bill_14 : decode cX6_bill 14 = .ok (.if_icmp .ge 104, 3) := by decide +kernel
theorem dX6_bill_17 : decode cX6_bill 17 = .ok (.aload_n 0, 1) := by decide +kernel
theorem dX6_bill_18 : decode cX6_bill 18 = .ok (.iload_n 3, 1) := by decide +kernel
theorem dX6_bill_19 : decode cX6_bill 19 = .ok (.invokevirtual 149, 3) := by decide +kernel
theorem dX6_bill_22 : decode cX6_bill 22 = .ok (.aload_n 0, 1) := by decide +kernel
theorem dX6_bill_23 : decode cX6_bill 23 = .ok (.getfield 40, 3) := by decide +kernel
theorem dX6_bill_26 : decode cX6_bill 26 = .ok (.aload_n 0, 1) := by decide +kernel
theorem dX6_bill_27 : decode cX6_bill 27 = .ok (.getfield 51, 3) := by decide +kernel
theorem dX6_bill_30 : decode cX6_bill 30 = .ok (.aload_n 0, 1) := by decide +kernel
theorem dX6_bill_31 : decode cX6_bill 31 = .ok (.getfield 19, 3) := by decide +kernel
theorem dX6_bill_34 : decode cX6_bill 34 = .ok (.getfield 99, 3) := by decide +kernel
theorem dX6_bill_37 : decode cX6_bill 37 = .ok (.invokevirtual 152, 3) := by decide +kernel
theorem dX6_bill_40 : decode cX6_bill 40 = .ok (.lstore 4, 2) := by decide +kernel
theorem dX6_bill_42 : decode cX6_bill 42 = .ok (.lload_n 1, 1) := by decide +kernel
theorem dX6_bill_43 : decode cX6_bill 43 = .ok (.aload_n 0, 1) := by decide +kernel
theorem dX6_bill_44 : decode cX6_bill 44 = .ok (.getfield 47, 3) := by decide +kernel
theorem dX6_bill_47 : decode cX6_bill 47 = .ok (.iload_n 3, 1) := by decide +kernel
theorem dX6_bill_48 : decode cX6_bill 48 = .ok (.aload_n 0, 1) := by decide +kernel
theorem dX6_bill_49 : decode cX6_bill 49 = .ok (.getfield 26, 3) := by decide +kernel
theorem dX6_bill_52 : decode cX6_bill 52 = .ok (.getfield 108, 3) := by decide +kernel
theorem dX6_bill_55 : decode cX6_bill 55 = .ok (.iload_n 3, 1) := by decide +kernel
theorem dX6_bill_56 : decode cX6_bill 56 = .ok (.iaload, 1) := by decide +kernel
theorem dX6_bill_57 : decode cX6_bill 57 = .ok (.lload 4, 2) := by decide +kernel
theorem dX6_bill_59 : decode cX6_bill 59 = .ok (.invokevirtual 156, 3) := by decide +kernel
theorem dX6_bill_62 : decode cX6_bill 62 = .ok (.ladd, 1) := by decide +kernel
theorem dX6_bill_63 : decode cX6_bill 63 = .ok (.lstore_n 1, 1) := by decide +kernel
theorem dX6_bill_64 : decode cX6_bill 64 = .ok (.iconst 0, 1) := by decide +kernel
theorem dX6_bill_65 : decode cX6_bill 65 = .ok (.istore 6, 2) := by decide +kernel
theorem dX6_bill_67 : decode cX6_bill 67 = .ok (.iload 6, 2) := by decide +kernel
theorem dX6_bill_69 : decode cX6_bill 69 = .ok (.iconst 4, 1) := by decide +kernel
theorem dX6_bill_70 : decode cX6_bill 70 = .ok (.if_icmp .ge 42, 3) := by decide +kernel
theorem dX6_bill_73 : decode cX6_bill 73 = .ok (.aload_n 0, 1) := by decide +kernel
theorem dX6_bill_74 : decode cX6_bill 74 = .ok (.getfield 47, 3) := by decide +kernel
theorem dX6_bill_77 : decode cX6_bill 77 = .ok (.getfield 160, 3) := by decide +kernel
theorem dX6_bill_80 : decode cX6_bill 80 = .ok (.iload 6, 2) := by decide +kernel
theorem dX6_bill_82 : decode cX6_bill 82 = .ok (.dup2, 1) := by decide +kernel
theorem dX6_bill_83 : decode cX6_bill 83 = .ok (.laload, 1) := by decide +kernel
theorem dX6_bill_84 : decode cX6_bill 84 = .ok (.aload_n 0, 1) := by decide +kernel
theorem dX6_bill_85 : decode cX6_bill 85 = .ok (.getfield 40, 3) := by decide +kernel
theorem dX6_bill_88 : decode cX6_bill 88 = .ok (.iload 6, 2) := by decide +kernel
theorem dX6_bill_90 : decode cX6_bill 90 = .ok (.aload_n 0, 1) := by decide +kernel
theorem dX6_bill_91 : decode cX6_bill 91 = .ok (.getfield 51, 3) := by decide +kernel
theorem dX6_bill_94 : decode cX6_bill 94 = .ok (.aload_n 0, 1) := by decide +kernel
theorem dX6_bill_95 : decode cX6_bill 95 = .ok (.getfield 19, 3) := by decide +kernel
theorem dX6_bill_98 : decode cX6_bill 98 = .ok (.getfield 99, 3) := by decide +kernel
theorem dX6_bill_101 : decode cX6_bill 101 = .ok (.invokevirtual 163, 3) := by decide +kernel
theorem dX6_bill_104 : decode cX6_bill 104 = .ok (.ladd, 1) := by decide +kernel
theorem dX6_bill_105 : decode cX6_bill 105 = .ok (.lastore, 1) := by decide +kernel
theorem dX6_bill_106 : decode cX6_bill 106 = .ok (.iinc 6 1, 3) := by decide +kernel
theorem dX6_bill_109 : decode cX6_bill 109 = .ok (.goto (-42), 3) := by decide +kernel
theorem dX6_bill_112 : decode cX6_bill 112 = .ok (.iinc 3 1, 3) := by decide +kernel
theorem dX6_bill_115 : decode cX6_bill 115 = .ok (.goto (-104), 3) := by decide +kernel
theorem dX6_bill_118 : decode cX6_bill 118 = .ok (.lload_n 1, 1) := by decide +kernel
theorem dX6_bill_119 : decode cX6_bill 119 = .ok (.lreturn, 1) := by decide +kernel
theorem dX6_distance_0 : decode cX6_distance 0 = .ok (.aload_n 0, 1) := by decide +kernel
theorem dX6_distance_1 : decode cX6_distance 1 = .ok (.iload_n 1, 1) := by decide +kernel
theorem dX6_distance_2 : decode cX6_distance 2 = .ok (.invokevirtual 69, 3) := by decide +kernel
theorem dX6_distance_5 : decode cX6_distance 5 = .ok (.aload_n 0, 1) := by decide +kernel
theorem dX6_distance_6 : decode cX6_distance 6 = .ok (.iload_n 2, 1) := by decide +kernel
theorem dX6_distance_7 : decode cX6_distance 7 = .ok (.invokevirtual 69, 3) := by decide +kernel
theorem dX6_distance_10 : decode cX6_distance 10 = .ok (.aload_n 0, 1) := by decide +kernel
theorem dX6_distance_11 : decode cX6_distance 11 = .ok (.getfield 10, 3) := by decide +kernel
theorem dX6_distance_14 : decode cX6_distance 14 = .ok (.iload_n 1, 1) := by decide +kernel
theorem dX6_distance_15 : decode cX6_distance 15 = .ok (.iload_n 2, 1) := by decide +kernel
theorem dX6_distance_16 : decode cX6_distance 16 = .ok (.invokevirtual 167, 3) := by decide +kernel
theorem dX6_distance_19 : decode cX6_distance 19 = .ok (.ifCond .eq 17, 3) := by decide +kernel
theorem dX6_distance_22 : decode cX6_distance 22 = .ok (.aload_n 0, 1) := by decide +kernel
theorem dX6_distance_23 : decode cX6_distance 23 = .ok (.getfield 10, 3) := by decide +kernel
theorem dX6_distance_26 : decode cX6_distance 26 = .ok (.getfield 171, 3) := by decide +kernel
theorem dX6_distance_29 : decode cX6_distance 29 = .ok (.iload_n 1, 1) := by decide +kernel
theorem dX6_distance_30 : decode cX6_distance 30 = .ok (.aaload, 1) := by decide +kernel
theorem dX6_distance_31 : decode cX6_distance 31 = .ok (.iload_n 2, 1) := by decide +kernel
theorem dX6_distance_32 : decode cX6_distance 32 = .ok (.iaload, 1) := by decide +kernel
theorem dX6_distance_33 : decode cX6_distance 33 = .ok (.goto 4, 3) := by decide +kernel
theorem dX6_distance_36 : decode cX6_distance 36 = .ok (.iconst (-1), 1) := by decide +kernel
theorem dX6_distance_37 : decode cX6_distance 37 = .ok (.ireturn, 1) := by decide +kernel
theorem dX6_way_0 : decode cX6_way 0 = .ok (.aload_n 0, 1) := by decide +kernel
theorem dX6_way_1 : decode cX6_way 1 = .ok (.iload_n 1, 1) := by decide +kernel
theorem dX6_way_2 : decode cX6_way 2 = .ok (.invokevirtual 69, 3) := by decide +kernel
theorem dX6_way_5 : decode cX6_way 5 = .ok (.aload_n 0, 1) := by decide +kernel
theorem dX6_way_6 : decode cX6_way 6 = .ok (.iload_n 2, 1) := by decide +kernel
theorem dX6_way_7 : decode cX6_way 7 = .ok (.invokevirtual 69, 3) := by decide +kernel
theorem dX6_way_10 : decode cX6_way 10 = .ok (.iload_n 3, 1) := by decide +kernel
theorem dX6_way_11 : decode cX6_way 11 = .ok (.ifCond .ge 13, 3) := by decide +kernel
theorem dX6_way_14 : decode cX6_way 14 = .ok (.new 175, 3) := by decide +kernel
theorem dX6_way_17 : decode cX6_way 17 = .ok (.dup, 1) := by decide +kernel
theorem dX6_way_18 : decode cX6_way 18 = .ok (.ldc 177, 2) := by decide +kernel
theorem dX6_way_20 : decode cX6_way 20 = .ok (.invokespecial 179, 3) := by decide +kernel
theorem dX6_way_23 : decode cX6_way 23 = .ok (.athrow, 1) := by decide +kernel
theorem dX6_way_24 : decode cX6_way 24 = .ok (.aload_n 0, 1) := by decide +kernel
theorem dX6_way_25 : decode cX6_way 25 = .ok (.getfield 10, 3) := by decide +kernel
theorem dX6_way_28 : decode cX6_way 28 = .ok (.iload_n 1, 1) := by decide +kernel
theorem dX6_way_29 : decode cX6_way 29 = .ok (.iload_n 2, 1) := by decide +kernel
theorem dX6_way_30 : decode cX6_way 30 = .ok (.iload_n 3, 1) := by decide +kernel
theorem dX6_way_31 : decode cX6_way 31 = .ok (.invokevirtual 180, 3) := by decide +kernel
theorem dX6_way_34 : decode cX6_way 34 = .ok (.ireturn, 1) := by decide +kernel
theorem dX6_journeys_0 : decode cX6_journeys 0 = .ok (.iload_n 1, 1) := by decide +kernel
theorem dX6_journeys_1 : decode cX6_journeys 1 = .ok (.invokestatic 102, 3) := by decide +kernel
theorem dX6_journeys_4 : decode cX6_journeys 4 = .ok (.aload_n 0, 1) := by decide +kernel
theorem dX6_journeys_5 : decode cX6_journeys 5 = .ok (.iload_n 1, 1) := by decide +kernel
theorem dX6_journeys_6 : decode cX6_journeys 6 = .ok (.invokevirtual 149, 3) := by decide +kernel
theorem dX6_journeys_9 : decode cX6_journeys 9 = .ok (.aload_n 0, 1) := by decide +kernel
theorem dX6_journeys_10 : decode cX6_journeys 10 = .ok (.getfield 40, 3) := by decide +kernel
theorem dX6_journeys_13 : decode cX6_journeys 13 = .ok (.getfield 183, 3) := by decide +kernel
theorem dX6_journeys_16 : decode cX6_journeys 16 = .ok (.ireturn, 1) := by decide +kernel
theorem dX6_journey_0 : decode cX6_journey 0 = .ok (.iload_n 1, 1) := by decide +kernel
theorem dX6_journey_1 : decode cX6_journey 1 = .ok (.invokestatic 102, 3) := by decide +kernel
theorem dX6_journey_4 : decode cX6_journey 4 = .ok (.aload_n 0, 1) := by decide +kernel
theorem dX6_journey_5 : decode cX6_journey 5 = .ok (.iload_n 1, 1) := by decide +kernel
theorem dX6_journey_6 : decode cX6_journey 6 = .ok (.invokevirtual 149, 3) := by decide +kernel
theorem dX6_journey_9 : decode cX6_journey 9 = .ok (.iload_n 2, 1) := by decide +kernel
theorem dX6_journey_10 : decode cX6_journey 10 = .ok (.ifCond .lt 14, 3) := by decide +kernel
theorem dX6_journey_13 : decode cX6_journey 13 = .ok (.iload_n 2, 1) := by decide +kernel
theorem dX6_journey_14 : decode cX6_journey 14 = .ok (.aload_n 0, 1) := by decide +kernel
theorem dX6_journey_15 : decode cX6_journey 15 = .ok (.getfield 40, 3) := by decide +kernel
theorem dX6_journey_18 : decode cX6_journey 18 = .ok (.getfield 183, 3) := by decide +kernel
theorem dX6_journey_21 : decode cX6_journey 21 = .ok (.if_icmp .lt 13, 3) := by decide +kernel
theorem dX6_journey_24 : decode cX6_journey 24 = .ok (.new 175, 3) := by decide +kernel
theorem dX6_journey_27 : decode cX6_journey 27 = .ok (.dup, 1) := by decide +kernel
theorem dX6_journey_28 : decode cX6_journey 28 = .ok (.ldc 184, 2) := by decide +kernel
theorem dX6_journey_30 : decode cX6_journey 30 = .ok (.invokespecial 179, 3) := by decide +kernel
theorem dX6_journey_33 : decode cX6_journey 33 = .ok (.athrow, 1) := by decide +kernel
theorem dX6_journey_34 : decode cX6_journey 34 = .ok (.iload_n 3, 1) := by decide +kernel
theorem dX6_journey_35 : decode cX6_journey 35 = .ok (.iconst 0, 1) := by decide +kernel
theorem dX6_journey_36 : decode cX6_journey 36 = .ok (.bipush 8, 2) := by decide +kernel
theorem dX6_journey_38 : decode cX6_journey 38 = .ok (.invokestatic 73, 3) := by decide +kernel
theorem dX6_journey_41 : decode cX6_journey 41 = .ok (.iload_n 3, 1) := by decide +kernel
theorem dX6_journey_42 : decode cX6_journey 42 = .ok (.tableswitch 101 0 4 #[34, 44, 54, 64, 80], 34) := by decide +kernel
theorem dX6_journey_76 : decode cX6_journey 76 = .ok (.aload_n 0, 1) := by decide +kernel
theorem dX6_journey_77 : decode cX6_journey 77 = .ok (.getfield 40, 3) := by decide +kernel
theorem dX6_journey_80 : decode cX6_journey 80 = .ok (.getfield 186, 3) := by decide +kernel
theorem dX6_journey_83 : decode cX6_journey 83 = .ok (.iload_n 2, 1) := by decide +kernel
theorem dX6_journey_84 : decode cX6_journey 84 = .ok (.iaload, 1) := by decide +kernel
theorem dX6_journey_85 : decode cX6_journey 85 = .ok (.ireturn, 1) := by decide +kernel
theorem dX6_journey_86 : decode cX6_journey 86 = .ok (.aload_n 0, 1) := by decide +kernel
theorem dX6_journey_87 : decode cX6_journey 87 = .ok (.getfield 40, 3) := by decide +kernel
theorem dX6_journey_90 : decode cX6_journey 90 = .ok (.getfield 189, 3) := by decide +kernel
theorem dX6_journey_93 : decode cX6_journey 93 = .ok (.iload_n 2, 1) := by decide +kernel
theorem dX6_journey_94 : decode cX6_journey 94 = .ok (.iaload, 1) := by decide +kernel
theorem dX6_journey_95 : decode cX6_journey 95 = .ok (.ireturn, 1) := by decide +kernel
theorem dX6_journey_96 : decode cX6_journey 96 = .ok (.aload_n 0, 1) := by decide +kernel
theorem dX6_journey_97 : decode cX6_journey 97 = .ok (.getfield 40, 3) := by decide +kernel
theorem dX6_journey_100 : decode cX6_journey 100 = .ok (.getfield 192, 3) := by decide +kernel
theorem dX6_journey_103 : decode cX6_journey 103 = .ok (.iload_n 2, 1) := by decide +kernel
theorem dX6_journey_104 : decode cX6_journey 104 = .ok (.iaload, 1) := by decide +kernel
theorem dX6_journey_105 : decode cX6_journey 105 = .ok (.ireturn, 1) := by decide +kernel
theorem dX6_journey_106 : decode cX6_journey 106 = .ok (.aload_n 0, 1) := by decide +kernel
theorem dX6_journey_107 : decode cX6_journey 107 = .ok (.getfield 40, 3) := by decide +kernel
theorem dX6_journey_110 : decode cX6_journey 110 = .ok (.iload_n 2, 1) := by decide +kernel
theorem dX6_journey_111 : decode cX6_journey 111 = .ok (.aload_n 0, 1) := by decide +kernel
theorem dX6_journey_112 : decode cX6_journey 112 = .ok (.getfield 19, 3) := by decide +kernel
theorem dX6_journey_115 : decode cX6_journey 115 = .ok (.getfield 99, 3) := by decide +kernel
theorem dX6_journey_118 : decode cX6_journey 118 = .ok (.invokevirtual 195, 3) := by decide +kernel
theorem dX6_journey_121 : decode cX6_journey 121 = .ok (.ireturn, 1) := by decide +kernel
theorem dX6_journey_122 : decode cX6_journey 122 = .ok (.aload_n 0, 1) := by decide +kernel
theorem dX6_journey_123 : decode cX6_journey 123 = .ok (.getfield 40, 3) := by decide +kernel
theorem dX6_journey_126 : decode cX6_journey 126 = .ok (.iload_n 2, 1) := by decide +kernel
theorem dX6_journey_127 : decode cX6_journey 127 = .ok (.aload_n 0, 1) := by decide +kernel
theorem dX6_journey_128 : decode cX6_journey 128 = .ok (.getfield 51, 3) := by decide +kernel
theorem dX6_journey_131 : decode cX6_journey 131 = .ok (.invokevirtual 199, 3) := by decide +kernel
theorem dX6_journey_134 : decode cX6_journey 134 = .ok (.ifCond .eq 7, 3) := by decide +kernel
theorem dX6_journey_137 : decode cX6_journey 137 = .ok (.iconst 1, 1) := by decide +kernel
theorem dX6_journey_138 : decode cX6_journey 138 = .ok (.goto 4, 3) := by decide +kernel
theorem dX6_journey_141 : decode cX6_journey 141 = .ok (.iconst 0, 1) := by decide +kernel
theorem dX6_journey_142 : decode cX6_journey 142 = .ok (.ireturn, 1) := by decide +kernel
theorem dX6_journey_143 : decode cX6_journey 143 = .ok (.aload_n 0, 1) := by decide +kernel
theorem dX6_journey_144 : decode cX6_journey 144 = .ok (.getfield 40, 3) := by decide +kernel
theorem dX6_journey_147 : decode cX6_journey 147 = .ok (.iload_n 2, 1) := by decide +kernel
theorem dX6_journey_148 : decode cX6_journey 148 = .ok (.iload_n 3, 1) := by decide +kernel
theorem dX6_journey_149 : decode cX6_journey 149 = .ok (.iconst 5, 1) := by decide +kernel
theorem dX6_journey_150 : decode cX6_journey 150 = .ok (.isub, 1) := by decide +kernel
theorem dX6_journey_151 : decode cX6_journey 151 = .ok (.aload_n 0, 1) := by decide +kernel
theorem dX6_journey_152 : decode cX6_journey 152 = .ok (.getfield 19, 3) := by decide +kernel
theorem dX6_journey_155 : decode cX6_journey 155 = .ok (.getfield 99, 3) := by decide +kernel
theorem dX6_journey_158 : decode cX6_journey 158 = .ok (.invokevirtual 202, 3) := by decide +kernel
theorem dX6_journey_161 : decode cX6_journey 161 = .ok (.ireturn, 1) := by decide +kernel
theorem dX6_ofReading_0 : decode cX6_ofReading 0 = .ok (.aload_n 0, 1) := by decide +kernel
theorem dX6_ofReading_1 : decode cX6_ofReading 1 = .ok (.iload_n 1, 1) := by decide +kernel
theorem dX6_ofReading_2 : decode cX6_ofReading 2 = .ok (.invokevirtual 135, 3) := by decide +kernel
theorem dX6_ofReading_5 : decode cX6_ofReading 5 = .ok (.iload_n 2, 1) := by decide +kernel
theorem dX6_ofReading_6 : decode cX6_ofReading 6 = .ok (.iconst 0, 1) := by decide +kernel
theorem dX6_ofReading_7 : decode cX6_ofReading 7 = .ok (.iconst 5, 1) := by decide +kernel
theorem dX6_ofReading_8 : decode cX6_ofReading 8 = .ok (.invokestatic 73, 3) := by decide +kernel
theorem dX6_ofReading_11 : decode cX6_ofReading 11 = .ok (.iload_n 2, 1) := by decide +kernel
theorem dX6_ofReading_12 : decode cX6_ofReading 12 = .ok (.tableswitch 98 0 4 #[36, 46, 56, 66, 84], 36) := by decide +kernel
theorem dX6_ofReading_48 : decode cX6_ofReading 48 = .ok (.aload_n 0, 1) := by decide +kernel
theorem dX6_ofReading_49 : decode cX6_ofReading 49 = .ok (.getfield 33, 3) := by decide +kernel
theorem dX6_ofReading_52 : decode cX6_ofReading 52 = .ok (.getfield 205, 3) := by decide +kernel
theorem dX6_ofReading_55 : decode cX6_ofReading 55 = .ok (.iload_n 1, 1) := by decide +kernel
theorem dX6_ofReading_56 : decode cX6_ofReading 56 = .ok (.iaload, 1) := by decide +kernel
theorem dX6_ofReading_57 : decode cX6_ofReading 57 = .ok (.ireturn, 1) := by decide +kernel
theorem dX6_ofReading_58 : decode cX6_ofReading 58 = .ok (.aload_n 0, 1) := by decide +kernel
theorem dX6_ofReading_59 : decode cX6_ofReading 59 = .ok (.getfield 33, 3) := by decide +kernel
theorem dX6_ofReading_62 : decode cX6_ofReading 62 = .ok (.getfield 208, 3) := by decide +kernel
theorem dX6_ofReading_65 : decode cX6_ofReading 65 = .ok (.iload_n 1, 1) := by decide +kernel
theorem dX6_ofReading_66 : decode cX6_ofReading 66 = .ok (.iaload, 1) := by decide +kernel
theorem dX6_ofReading_67 : decode cX6_ofReading 67 = .ok (.ireturn, 1) := by decide +kernel
theorem dX6_ofReading_68 : decode cX6_ofReading 68 = .ok (.aload_n 0, 1) := by decide +kernel
theorem dX6_ofReading_69 : decode cX6_ofReading 69 = .ok (.getfield 33, 3) := by decide +kernel
theorem dX6_ofReading_72 : decode cX6_ofReading 72 = .ok (.getfield 211, 3) := by decide +kernel
theorem dX6_ofReading_75 : decode cX6_ofReading 75 = .ok (.iload_n 1, 1) := by decide +kernel
theorem dX6_ofReading_76 : decode cX6_ofReading 76 = .ok (.iaload, 1) := by decide +kernel
theorem dX6_ofReading_77 : decode cX6_ofReading 77 = .ok (.ireturn, 1) := by decide +kernel
theorem dX6_ofReading_78 : decode cX6_ofReading 78 = .ok (.aload_n 0, 1) := by decide +kernel
theorem dX6_ofReading_79 : decode cX6_ofReading 79 = .ok (.getfield 33, 3) := by decide +kernel
theorem dX6_ofReading_82 : decode cX6_ofReading 82 = .ok (.getfield 138, 3) := by decide +kernel
theorem dX6_ofReading_85 : decode cX6_ofReading 85 = .ok (.iload_n 1, 1) := by decide +kernel
theorem dX6_ofReading_86 : decode cX6_ofReading 86 = .ok (.baload, 1) := by decide +kernel
theorem dX6_ofReading_87 : decode cX6_ofReading 87 = .ok (.ifCond .eq 7, 3) := by decide +kernel
theorem dX6_ofReading_90 : decode cX6_ofReading 90 = .ok (.iconst 1, 1) := by decide +kernel
theorem dX6_ofReading_91 : decode cX6_ofReading 91 = .ok (.goto 4, 3) := by decide +kernel
theorem dX6_ofReading_94 : decode cX6_ofReading 94 = .ok (.iconst 0, 1) := by decide +kernel
theorem dX6_ofReading_95 : decode cX6_ofReading 95 = .ok (.ireturn, 1) := by decide +kernel
theorem dX6_ofReading_96 : decode cX6_ofReading 96 = .ok (.aload_n 0, 1) := by decide +kernel
theorem dX6_ofReading_97 : decode cX6_ofReading 97 = .ok (.iload_n 1, 1) := by decide +kernel
theorem dX6_ofReading_98 : decode cX6_ofReading 98 = .ok (.invokevirtual 214, 3) := by decide +kernel
theorem dX6_ofReading_101 : decode cX6_ofReading 101 = .ok (.ifCond .eq 7, 3) := by decide +kernel
theorem dX6_ofReading_104 : decode cX6_ofReading 104 = .ok (.iconst 1, 1) := by decide +kernel
theorem dX6_ofReading_105 : decode cX6_ofReading 105 = .ok (.goto 4, 3) := by decide +kernel
theorem dX6_ofReading_108 : decode cX6_ofReading 108 = .ok (.iconst 0, 1) := by decide +kernel
theorem dX6_ofReading_109 : decode cX6_ofReading 109 = .ok (.ireturn, 1) := by decide +kernel
theorem dX6_ofReading_110 : decode cX6_ofReading 110 = .ok (.aload_n 0, 1) := by decide +kernel
theorem dX6_ofReading_111 : decode cX6_ofReading 111 = .ok (.iload_n 1, 1) := by decide +kernel
theorem dX6_ofReading_112 : decode cX6_ofReading 112 = .ok (.invokevirtual 218, 3) := by decide +kernel
theorem dX6_ofReading_115 : decode cX6_ofReading 115 = .ok (.ireturn, 1) := by decide +kernel
theorem dX6_due_0 : decode cX6_due 0 = .ok (.iload_n 1, 1) := by decide +kernel
theorem dX6_due_1 : decode cX6_due 1 = .ok (.invokestatic 102, 3) := by decide +kernel
theorem dX6_due_4 : decode cX6_due 4 = .ok (.aload_n 0, 1) := by decide +kernel
theorem dX6_due_5 : decode cX6_due 5 = .ok (.iload_n 1, 1) := by decide +kernel
theorem dX6_due_6 : decode cX6_due 6 = .ok (.invokevirtual 149, 3) := by decide +kernel
theorem dX6_due_9 : decode cX6_due 9 = .ok (.aload_n 0, 1) := by decide +kernel
theorem dX6_due_10 : decode cX6_due 10 = .ok (.getfield 40, 3) := by decide +kernel
theorem dX6_due_13 : decode cX6_due 13 = .ok (.aload_n 0, 1) := by decide +kernel
theorem dX6_due_14 : decode cX6_due 14 = .ok (.getfield 51, 3) := by decide +kernel
theorem dX6_due_17 : decode cX6_due 17 = .ok (.aload_n 0, 1) := by decide +kernel
theorem dX6_due_18 : decode cX6_due 18 = .ok (.getfield 19, 3) := by decide +kernel
theorem dX6_due_21 : decode cX6_due 21 = .ok (.getfield 99, 3) := by decide +kernel
theorem dX6_due_24 : decode cX6_due 24 = .ok (.invokevirtual 152, 3) := by decide +kernel
theorem dX6_due_27 : decode cX6_due 27 = .ok (.lreturn, 1) := by decide +kernel
theorem dX6_billed_0 : decode cX6_billed 0 = .ok (.iload_n 1, 1) := by decide +kernel
theorem dX6_billed_1 : decode cX6_billed 1 = .ok (.invokestatic 102, 3) := by decide +kernel
theorem dX6_billed_4 : decode cX6_billed 4 = .ok (.aload_n 0, 1) := by decide +kernel
theorem dX6_billed_5 : decode cX6_billed 5 = .ok (.getfield 47, 3) := by decide +kernel
theorem dX6_billed_8 : decode cX6_billed 8 = .ok (.getfield 222, 3) := by decide +kernel
theorem dX6_billed_11 : decode cX6_billed 11 = .ok (.iload_n 1, 1) := by decide +kernel
theorem dX6_billed_12 : decode cX6_billed 12 = .ok (.laload, 1) := by decide +kernel
theorem dX6_billed_13 : decode cX6_billed 13 = .ok (.lreturn, 1) := by decide +kernel
theorem dX6_wallet_0 : decode cX6_wallet 0 = .ok (.iload_n 1, 1) := by decide +kernel
theorem dX6_wallet_1 : decode cX6_wallet 1 = .ok (.invokestatic 111, 3) := by decide +kernel
theorem dX6_wallet_4 : decode cX6_wallet 4 = .ok (.aload_n 0, 1) := by decide +kernel
theorem dX6_wallet_5 : decode cX6_wallet 5 = .ok (.getfield 47, 3) := by decide +kernel
theorem dX6_wallet_8 : decode cX6_wallet 8 = .ok (.getfield 114, 3) := by decide +kernel
theorem dX6_wallet_11 : decode cX6_wallet 11 = .ok (.iload_n 1, 1) := by decide +kernel
theorem dX6_wallet_12 : decode cX6_wallet 12 = .ok (.laload, 1) := by decide +kernel
theorem dX6_wallet_13 : decode cX6_wallet 13 = .ok (.lreturn, 1) := by decide +kernel
theorem dX6_own_0 : decode cX6_own 0 = .ok (.iload_n 1, 1) := by decide +kernel
theorem dX6_own_1 : decode cX6_own 1 = .ok (.invokestatic 102, 3) := by decide +kernel
theorem dX6_own_4 : decode cX6_own 4 = .ok (.aload_n 0, 1) := by decide +kernel
theorem dX6_own_5 : decode cX6_own 5 = .ok (.getfield 47, 3) := by decide +kernel
theorem dX6_own_8 : decode cX6_own 8 = .ok (.getfield 225, 3) := by decide +kernel
theorem dX6_own_11 : decode cX6_own 11 = .ok (.iload_n 1, 1) := by decide +kernel
theorem dX6_own_12 : decode cX6_own 12 = .ok (.laload, 1) := by decide +kernel
theorem dX6_own_13 : decode cX6_own 13 = .ok (.lreturn, 1) := by decide +kernel
theorem dX6_share_0 : decode cX6_share 0 = .ok (.iload_n 1, 1) := by decide +kernel
theorem dX6_share_1 : decode cX6_share 1 = .ok (.ifCond .lt 8, 3) := by decide +kernel
theorem dX6_share_4 : decode cX6_share 4 = .ok (.iload_n 1, 1) := by decide +kernel
theorem dX6_share_5 : decode cX6_share 5 = .ok (.iconst 4, 1) := by decide +kernel
theorem dX6_share_6 : decode cX6_share 6 = .ok (.if_icmp .lt 13, 3) := by decide +kernel
theorem dX6_share_9 : decode cX6_share 9 = .ok (.new 175, 3) := by decide +kernel
theorem dX6_share_12 : decode cX6_share 12 = .ok (.dup, 1) := by decide +kernel
theorem dX6_share_13 : decode cX6_share 13 = .ok (.ldc 228, 2) := by decide +kernel
theorem dX6_share_15 : decode cX6_share 15 = .ok (.invokespecial 179, 3) := by decide +kernel
theorem dX6_share_18 : decode cX6_share 18 = .ok (.athrow, 1) := by decide +kernel
theorem dX6_share_19 : decode cX6_share 19 = .ok (.iload_n 2, 1) := by decide +kernel
theorem dX6_share_20 : decode cX6_share 20 = .ok (.ifCond .eq 11, 3) := by decide +kernel
theorem dX6_share_23 : decode cX6_share 23 = .ok (.aload_n 0, 1) := by decide +kernel
theorem dX6_share_24 : decode cX6_share 24 = .ok (.iload_n 1, 1) := by decide +kernel
theorem dX6_share_25 : decode cX6_share 25 = .ok (.invokevirtual 230, 3) := by decide +kernel
theorem dX6_share_28 : decode cX6_share 28 = .ok (.goto 12, 3) := by decide +kernel
theorem dX6_share_31 : decode cX6_share 31 = .ok (.aload_n 0, 1) := by decide +kernel
theorem dX6_share_32 : decode cX6_share 32 = .ok (.getfield 47, 3) := by decide +kernel
theorem dX6_share_35 : decode cX6_share 35 = .ok (.getfield 160, 3) := by decide +kernel
theorem dX6_share_38 : decode cX6_share 38 = .ok (.iload_n 1, 1) := by decide +kernel
theorem dX6_share_39 : decode cX6_share 39 = .ok (.laload, 1) := by decide +kernel
theorem dX6_share_40 : decode cX6_share 40 = .ok (.lreturn, 1) := by decide +kernel
theorem dX6_requireGate_0 : decode cX6_requireGate 0 = .ok (.iload_n 1, 1) := by decide +kernel
theorem dX6_requireGate_1 : decode cX6_requireGate 1 = .ok (.ifCond .lt 14, 3) := by decide +kernel
theorem dX6_requireGate_4 : decode cX6_requireGate 4 = .ok (.iload_n 1, 1) := by decide +kernel
theorem dX6_requireGate_5 : decode cX6_requireGate 5 = .ok (.aload_n 0, 1) := by decide +kernel
theorem dX6_requireGate_6 : decode cX6_requireGate 6 = .ok (.getfield 10, 3) := by decide +kernel
theorem dX6_requireGate_9 : decode cX6_requireGate 9 = .ok (.getfield 55, 3) := by decide +kernel
theorem dX6_requireGate_12 : decode cX6_requireGate 12 = .ok (.if_icmp .lt 13, 3) := by decide +kernel
theorem dX6_requireGate_15 : decode cX6_requireGate 15 = .ok (.new 175, 3) := by decide +kernel
theorem dX6_requireGate_18 : decode cX6_requireGate 18 = .ok (.dup, 1) := by decide +kernel
theorem dX6_requireGate_19 : decode cX6_requireGate 19 = .ok (.ldc 234, 2) := by decide +kernel
theorem dX6_requireGate_21 : decode cX6_requireGate 21 = .ok (.invokespecial 179, 3) := by decide +kernel
theorem dX6_requireGate_24 : decode cX6_requireGate 24 = .ok (.athrow, 1) := by decide +kernel
theorem dX6_requireGate_25 : decode cX6_requireGate 25 = .ok (.return_, 1) := by decide +kernel
theorem dX6_requireReading_0 : decode cX6_requireReading 0 = .ok (.iload_n 1, 1) := by decide +kernel
theorem dX6_requireReading_1 : decode cX6_requireReading 1 = .ok (.ifCond .lt 14, 3) := by decide +kernel
theorem dX6_requireReading_4 : decode cX6_requireReading 4 = .ok (.iload_n 1, 1) := by decide +kernel
theorem dX6_requireReading_5 : decode cX6_requireReading 5 = .ok (.aload_n 0, 1) := by decide +kernel
theorem dX6_requireReading_6 : decode cX6_requireReading 6 = .ok (.getfield 33, 3) := by decide +kernel
theorem dX6_requireReading_9 : decode cX6_requireReading 9 = .ok (.getfield 127, 3) := by decide +kernel
theorem dX6_requireReading_12 : decode cX6_requireReading 12 = .ok (.if_icmp .lt 13, 3) := by decide +kernel
theorem dX6_requireReading_15 : decode cX6_requireReading 15 = .ok (.new 175, 3) := by decide +kernel
theorem dX6_requireReading_18 : decode cX6_requireReading 18 = .ok (.dup, 1) := by decide +kernel
theorem dX6_requireReading_19 : decode cX6_requireReading 19 = .ok (.ldc 236, 2) := by decide +kernel
theorem dX6_requireReading_21 : decode cX6_requireReading 21 = .ok (.invokespecial 179, 3) := by decide +kernel
theorem dX6_requireReading_24 : decode cX6_requireReading 24 = .ok (.athrow, 1) := by decide +kernel
theorem dX6_requireReading_25 : decode cX6_requireReading 25 = .ok (.return_, 1) := by decide +kernel
theorem dX6_requirePlate_0 : decode cX6_requirePlate 0 = .ok (.iload_n 0, 1) := by decide +kernel
theorem dX6_requirePlate_1 : decode cX6_requirePlate 1 = .ok (.ifCond .lt 9, 3) := by decide +kernel
theorem dX6_requirePlate_4 : decode cX6_requirePlate 4 = .ok (.iload_n 0, 1) := by decide +kernel
theorem dX6_requirePlate_5 : decode cX6_requirePlate 5 = .ok (.bipush 10, 2) := by decide +kernel
theorem dX6_requirePlate_7 : decode cX6_requirePlate 7 = .ok (.if_icmp .lt 13, 3) := by decide +kernel
theorem dX6_requirePlate_10 : decode cX6_requirePlate 10 = .ok (.new 175, 3) := by decide +kernel
theorem dX6_requirePlate_13 : decode cX6_requirePlate 13 = .ok (.dup, 1) := by decide +kernel
theorem dX6_requirePlate_14 : decode cX6_requirePlate 14 = .ok (.ldc 238, 2) := by decide +kernel
theorem dX6_requirePlate_16 : decode cX6_requirePlate 16 = .ok (.invokespecial 179, 3) := by decide +kernel
theorem dX6_requirePlate_19 : decode cX6_requirePlate 19 = .ok (.athrow, 1) := by decide +kernel
theorem dX6_requirePlate_20 : decode cX6_requirePlate 20 = .ok (.return_, 1) := by decide +kernel
theorem dX6_requireHolder_0 : decode cX6_requireHolder 0 = .ok (.iload_n 0, 1) := by decide +kernel
theorem dX6_requireHolder_1 : decode cX6_requireHolder 1 = .ok (.ifCond .lt 9, 3) := by decide +kernel
theorem dX6_requireHolder_4 : decode cX6_requireHolder 4 = .ok (.iload_n 0, 1) := by decide +kernel
theorem dX6_requireHolder_5 : decode cX6_requireHolder 5 = .ok (.bipush 6, 2) := by decide +kernel
theorem dX6_requireHolder_7 : decode cX6_requireHolder 7 = .ok (.if_icmp .lt 13, 3) := by decide +kernel
theorem dX6_requireHolder_10 : decode cX6_requireHolder 10 = .ok (.new 175, 3) := by decide +kernel
theorem dX6_requireHolder_13 : decode cX6_requireHolder 13 = .ok (.dup, 1) := by decide +kernel
theorem dX6_requireHolder_14 : decode cX6_requireHolder 14 = .ok (.ldc 240, 2) := by decide +kernel
theorem dX6_requireHolder_16 : decode cX6_requireHolder 16 = .ok (.invokespecial 179, 3) := by decide +kernel
theorem dX6_requireHolder_19 : decode cX6_requireHolder 19 = .ok (.athrow, 1) := by decide +kernel
theorem dX6_requireHolder_20 : decode cX6_requireHolder 20 = .ok (.return_, 1) := by decide +kernel
theorem dX6_requireRange_0 : decode cX6_requireRange 0 = .ok (.iload_n 0, 1) := by decide +kernel
theorem dX6_requireRange_1 : decode cX6_requireRange 1 = .ok (.iload_n 1, 1) := by decide +kernel
theorem dX6_requireRange_2 : decode cX6_requireRange 2 = .ok (.if_icmp .lt 8, 3) := by decide +kernel
theorem dX6_requireRange_5 : decode cX6_requireRange 5 = .ok (.iload_n 0, 1) := by decide +kernel
theorem dX6_requireRange_6 : decode cX6_requireRange 6 = .ok (.iload_n 2, 1) := by decide +kernel
theorem dX6_requireRange_7 : decode cX6_requireRange 7 = .ok (.if_icmp .le 13, 3) := by decide +kernel
theorem dX6_requireRange_10 : decode cX6_requireRange 10 = .ok (.new 77, 3) := by decide +kernel
theorem dX6_requireRange_13 : decode cX6_requireRange 13 = .ok (.dup, 1) := by decide +kernel
theorem dX6_requireRange_14 : decode cX6_requireRange 14 = .ok (.ldc 242, 2) := by decide +kernel
theorem dX6_requireRange_16 : decode cX6_requireRange 16 = .ok (.invokespecial 81, 3) := by decide +kernel
theorem dX6_requireRange_19 : decode cX6_requireRange 19 = .ok (.athrow, 1) := by decide +kernel
theorem dX6_requireRange_20 : decode cX6_requireRange 20 = .ok (.return_, 1) := by decide +kernel
theorem dX6_findJourneys_0 : decode cX6_findJourneys 0 = .ok (.aload_n 0, 1) := by decide +kernel
theorem dX6_findJourneys_1 : decode cX6_findJourneys 1 = .ok (.getfield 40, 3) := by decide +kernel
theorem dX6_findJourneys_4 : decode cX6_findJourneys 4 = .ok (.invokevirtual 244, 3) := by decide +kernel
theorem dX6_findJourneys_7 : decode cX6_findJourneys 7 = .ok (.iconst (-1), 1) := by decide +kernel
theorem dX6_findJourneys_8 : decode cX6_findJourneys 8 = .ok (.istore_n 2, 1) := by decide +kernel
theorem dX6_findJourneys_9 : decode cX6_findJourneys 9 = .ok (.iconst 0, 1) := by decide +kernel
theorem dX6_findJourneys_10 : decode cX6_findJourneys 10 = .ok (.istore_n 3, 1) := by decide +kernel
theorem dX6_findJourneys_11 : decode cX6_findJourneys 11 = .ok (.iload_n 3, 1) := by decide +kernel
theorem dX6_findJourneys_12 : decode cX6_findJourneys 12 = .ok (.aload_n 0, 1) := by decide +kernel
theorem dX6_findJourneys_13 : decode cX6_findJourneys 13 = .ok (.getfield 33, 3) := by decide +kernel
theorem dX6_findJourneys_16 : decode cX6_findJourneys 16 = .ok (.getfield 127, 3) := by decide +kernel
theorem dX6_findJourneys_19 : decode cX6_findJourneys 19 = .ok (.if_icmp .ge 55, 3) := by decide +kernel
theorem dX6_findJourneys_22 : decode cX6_findJourneys 22 = .ok (.aload_n 0, 1) := by decide +kernel
theorem dX6_findJourneys_23 : decode cX6_findJourneys 23 = .ok (.getfield 33, 3) := by decide +kernel
theorem dX6_findJourneys_26 : decode cX6_findJourneys 26 = .ok (.getfield 247, 3) := by decide +kernel
theorem dX6_findJourneys_29 : decode cX6_findJourneys 29 = .ok (.iload_n 3, 1) := by decide +kernel
theorem dX6_findJourneys_30 : decode cX6_findJourneys 30 = .ok (.iaload, 1) := by decide +kernel
theorem dX6_findJourneys_31 : decode cX6_findJourneys 31 = .ok (.istore 4, 2) := by decide +kernel
theorem dX6_findJourneys_33 : decode cX6_findJourneys 33 = .ok (.aload_n 0, 1) := by decide +kernel
theorem dX6_findJourneys_34 : decode cX6_findJourneys 34 = .ok (.getfield 33, 3) := by decide +kernel
theorem dX6_findJourneys_37 : decode cX6_findJourneys 37 = .ok (.getfield 208, 3) := by decide +kernel
theorem dX6_findJourneys_40 : decode cX6_findJourneys 40 = .ok (.iload 4, 2) := by decide +kernel
theorem dX6_findJourneys_42 : decode cX6_findJourneys 42 = .ok (.iaload, 1) := by decide +kernel
theorem dX6_findJourneys_43 : decode cX6_findJourneys 43 = .ok (.iload_n 1, 1) := by decide +kernel
theorem dX6_findJourneys_44 : decode cX6_findJourneys 44 = .ok (.if_icmp .ne 24, 3) := by decide +kernel
theorem dX6_findJourneys_47 : decode cX6_findJourneys 47 = .ok (.aload_n 0, 1) := by decide +kernel
theorem dX6_findJourneys_48 : decode cX6_findJourneys 48 = .ok (.getfield 33, 3) := by decide +kernel
theorem dX6_findJourneys_51 : decode cX6_findJourneys 51 = .ok (.getfield 138, 3) := by decide +kernel
theorem dX6_findJourneys_54 : decode cX6_findJourneys 54 = .ok (.iload 4, 2) := by decide +kernel
theorem dX6_findJourneys_56 : decode cX6_findJourneys 56 = .ok (.baload, 1) := by decide +kernel
theorem dX6_findJourneys_57 : decode cX6_findJourneys 57 = .ok (.ifCond .ne 11, 3) := by decide +kernel
theorem dX6_findJourneys_60 : decode cX6_findJourneys 60 = .ok (.aload_n 0, 1) := by decide +kernel
theorem dX6_findJourneys_61 : decode cX6_findJourneys 61 = .ok (.iload 4, 2) := by decide +kernel
theorem dX6_findJourneys_63 : decode cX6_findJourneys 63 = .ok (.iload_n 2, 1) := by decide +kernel
theorem dX6_findJourneys_64 : decode cX6_findJourneys 64 = .ok (.invokevirtual 250, 3) := by decide +kernel
theorem dX6_findJourneys_67 : decode cX6_findJourneys 67 = .ok (.istore_n 2, 1) := by decide +kernel
theorem dX6_findJourneys_68 : decode cX6_findJourneys 68 = .ok (.iinc 3 1, 3) := by decide +kernel
theorem dX6_findJourneys_71 : decode cX6_findJourneys 71 = .ok (.goto (-60), 3) := by decide +kernel
theorem dX6_findJourneys_74 : decode cX6_findJourneys 74 = .ok (.return_, 1) := by decide +kernel
theorem dX6_placeReading_0 : decode cX6_placeReading 0 = .ok (.aload_n 0, 1) := by decide +kernel
theorem dX6_placeReading_1 : decode cX6_placeReading 1 = .ok (.getfield 33, 3) := by decide +kernel
theorem dX6_placeReading_4 : decode cX6_placeReading 4 = .ok (.getfield 211, 3) := by decide +kernel
theorem dX6_placeReading_7 : decode cX6_placeReading 7 = .ok (.iload_n 1, 1) := by decide +kernel
theorem dX6_placeReading_8 : decode cX6_placeReading 8 = .ok (.iaload, 1) := by decide +kernel
theorem dX6_placeReading_9 : decode cX6_placeReading 9 = .ok (.istore_n 3, 1) := by decide +kernel
theorem dX6_placeReading_10 : decode cX6_placeReading 10 = .ok (.iload_n 2, 1) := by decide +kernel
theorem dX6_placeReading_11 : decode cX6_placeReading 11 = .ok (.iconst (-1), 1) := by decide +kernel
theorem dX6_placeReading_12 : decode cX6_placeReading 12 = .ok (.if_icmp .ne 14, 3) := by decide +kernel
theorem dX6_placeReading_15 : decode cX6_placeReading 15 = .ok (.aload_n 0, 1) := by decide +kernel
theorem dX6_placeReading_16 : decode cX6_placeReading 16 = .ok (.getfield 40, 3) := by decide +kernel
theorem dX6_placeReading_19 : decode cX6_placeReading 19 = .ok (.iload_n 1, 1) := by decide +kernel
theorem dX6_placeReading_20 : decode cX6_placeReading 20 = .ok (.iload_n 3, 1) := by decide +kernel
theorem dX6_placeReading_21 : decode cX6_placeReading 21 = .ok (.invokevirtual 253, 3) := by decide +kernel
theorem dX6_placeReading_24 : decode cX6_placeReading 24 = .ok (.iload_n 1, 1) := by decide +kernel
theorem dX6_placeReading_25 : decode cX6_placeReading 25 = .ok (.ireturn, 1) := by decide +kernel
theorem dX6_placeReading_26 : decode cX6_placeReading 26 = .ok (.aload_n 0, 1) := by decide +kernel
theorem dX6_placeReading_27 : decode cX6_placeReading 27 = .ok (.getfield 40, 3) := by decide +kernel
theorem dX6_placeReading_30 : decode cX6_placeReading 30 = .ok (.getfield 257, 3) := by decide +kernel
theorem dX6_placeReading_33 : decode cX6_placeReading 33 = .ok (.iload_n 2, 1) := by decide +kernel
theorem dX6_placeReading_34 : decode cX6_placeReading 34 = .ok (.iaload, 1) := by decide +kernel
theorem dX6_placeReading_35 : decode cX6_placeReading 35 = .ok (.istore 4, 2) := by decide +kernel
theorem dX6_placeReading_37 : decode cX6_placeReading 37 = .ok (.aload_n 0, 1) := by decide +kernel
theorem dX6_placeReading_38 : decode cX6_placeReading 38 = .ok (.iload_n 1, 1) := by decide +kernel
theorem dX6_placeReading_39 : decode cX6_placeReading 39 = .ok (.iload_n 2, 1) := by decide +kernel
theorem dX6_placeReading_40 : decode cX6_placeReading 40 = .ok (.invokevirtual 260, 3) := by decide +kernel
theorem dX6_placeReading_43 : decode cX6_placeReading 43 = .ok (.ifCond .eq 15, 3) := by decide +kernel
theorem dX6_placeReading_46 : decode cX6_placeReading 46 = .ok (.aload_n 0, 1) := by decide +kernel
theorem dX6_placeReading_47 : decode cX6_placeReading 47 = .ok (.getfield 40, 3) := by decide +kernel
theorem dX6_placeReading_50 : decode cX6_placeReading 50 = .ok (.iload_n 1, 1) := by decide +kernel
theorem dX6_placeReading_51 : decode cX6_placeReading 51 = .ok (.iload 4, 2) := by decide +kernel
theorem dX6_placeReading_53 : decode cX6_placeReading 53 = .ok (.invokevirtual 263, 3) := by decide +kernel
theorem dX6_placeReading_56 : decode cX6_placeReading 56 = .ok (.iload_n 2, 1) := by decide +kernel
theorem dX6_placeReading_57 : decode cX6_placeReading 57 = .ok (.ireturn, 1) := by decide +kernel
theorem dX6_placeReading_58 : decode cX6_placeReading 58 = .ok (.aload_n 0, 1) := by decide +kernel
theorem dX6_placeReading_59 : decode cX6_placeReading 59 = .ok (.iload_n 2, 1) := by decide +kernel
theorem dX6_placeReading_60 : decode cX6_placeReading 60 = .ok (.iload_n 1, 1) := by decide +kernel
theorem dX6_placeReading_61 : decode cX6_placeReading 61 = .ok (.invokevirtual 266, 3) := by decide +kernel
theorem dX6_placeReading_64 : decode cX6_placeReading 64 = .ok (.ifCond .eq 25, 3) := by decide +kernel
theorem dX6_placeReading_67 : decode cX6_placeReading 67 = .ok (.aload_n 0, 1) := by decide +kernel
theorem dX6_placeReading_68 : decode cX6_placeReading 68 = .ok (.getfield 40, 3) := by decide +kernel
theorem dX6_placeReading_71 : decode cX6_placeReading 71 = .ok (.iload_n 1, 1) := by decide +kernel
theorem dX6_placeReading_72 : decode cX6_placeReading 72 = .ok (.iload 4, 2) := by decide +kernel
theorem dX6_placeReading_74 : decode cX6_placeReading 74 = .ok (.iload_n 3, 1) := by decide +kernel
theorem dX6_placeReading_75 : decode cX6_placeReading 75 = .ok (.invokevirtual 269, 3) := by decide +kernel
theorem dX6_placeReading_78 : decode cX6_placeReading 78 = .ok (.aload_n 0, 1) := by decide +kernel
theorem dX6_placeReading_79 : decode cX6_placeReading 79 = .ok (.iload_n 2, 1) := by decide +kernel
theorem dX6_placeReading_80 : decode cX6_placeReading 80 = .ok (.iload_n 1, 1) := by decide +kernel
theorem dX6_placeReading_81 : decode cX6_placeReading 81 = .ok (.iload 4, 2) := by decide +kernel
theorem dX6_placeReading_83 : decode cX6_placeReading 83 = .ok (.invokevirtual 272, 3) := by decide +kernel
theorem dX6_placeReading_86 : decode cX6_placeReading 86 = .ok (.goto 12, 3) := by decide +kernel
theorem dX6_placeReading_89 : decode cX6_placeReading 89 = .ok (.aload_n 0, 1) := by decide +kernel
theorem dX6_placeReading_90 : decode cX6_placeReading 90 = .ok (.getfield 40, 3) := by decide +kernel
theorem dX6_placeReading_93 : decode cX6_placeReading 93 = .ok (.iload_n 1, 1) := by decide +kernel
theorem dX6_placeReading_94 : decode cX6_placeReading 94 = .ok (.iload_n 3, 1) := by decide +kernel
theorem dX6_placeReading_95 : decode cX6_placeReading 95 = .ok (.invokevirtual 253, 3) := by decide +kernel
theorem dX6_placeReading_98 : decode cX6_placeReading 98 = .ok (.iload_n 1, 1) := by decide +kernel
theorem dX6_placeReading_99 : decode cX6_placeReading 99 = .ok (.ireturn, 1) := by decide +kernel
theorem dX6_isDoubleOf_0 : decode cX6_isDoubleOf 0 = .ok (.aload_n 0, 1) := by decide +kernel
theorem dX6_isDoubleOf_1 : decode cX6_isDoubleOf 1 = .ok (.getfield 33, 3) := by decide +kernel
theorem dX6_isDoubleOf_4 : decode cX6_isDoubleOf 4 = .ok (.getfield 205, 3) := by decide +kernel
theorem dX6_isDoubleOf_7 : decode cX6_isDoubleOf 7 = .ok (.iload_n 1, 1) := by decide +kernel
theorem dX6_isDoubleOf_8 : decode cX6_isDoubleOf 8 = .ok (.iaload, 1) := by decide +kernel
theorem dX6_isDoubleOf_9 : decode cX6_isDoubleOf 9 = .ok (.aload_n 0, 1) := by decide +kernel
theorem dX6_isDoubleOf_10 : decode cX6_isDoubleOf 10 = .ok (.getfield 33, 3) := by decide +kernel
theorem dX6_isDoubleOf_13 : decode cX6_isDoubleOf 13 = .ok (.getfield 205, 3) := by decide +kernel
theorem dX6_isDoubleOf_16 : decode cX6_isDoubleOf 16 = .ok (.iload_n 2, 1) := by decide +kernel
theorem dX6_isDoubleOf_17 : decode cX6_isDoubleOf 17 = .ok (.iaload, 1) := by decide +kernel
theorem dX6_isDoubleOf_18 : decode cX6_isDoubleOf 18 = .ok (.if_icmp .ne 20, 3) := by decide +kernel
theorem dX6_isDoubleOf_21 : decode cX6_isDoubleOf 21 = .ok (.aload_n 0, 1) := by decide +kernel
theorem dX6_isDoubleOf_22 : decode cX6_isDoubleOf 22 = .ok (.getfield 33, 3) := by decide +kernel
theorem dX6_isDoubleOf_25 : decode cX6_isDoubleOf 25 = .ok (.iload_n 2, 1) := by decide +kernel
theorem dX6_isDoubleOf_26 : decode cX6_isDoubleOf 26 = .ok (.iload_n 1, 1) := by decide +kernel
theorem dX6_isDoubleOf_27 : decode cX6_isDoubleOf 27 = .ok (.invokevirtual 275, 3) := by decide +kernel
theorem dX6_isDoubleOf_30 : decode cX6_isDoubleOf 30 = .ok (.iconst 5, 1) := by decide +kernel
theorem dX6_isDoubleOf_31 : decode cX6_isDoubleOf 31 = .ok (.if_icmp .gt 7, 3) := by decide +kernel
theorem dX6_isDoubleOf_34 : decode cX6_isDoubleOf 34 = .ok (.iconst 1, 1) := by decide +kernel
theorem dX6_isDoubleOf_35 : decode cX6_isDoubleOf 35 = .ok (.goto 4, 3) := by decide +kernel
theorem dX6_isDoubleOf_38 : decode cX6_isDoubleOf 38 = .ok (.iconst 0, 1) := by decide +kernel
theorem dX6_isDoubleOf_39 : decode cX6_isDoubleOf 39 = .ok (.ireturn, 1) := by decide +kernel
theorem dX6_goesOnFrom_0 : decode cX6_goesOnFrom 0 = .ok (.aload_n 0, 1) := by decide +kernel
theorem dX6_goesOnFrom_1 : decode cX6_goesOnFrom 1 = .ok (.getfield 33, 3) := by decide +kernel
theorem dX6_goesOnFrom_4 : decode cX6_goesOnFrom 4 = .ok (.getfield 205, 3) := by decide +kernel
theorem dX6_goesOnFrom_7 : decode cX6_goesOnFrom 7 = .ok (.iload_n 1, 1) := by decide +kernel
theorem dX6_goesOnFrom_8 : decode cX6_goesOnFrom 8 = .ok (.iaload, 1) := by decide +kernel
theorem dX6_goesOnFrom_9 : decode cX6_goesOnFrom 9 = .ok (.istore_n 3, 1) := by decide +kernel
theorem dX6_goesOnFrom_10 : decode cX6_goesOnFrom 10 = .ok (.aload_n 0, 1) := by decide +kernel
theorem dX6_goesOnFrom_11 : decode cX6_goesOnFrom 11 = .ok (.getfield 33, 3) := by decide +kernel
theorem dX6_goesOnFrom_14 : decode cX6_goesOnFrom 14 = .ok (.getfield 205, 3) := by decide +kernel
theorem dX6_goesOnFrom_17 : decode cX6_goesOnFrom 17 = .ok (.iload_n 2, 1) := by decide +kernel
theorem dX6_goesOnFrom_18 : decode cX6_goesOnFrom 18 = .ok (.iaload, 1) := by decide +kernel
theorem dX6_goesOnFrom_19 : decode cX6_goesOnFrom 19 = .ok (.istore 4, 2) := by decide +kernel
theorem dX6_goesOnFrom_21 : decode cX6_goesOnFrom 21 = .ok (.aload_n 0, 1) := by decide +kernel
theorem dX6_goesOnFrom_22 : decode cX6_goesOnFrom 22 = .ok (.getfield 10, 3) := by decide +kernel
theorem dX6_goesOnFrom_25 : decode cX6_goesOnFrom 25 = .ok (.iload_n 3, 1) := by decide +kernel
theorem dX6_goesOnFrom_26 : decode cX6_goesOnFrom 26 = .ok (.iload 4, 2) := by decide +kernel
theorem dX6_goesOnFrom_28 : decode cX6_goesOnFrom 28 = .ok (.invokevirtual 167, 3) := by decide +kernel
theorem dX6_goesOnFrom_31 : decode cX6_goesOnFrom 31 = .ok (.ifCond .ne 5, 3) := by decide +kernel
theorem dX6_goesOnFrom_34 : decode cX6_goesOnFrom 34 = .ok (.iconst 0, 1) := by decide +kernel
theorem dX6_goesOnFrom_35 : decode cX6_goesOnFrom 35 = .ok (.ireturn, 1) := by decide +kernel
theorem dX6_goesOnFrom_36 : decode cX6_goesOnFrom 36 = .ok (.aload_n 0, 1) := by decide +kernel
theorem dX6_goesOnFrom_37 : decode cX6_goesOnFrom 37 = .ok (.getfield 10, 3) := by decide +kernel
theorem dX6_goesOnFrom_40 : decode cX6_goesOnFrom 40 = .ok (.getfield 171, 3) := by decide +kernel
theorem dX6_goesOnFrom_43 : decode cX6_goesOnFrom 43 = .ok (.iload_n 3, 1) := by decide +kernel
theorem dX6_goesOnFrom_44 : decode cX6_goesOnFrom 44 = .ok (.aaload, 1) := by decide +kernel
theorem dX6_goesOnFrom_45 : decode cX6_goesOnFrom 45 = .ok (.iload 4, 2) := by decide +kernel
theorem dX6_goesOnFrom_47 : decode cX6_goesOnFrom 47 = .ok (.iaload, 1) := by decide +kernel
theorem dX6_goesOnFrom_48 : decode cX6_goesOnFrom 48 = .ok (.istore 5, 2) := by decide +kernel
theorem dX6_goesOnFrom_50 : decode cX6_goesOnFrom 50 = .ok (.aload_n 0, 1) := by decide +kernel
theorem dX6_goesOnFrom_51 : decode cX6_goesOnFrom 51 = .ok (.getfield 33, 3) := by decide +kernel
theorem dX6_goesOnFrom_54 : decode cX6_goesOnFrom 54 = .ok (.iload_n 1, 1) := by decide +kernel
theorem dX6_goesOnFrom_55 : decode cX6_goesOnFrom 55 = .ok (.iload_n 2, 1) := by decide +kernel
theorem dX6_goesOnFrom_56 : decode cX6_goesOnFrom 56 = .ok (.invokevirtual 275, 3) := by decide +kernel
theorem dX6_goesOnFrom_59 : decode cX6_goesOnFrom 59 = .ok (.istore 6, 2) := by decide +kernel
theorem dX6_goesOnFrom_61 : decode cX6_goesOnFrom 61 = .ok (.iload 6, 2) := by decide +kernel
theorem dX6_goesOnFrom_63 : decode cX6_goesOnFrom 63 = .ok (.iload 5, 2) := by decide +kernel
theorem dX6_goesOnFrom_65 : decode cX6_goesOnFrom 65 = .ok (.if_icmp .lt 19, 3) := by decide +kernel
theorem dX6_goesOnFrom_68 : decode cX6_goesOnFrom 68 = .ok (.iload 6, 2) := by decide +kernel
theorem dX6_goesOnFrom_70 : decode cX6_goesOnFrom 70 = .ok (.iconst 3, 1) := by decide +kernel
theorem dX6_goesOnFrom_71 : decode cX6_goesOnFrom 71 = .ok (.iload 5, 2) := by decide +kernel
theorem dX6_goesOnFrom_73 : decode cX6_goesOnFrom 73 = .ok (.imul, 1) := by decide +kernel
theorem dX6_goesOnFrom_74 : decode cX6_goesOnFrom 74 = .ok (.bipush 10, 2) := by decide +kernel
theorem dX6_goesOnFrom_76 : decode cX6_goesOnFrom 76 = .ok (.iadd, 1) := by decide +kernel
theorem dX6_goesOnFrom_77 : decode cX6_goesOnFrom 77 = .ok (.if_icmp .gt 7, 3) := by decide +kernel
theorem dX6_goesOnFrom_80 : decode cX6_goesOnFrom 80 = .ok (.iconst 1, 1) := by decide +kernel
theorem dX6_goesOnFrom_81 : decode cX6_goesOnFrom 81 = .ok (.goto 4, 3) := by decide +kernel
theorem dX6_goesOnFrom_84 : decode cX6_goesOnFrom 84 = .ok (.iconst 0, 1) := by decide +kernel
theorem dX6_goesOnFrom_85 : decode cX6_goesOnFrom 85 = .ok (.ireturn, 1) := by decide +kernel
theorem dX6_payWay_0 : decode cX6_payWay 0 = .ok (.aload_n 0, 1) := by decide +kernel
theorem dX6_payWay_1 : decode cX6_payWay 1 = .ok (.getfield 33, 3) := by decide +kernel
theorem dX6_payWay_4 : decode cX6_payWay 4 = .ok (.getfield 208, 3) := by decide +kernel
theorem dX6_payWay_7 : decode cX6_payWay 7 = .ok (.iload_n 1, 1) := by decide +kernel
theorem dX6_payWay_8 : decode cX6_payWay 8 = .ok (.iaload, 1) := by decide +kernel
theorem dX6_payWay_9 : decode cX6_payWay 9 = .ok (.istore 4, 2) := by decide +kernel
theorem dX6_payWay_11 : decode cX6_payWay 11 = .ok (.aload_n 0, 1) := by decide +kernel
theorem dX6_payWay_12 : decode cX6_payWay 12 = .ok (.getfield 33, 3) := by decide +kernel
theorem dX6_payWay_15 : decode cX6_payWay 15 = .ok (.getfield 211, 3) := by decide +kernel
theorem dX6_payWay_18 : decode cX6_payWay 18 = .ok (.iload_n 1, 1) := by decide +kernel
theorem dX6_payWay_19 : decode cX6_payWay 19 = .ok (.iaload, 1) := by decide +kernel
theorem dX6_payWay_20 : decode cX6_payWay 20 = .ok (.istore 5, 2) := by decide +kernel
theorem dX6_payWay_22 : decode cX6_payWay 22 = .ok (.aload_n 0, 1) := by decide +kernel
theorem dX6_payWay_23 : decode cX6_payWay 23 = .ok (.getfield 26, 3) := by decide +kernel
theorem dX6_payWay_26 : decode cX6_payWay 26 = .ok (.iload 4, 2) := by decide +kernel
theorem dX6_payWay_28 : decode cX6_payWay 28 = .ok (.iload 5, 2) := by decide +kernel
theorem dX6_payWay_30 : decode cX6_payWay 30 = .ok (.invokevirtual 278, 3) := by decide +kernel
theorem dX6_payWay_33 : decode cX6_payWay 33 = .ok (.ifCond .eq 4, 3) := by decide +kernel
theorem dX6_payWay_36 : decode cX6_payWay 36 = .ok (.return_, 1) := by decide +kernel
theorem dX6_payWay_37 : decode cX6_payWay 37 = .ok (.aload_n 0, 1) := by decide +kernel
theorem dX6_payWay_38 : decode cX6_payWay 38 = .ok (.getfield 33, 3) := by decide +kernel
theorem dX6_payWay_41 : decode cX6_payWay 41 = .ok (.getfield 205, 3) := by decide +kernel
theorem dX6_payWay_44 : decode cX6_payWay 44 = .ok (.iload_n 2, 1) := by decide +kernel
theorem dX6_payWay_45 : decode cX6_payWay 45 = .ok (.iaload, 1) := by decide +kernel
theorem dX6_payWay_46 : decode cX6_payWay 46 = .ok (.istore 6, 2) := by decide +kernel
theorem dX6_payWay_48 : decode cX6_payWay 48 = .ok (.aload_n 0, 1) := by decide +kernel
theorem dX6_payWay_49 : decode cX6_payWay 49 = .ok (.getfield 33, 3) := by decide +kernel
theorem dX6_payWay_52 : decode cX6_payWay 52 = .ok (.getfield 205, 3) := by decide +kernel
theorem dX6_payWay_55 : decode cX6_payWay 55 = .ok (.iload_n 1, 1) := by decide +kernel
theorem dX6_payWay_56 : decode cX6_payWay 56 = .ok (.iaload, 1) := by decide +kernel
theorem dX6_payWay_57 : decode cX6_payWay 57 = .ok (.istore 7, 2) := by decide +kernel
theorem dX6_payWay_59 : decode cX6_payWay 59 = .ok (.iconst 0, 1) := by decide +kernel
theorem dX6_payWay_60 : decode cX6_payWay 60 = .ok (.istore 8, 2) := by decide +kernel
theorem dX6_payWay_62 : decode cX6_payWay 62 = .ok (.iload 8, 2) := by decide +kernel
theorem dX6_payWay_64 : decode cX6_payWay 64 = .ok (.bipush 12, 2) := by decide +kernel
theorem dX6_payWay_66 : decode cX6_payWay 66 = .ok (.if_icmp .ge 93, 3) := by decide +kernel
theorem dX6_payWay_69 : decode cX6_payWay 69 = .ok (.aload_n 0, 1) := by decide +kernel
theorem dX6_payWay_70 : decode cX6_payWay 70 = .ok (.getfield 10, 3) := by decide +kernel
theorem dX6_payWay_73 : decode cX6_payWay 73 = .ok (.iload 7, 2) := by decide +kernel
theorem dX6_payWay_75 : decode cX6_payWay 75 = .ok (.iload 6, 2) := by decide +kernel
theorem dX6_payWay_77 : decode cX6_payWay 77 = .ok (.invokevirtual 281, 3) := by decide +kernel
theorem dX6_payWay_80 : decode cX6_payWay 80 = .ok (.istore 9, 2) := by decide +kernel
theorem dX6_payWay_82 : decode cX6_payWay 82 = .ok (.iload 9, 2) := by decide +kernel
theorem dX6_payWay_84 : decode cX6_payWay 84 = .ok (.iconst (-1), 1) := by decide +kernel
theorem dX6_payWay_85 : decode cX6_payWay 85 = .ok (.if_icmp .ne 4, 3) := by decide +kernel
theorem dX6_payWay_88 : decode cX6_payWay 88 = .ok (.return_, 1) := by decide +kernel
theorem dX6_payWay_89 : decode cX6_payWay 89 = .ok (.aload_n 0, 1) := by decide +kernel
theorem dX6_payWay_90 : decode cX6_payWay 90 = .ok (.getfield 19, 3) := by decide +kernel
theorem dX6_payWay_93 : decode cX6_payWay 93 = .ok (.aload_n 0, 1) := by decide +kernel
theorem dX6_payWay_94 : decode cX6_payWay 94 = .ok (.getfield 10, 3) := by decide +kernel
theorem dX6_payWay_97 : decode cX6_payWay 97 = .ok (.getfield 284, 3) := by decide +kernel
theorem dX6_payWay_100 : decode cX6_payWay 100 = .ok (.iload 9, 2) := by decide +kernel
theorem dX6_payWay_102 : decode cX6_payWay 102 = .ok (.iaload, 1) := by decide +kernel
theorem dX6_payWay_103 : decode cX6_payWay 103 = .ok (.aload_n 0, 1) := by decide +kernel
theorem dX6_payWay_104 : decode cX6_payWay 104 = .ok (.getfield 26, 3) := by decide +kernel
theorem dX6_payWay_107 : decode cX6_payWay 107 = .ok (.getfield 105, 3) := by decide +kernel
theorem dX6_payWay_110 : decode cX6_payWay 110 = .ok (.iload 4, 2) := by decide +kernel
theorem dX6_payWay_112 : decode cX6_payWay 112 = .ok (.iaload, 1) := by decide +kernel
theorem dX6_payWay_113 : decode cX6_payWay 113 = .ok (.iload 5, 2) := by decide +kernel
theorem dX6_payWay_115 : decode cX6_payWay 115 = .ok (.invokevirtual 287, 3) := by decide +kernel
theorem dX6_payWay_118 : decode cX6_payWay 118 = .ok (.istore 10, 2) := by decide +kernel
theorem dX6_payWay_120 : decode cX6_payWay 120 = .ok (.aload_n 0, 1) := by decide +kernel
theorem dX6_payWay_121 : decode cX6_payWay 121 = .ok (.getfield 40, 3) := by decide +kernel
theorem dX6_payWay_124 : decode cX6_payWay 124 = .ok (.iload_n 3, 1) := by decide +kernel
theorem dX6_payWay_125 : decode cX6_payWay 125 = .ok (.aload_n 0, 1) := by decide +kernel
theorem dX6_payWay_126 : decode cX6_payWay 126 = .ok (.getfield 10, 3) := by decide +kernel
theorem dX6_payWay_129 : decode cX6_payWay 129 = .ok (.getfield 290, 3) := by decide +kernel
theorem dX6_payWay_132 : decode cX6_payWay 132 = .ok (.iload 9, 2) := by decide +kernel
theorem dX6_payWay_134 : decode cX6_payWay 134 = .ok (.iaload, 1) := by decide +kernel
theorem dX6_payWay_135 : decode cX6_payWay 135 = .ok (.iload 10, 2) := by decide +kernel
theorem dX6_payWay_137 : decode cX6_payWay 137 = .ok (.invokevirtual 293, 3) := by decide +kernel
theorem dX6_payWay_140 : decode cX6_payWay 140 = .ok (.aload_n 0, 1) := by decide +kernel
theorem dX6_payWay_141 : decode cX6_payWay 141 = .ok (.getfield 10, 3) := by decide +kernel
theorem dX6_payWay_144 : decode cX6_payWay 144 = .ok (.iload 9, 2) := by decide +kernel
theorem dX6_payWay_146 : decode cX6_payWay 146 = .ok (.iload 7, 2) := by decide +kernel
theorem dX6_payWay_148 : decode cX6_payWay 148 = .ok (.invokevirtual 296, 3) := by decide +kernel
theorem dX6_payWay_151 : decode cX6_payWay 151 = .ok (.istore 7, 2) := by decide +kernel
theorem dX6_payWay_153 : decode cX6_payWay 153 = .ok (.iinc 8 1, 3) := by decide +kernel
theorem dX6_payWay_156 : decode cX6_payWay 156 = .ok (.goto (-94), 3) := by decide +kernel
theorem dX6_payWay_159 : decode cX6_payWay 159 = .ok (.return_, 1) := by decide +kernel
theorem dX6_isDoubleNow_0 : decode cX6_isDoubleNow 0 = .ok (.aload_n 0, 1) := by decide +kernel
theorem dX6_isDoubleNow_1 : decode cX6_isDoubleNow 1 = .ok (.getfield 33, 3) := by decide +kernel
theorem dX6_isDoubleNow_4 : decode cX6_isDoubleNow 4 = .ok (.getfield 138, 3) := by decide +kernel
theorem dX6_isDoubleNow_7 : decode cX6_isDoubleNow 7 = .ok (.iload_n 1, 1) := by decide +kernel
theorem dX6_isDoubleNow_8 : decode cX6_isDoubleNow 8 = .ok (.baload, 1) := by decide +kernel
theorem dX6_isDoubleNow_9 : decode cX6_isDoubleNow 9 = .ok (.ifCond .eq 5, 3) := by decide +kernel
theorem dX6_isDoubleNow_12 : decode cX6_isDoubleNow 12 = .ok (.iconst 0, 1) := by decide +kernel
theorem dX6_isDoubleNow_13 : decode cX6_isDoubleNow 13 = .ok (.ireturn, 1) := by decide +kernel
theorem dX6_isDoubleNow_14 : decode cX6_isDoubleNow 14 = .ok (.aload_n 0, 1) := by decide +kernel
theorem dX6_isDoubleNow_15 : decode cX6_isDoubleNow 15 = .ok (.aload_n 0, 1) := by decide +kernel
theorem dX6_isDoubleNow_16 : decode cX6_isDoubleNow 16 = .ok (.getfield 33, 3) := by decide +kernel
theorem dX6_isDoubleNow_19 : decode cX6_isDoubleNow 19 = .ok (.getfield 208, 3) := by decide +kernel
theorem dX6_isDoubleNow_22 : decode cX6_isDoubleNow 22 = .ok (.iload_n 1, 1) := by decide +kernel
theorem dX6_isDoubleNow_23 : decode cX6_isDoubleNow 23 = .ok (.iaload, 1) := by decide +kernel
theorem dX6_isDoubleNow_24 : decode cX6_isDoubleNow 24 = .ok (.invokevirtual 149, 3) := by decide +kernel
theorem dX6_isDoubleNow_27 : decode cX6_isDoubleNow 27 = .ok (.aload_n 0, 1) := by decide +kernel
theorem dX6_isDoubleNow_28 : decode cX6_isDoubleNow 28 = .ok (.getfield 40, 3) := by decide +kernel
theorem dX6_isDoubleNow_31 : decode cX6_isDoubleNow 31 = .ok (.getfield 299, 3) := by decide +kernel
theorem dX6_isDoubleNow_34 : decode cX6_isDoubleNow 34 = .ok (.iload_n 1, 1) := by decide +kernel
theorem dX6_isDoubleNow_35 : decode cX6_isDoubleNow 35 = .ok (.baload, 1) := by decide +kernel
theorem dX6_isDoubleNow_36 : decode cX6_isDoubleNow 36 = .ok (.ireturn, 1) := by decide +kernel
theorem dX6_journeyNow_0 : decode cX6_journeyNow 0 = .ok (.aload_n 0, 1) := by decide +kernel
theorem dX6_journeyNow_1 : decode cX6_journeyNow 1 = .ok (.getfield 33, 3) := by decide +kernel
theorem dX6_journeyNow_4 : decode cX6_journeyNow 4 = .ok (.getfield 138, 3) := by decide +kernel
theorem dX6_journeyNow_7 : decode cX6_journeyNow 7 = .ok (.iload_n 1, 1) := by decide +kernel
theorem dX6_journeyNow_8 : decode cX6_journeyNow 8 = .ok (.baload, 1) := by decide +kernel
theorem dX6_journeyNow_9 : decode cX6_journeyNow 9 = .ok (.ifCond .eq 5, 3) := by decide +kernel
theorem dX6_journeyNow_12 : decode cX6_journeyNow 12 = .ok (.iconst (-1), 1) := by decide +kernel
theorem dX6_journeyNow_13 : decode cX6_journeyNow 13 = .ok (.ireturn, 1) := by decide +kernel
theorem dX6_journeyNow_14 : decode cX6_journeyNow 14 = .ok (.aload_n 0, 1) := by decide +kernel
theorem dX6_journeyNow_15 : decode cX6_journeyNow 15 = .ok (.aload_n 0, 1) := by decide +kernel
theorem dX6_journeyNow_16 : decode cX6_journeyNow 16 = .ok (.getfield 33, 3) := by decide +kernel
theorem dX6_journeyNow_19 : decode cX6_journeyNow 19 = .ok (.getfield 208, 3) := by decide +kernel
theorem dX6_journeyNow_22 : decode cX6_journeyNow 22 = .ok (.iload_n 1, 1) := by decide +kernel
theorem dX6_journeyNow_23 : decode cX6_journeyNow 23 = .ok (.iaload, 1) := by decide +kernel
theorem dX6_journeyNow_24 : decode cX6_journeyNow 24 = .ok (.invokevirtual 149, 3) := by decide +kernel
theorem dX6_journeyNow_27 : decode cX6_journeyNow 27 = .ok (.aload_n 0, 1) := by decide +kernel
theorem dX6_journeyNow_28 : decode cX6_journeyNow 28 = .ok (.getfield 40, 3) := by decide +kernel
theorem dX6_journeyNow_31 : decode cX6_journeyNow 31 = .ok (.getfield 257, 3) := by decide +kernel
theorem dX6_journeyNow_34 : decode cX6_journeyNow 34 = .ok (.iload_n 1, 1) := by decide +kernel
theorem dX6_journeyNow_35 : decode cX6_journeyNow 35 = .ok (.iaload, 1) := by decide +kernel
theorem dX6_journeyNow_36 : decode cX6_journeyNow 36 = .ok (.ireturn, 1) := by decide +kernel
theorem dX6_dueToOwner_0 : decode cX6_dueToOwner 0 = .ok (.lconst 0, 1) := by decide +kernel
theorem dX6_dueToOwner_1 : decode cX6_dueToOwner 1 = .ok (.lstore_n 2, 1) := by decide +kernel
theorem dX6_dueToOwner_2 : decode cX6_dueToOwner 2 = .ok (.iconst 0, 1) := by decide +kernel
theorem dX6_dueToOwner_3 : decode cX6_dueToOwner 3 = .ok (.istore 4, 2) := by decide +kernel
theorem dX6_dueToOwner_5 : decode cX6_dueToOwner 5 = .ok (.iload 4, 2) := by decide +kernel
theorem dX6_dueToOwner_7 : decode cX6_dueToOwner 7 = .ok (.bipush 10, 2) := by decide +kernel
theorem dX6_dueToOwner_9 : decode cX6_dueToOwner 9 = .ok (.if_icmp .ge 37, 3) := by decide +kernel
theorem dX6_dueToOwner_12 : decode cX6_dueToOwner 12 = .ok (.aload_n 0, 1) := by decide +kernel
theorem dX6_dueToOwner_13 : decode cX6_dueToOwner 13 = .ok (.iload 4, 2) := by decide +kernel
theorem dX6_dueToOwner_15 : decode cX6_dueToOwner 15 = .ok (.invokevirtual 149, 3) := by decide +kernel
theorem dX6_dueToOwner_18 : decode cX6_dueToOwner 18 = .ok (.lload_n 2, 1) := by decide +kernel
theorem dX6_dueToOwner_19 : decode cX6_dueToOwner 19 = .ok (.aload_n 0, 1) := by decide +kernel
theorem dX6_dueToOwner_20 : decode cX6_dueToOwner 20 = .ok (.getfield 40, 3) := by decide +kernel
theorem dX6_dueToOwner_23 : decode cX6_dueToOwner 23 = .ok (.iload_n 1, 1) := by decide +kernel
theorem dX6_dueToOwner_24 : decode cX6_dueToOwner 24 = .ok (.aload_n 0, 1) := by decide +kernel
theorem dX6_dueToOwner_25 : decode cX6_dueToOwner 25 = .ok (.getfield 51, 3) := by decide +kernel
theorem dX6_dueToOwner_28 : decode cX6_dueToOwner 28 = .ok (.aload_n 0, 1) := by decide +kernel
theorem dX6_dueToOwner_29 : decode cX6_dueToOwner 29 = .ok (.getfield 19, 3) := by decide +kernel
theorem dX6_dueToOwner_32 : decode cX6_dueToOwner 32 = .ok (.getfield 99, 3) := by decide +kernel
theorem dX6_dueToOwner_35 : decode cX6_dueToOwner 35 = .ok (.invokevirtual 163, 3) := by decide +kernel
theorem dX6_dueToOwner_38 : decode cX6_dueToOwner 38 = .ok (.ladd, 1) := by decide +kernel
theorem dX6_dueToOwner_39 : decode cX6_dueToOwner 39 = .ok (.lstore_n 2, 1) := by decide +kernel
theorem dX6_dueToOwner_40 : decode cX6_dueToOwner 40 = .ok (.iinc 4 1, 3) := by decide +kernel
theorem dX6_dueToOwner_43 : decode cX6_dueToOwner 43 = .ok (.goto (-38), 3) := by decide +kernel
theorem dX6_dueToOwner_46 : decode cX6_dueToOwner 46 = .ok (.lload_n 2, 1) := by decide +kernel
theorem dX6_dueToOwner_47 : decode cX6_dueToOwner 47 = .ok (.lreturn, 1) := by decide +kernel
end
section
theorem dX7_init_0 : decode cX7_init 0 = .ok (.aload_n 0, 1) := by decide +kernel
theorem dX7_init_1 : decode cX7_init 1 = .ok (.invokespecial 1, 3) := by decide +kernel
theorem dX7_init_4 : decode cX7_init 4 = .ok (.aload_n 0, 1) := by decide +kernel
theorem dX7_init_5 : decode cX7_init 5 = .ok (.bipush 24, 2) := by decide +kernel
theorem dX7_init_7 : decode cX7_init 7 = .ok (.newarray .int, 2) := by decide +kernel
theorem dX7_init_9 : decode cX7_init 9 = .ok (.putfield 7, 3) := by decide +kernel
theorem dX7_init_12 : decode cX7_init 12 = .ok (.aload_n 0, 1) := by decide +kernel
theorem dX7_init_13 : decode cX7_init 13 = .ok (.bipush 24, 2) := by decide +kernel
theorem dX7_init_15 : decode cX7_init 15 = .ok (.newarray .int, 2) := by decide +kernel
theorem dX7_init_17 : decode cX7_init 17 = .ok (.putfield 13, 3) := by decide +kernel
theorem dX7_init_20 : decode cX7_init 20 = .ok (.aload_n 0, 1) := by decide +kernel
theorem dX7_init_21 : decode cX7_init 21 = .ok (.bipush 24, 2) := by decide +kernel
theorem dX7_init_23 : decode cX7_init 23 = .ok (.newarray .int, 2) := by decide +kernel
theorem dX7_init_25 : decode cX7_init 25 = .ok (.putfield 16, 3) := by decide +kernel
theorem dX7_init_28 : decode cX7_init 28 = .ok (.aload_n 0, 1) := by decide +kernel
theorem dX7_init_29 : decode cX7_init 29 = .ok (.bipush 24, 2) := by decide +kernel
theorem dX7_init_31 : decode cX7_init 31 = .ok (.newarray .int, 2) := by decide +kernel
theorem dX7_init_33 : decode cX7_init 33 = .ok (.putfield 19, 3) := by decide +kernel
theorem dX7_init_36 : decode cX7_init 36 = .ok (.aload_n 0, 1) := by decide +kernel
theorem dX7_init_37 : decode cX7_init 37 = .ok (.sipush 144, 3) := by decide +kernel
theorem dX7_init_40 : decode cX7_init 40 = .ok (.newarray .int, 2) := by decide +kernel
theorem dX7_init_42 : decode cX7_init 42 = .ok (.putfield 22, 3) := by decide +kernel
theorem dX7_init_45 : decode cX7_init 45 = .ok (.aload_n 0, 1) := by decide +kernel
theorem dX7_init_46 : decode cX7_init 46 = .ok (.iconst 3, 1) := by decide +kernel
theorem dX7_init_47 : decode cX7_init 47 = .ok (.newarray .int, 2) := by decide +kernel
theorem dX7_init_49 : decode cX7_init 49 = .ok (.putfield 25, 3) := by decide +kernel
theorem dX7_init_52 : decode cX7_init 52 = .ok (.aload_n 0, 1) := by decide +kernel
theorem dX7_init_53 : decode cX7_init 53 = .ok (.iconst 3, 1) := by decide +kernel
theorem dX7_init_54 : decode cX7_init 54 = .ok (.newarray .int, 2) := by decide +kernel
theorem dX7_init_56 : decode cX7_init 56 = .ok (.putfield 28, 3) := by decide +kernel
theorem dX7_init_59 : decode cX7_init 59 = .ok (.aload_n 0, 1) := by decide +kernel
theorem dX7_init_60 : decode cX7_init 60 = .ok (.sipush 5000, 3) := by decide +kernel
theorem dX7_init_63 : decode cX7_init 63 = .ok (.putfield 31, 3) := by decide +kernel
theorem dX7_init_66 : decode cX7_init 66 = .ok (.aload_n 0, 1) := by decide +kernel
theorem dX7_init_67 : decode cX7_init 67 = .ok (.bipush 10, 2) := by decide +kernel
theorem dX7_init_69 : decode cX7_init 69 = .ok (.newarray .int, 2) := by decide +kernel
theorem dX7_init_71 : decode cX7_init 71 = .ok (.putfield 35, 3) := by decide +kernel
theorem dX7_init_74 : decode cX7_init 74 = .ok (.aload_n 0, 1) := by decide +kernel
theorem dX7_init_75 : decode cX7_init 75 = .ok (.bipush 10, 2) := by decide +kernel
theorem dX7_init_77 : decode cX7_init 77 = .ok (.newarray .int, 2) := by decide +kernel
theorem dX7_init_79 : decode cX7_init 79 = .ok (.putfield 38, 3) := by decide +kernel
theorem dX7_init_82 : decode cX7_init 82 = .ok (.aload_n 0, 1) := by decide +kernel
theorem dX7_init_83 : decode cX7_init 83 = .ok (.bipush 10, 2) := by decide +kernel
theorem dX7_init_85 : decode cX7_init 85 = .ok (.newarray .long, 2) := by decide +kernel
theorem dX7_init_87 : decode cX7_init 87 = .ok (.putfield 41, 3) := by decide +kernel
theorem dX7_init_90 : decode cX7_init 90 = .ok (.aload_n 0, 1) := by decide +kernel
theorem dX7_init_91 : decode cX7_init 91 = .ok (.bipush 10, 2) := by decide +kernel
theorem dX7_init_93 : decode cX7_init 93 = .ok (.newarray .long, 2) := by decide +kernel
theorem dX7_init_95 : decode cX7_init 95 = .ok (.putfield 45, 3) := by decide +kernel
theorem dX7_init_98 : decode cX7_init 98 = .ok (.aload_n 0, 1) := by decide +kernel
theorem dX7_init_99 : decode cX7_init 99 = .ok (.bipush 6, 2) := by decide +kernel
theorem dX7_init_101 : decode cX7_init 101 = .ok (.newarray .long, 2) := by decide +kernel
theorem dX7_init_103 : decode cX7_init 103 = .ok (.putfield 48, 3) := by decide +kernel
theorem dX7_init_106 : decode cX7_init 106 = .ok (.aload_n 0, 1) := by decide +kernel
theorem dX7_init_107 : decode cX7_init 107 = .ok (.iconst 4, 1) := by decide +kernel
theorem dX7_init_108 : decode cX7_init 108 = .ok (.newarray .long, 2) := by decide +kernel
theorem dX7_init_110 : decode cX7_init 110 = .ok (.putfield 51, 3) := by decide +kernel
theorem dX7_init_113 : decode cX7_init 113 = .ok (.aload_n 0, 1) := by decide +kernel
theorem dX7_init_114 : decode cX7_init 114 = .ok (.bipush 20, 2) := by decide +kernel
theorem dX7_init_116 : decode cX7_init 116 = .ok (.newarray .int, 2) := by decide +kernel
theorem dX7_init_118 : decode cX7_init 118 = .ok (.putfield 54, 3) := by decide +kernel
theorem dX7_init_121 : decode cX7_init 121 = .ok (.aload_n 0, 1) := by decide +kernel
theorem dX7_init_122 : decode cX7_init 122 = .ok (.bipush 20, 2) := by decide +kernel
theorem dX7_init_124 : decode cX7_init 124 = .ok (.newarray .int, 2) := by decide +kernel
theorem dX7_init_126 : decode cX7_init 126 = .ok (.putfield 57, 3) := by decide +kernel
theorem dX7_init_129 : decode cX7_init 129 = .ok (.aload_n 0, 1) := by decide +kernel
theorem dX7_init_130 : decode cX7_init 130 = .ok (.bipush 20, 2) := by decide +kernel
theorem dX7_init_132 : decode cX7_init 132 = .ok (.newarray .int, 2) := by decide +kernel
theorem dX7_init_134 : decode cX7_init 134 = .ok (.putfield 60, 3) := by decide +kernel
theorem dX7_init_137 : decode cX7_init 137 = .ok (.aload_n 0, 1) := by decide +kernel
theorem dX7_init_138 : decode cX7_init 138 = .ok (.bipush 100, 2) := by decide +kernel
theorem dX7_init_140 : decode cX7_init 140 = .ok (.newarray .int, 2) := by decide +kernel
theorem dX7_init_142 : decode cX7_init 142 = .ok (.putfield 63, 3) := by decide +kernel
theorem dX7_init_145 : decode cX7_init 145 = .ok (.aload_n 0, 1) := by decide +kernel
theorem dX7_init_146 : decode cX7_init 146 = .ok (.bipush 100, 2) := by decide +kernel
theorem dX7_init_148 : decode cX7_init 148 = .ok (.newarray .int, 2) := by decide +kernel
theorem dX7_init_150 : decode cX7_init 150 = .ok (.putfield 66, 3) := by decide +kernel
theorem dX7_init_153 : decode cX7_init 153 = .ok (.aload_n 0, 1) := by decide +kernel
theorem dX7_init_154 : decode cX7_init 154 = .ok (.bipush 100, 2) := by decide +kernel
theorem dX7_init_156 : decode cX7_init 156 = .ok (.newarray .int, 2) := by decide +kernel
theorem dX7_init_158 : decode cX7_init 158 = .ok (.putfield 69, 3) := by decide +kernel
theorem dX7_init_161 : decode cX7_init 161 = .ok (.aload_n 0, 1) := by decide +kernel
theorem dX7_init_162 : decode cX7_init 162 = .ok (.bipush 100, 2) := by decide +kernel
theorem dX7_init_164 : decode cX7_init 164 = .ok (.newarray .boolean, 2) := by decide +kernel
theorem dX7_init_166 : decode cX7_init 166 = .ok (.putfield 72, 3) := by decide +kernel
theorem dX7_init_169 : decode cX7_init 169 = .ok (.aload_n 0, 1) := by decide +kernel
theorem dX7_init_170 : decode cX7_init 170 = .ok (.bipush 100, 2) := by decide +kernel
theorem dX7_init_172 : decode cX7_init 172 = .ok (.newarray .boolean, 2) := by decide +kernel
theorem dX7_init_174 : decode cX7_init 174 = .ok (.putfield 76, 3) := by decide +kernel
theorem dX7_init_177 : decode cX7_init 177 = .ok (.aload_n 0, 1) := by decide +kernel
theorem dX7_init_178 : decode cX7_init 178 = .ok (.bipush 100, 2) := by decide +kernel
theorem dX7_init_180 : decode cX7_init 180 = .ok (.newarray .int, 2) := by decide +kernel
theorem dX7_init_182 : decode cX7_init 182 = .ok (.putfield 79, 3) := by decide +kernel
theorem dX7_init_185 : decode cX7_init 185 = .ok (.aload_n 0, 1) := by decide +kernel
theorem dX7_init_186 : decode cX7_init 186 = .ok (.bipush 100, 2) := by decide +kernel
theorem dX7_init_188 : decode cX7_init 188 = .ok (.newarray .boolean, 2) := by decide +kernel
theorem dX7_init_190 : decode cX7_init 190 = .ok (.putfield 82, 3) := by decide +kernel
theorem dX7_init_193 : decode cX7_init 193 = .ok (.aload_n 0, 1) := by decide +kernel
theorem dX7_init_194 : decode cX7_init 194 = .ok (.bipush 100, 2) := by decide +kernel
theorem dX7_init_196 : decode cX7_init 196 = .ok (.newarray .int, 2) := by decide +kernel
theorem dX7_init_198 : decode cX7_init 198 = .ok (.putfield 85, 3) := by decide +kernel
theorem dX7_init_201 : decode cX7_init 201 = .ok (.aload_n 0, 1) := by decide +kernel
theorem dX7_init_202 : decode cX7_init 202 = .ok (.bipush 100, 2) := by decide +kernel
theorem dX7_init_204 : decode cX7_init 204 = .ok (.newarray .int, 2) := by decide +kernel
theorem dX7_init_206 : decode cX7_init 206 = .ok (.putfield 88, 3) := by decide +kernel
theorem dX7_init_209 : decode cX7_init 209 = .ok (.aload_n 0, 1) := by decide +kernel
theorem dX7_init_210 : decode cX7_init 210 = .ok (.bipush 100, 2) := by decide +kernel
theorem dX7_init_212 : decode cX7_init 212 = .ok (.newarray .int, 2) := by decide +kernel
theorem dX7_init_214 : decode cX7_init 214 = .ok (.putfield 91, 3) := by decide +kernel
theorem dX7_init_217 : decode cX7_init 217 = .ok (.aload_n 0, 1) := by decide +kernel
theorem dX7_init_218 : decode cX7_init 218 = .ok (.sipush 400, 3) := by decide +kernel
theorem dX7_init_221 : decode cX7_init 221 = .ok (.newarray .long, 2) := by decide +kernel
theorem dX7_init_223 : decode cX7_init 223 = .ok (.putfield 94, 3) := by decide +kernel
theorem dX7_init_226 : decode cX7_init 226 = .ok (.aload_n 0, 1) := by decide +kernel
theorem dX7_init_227 : decode cX7_init 227 = .ok (.bipush 100, 2) := by decide +kernel
theorem dX7_init_229 : decode cX7_init 229 = .ok (.newarray .long, 2) := by decide +kernel
theorem dX7_init_231 : decode cX7_init 231 = .ok (.putfield 97, 3) := by decide +kernel
theorem dX7_init_234 : decode cX7_init 234 = .ok (.aload_n 0, 1) := by decide +kernel
theorem dX7_init_235 : decode cX7_init 235 = .ok (.sipush 400, 3) := by decide +kernel
theorem dX7_init_238 : decode cX7_init 238 = .ok (.newarray .long, 2) := by decide +kernel
theorem dX7_init_240 : decode cX7_init 240 = .ok (.putfield 100, 3) := by decide +kernel
theorem dX7_init_243 : decode cX7_init 243 = .ok (.iconst 0, 1) := by decide +kernel
theorem dX7_init_244 : decode cX7_init 244 = .ok (.istore_n 1, 1) := by decide +kernel
theorem dX7_init_245 : decode cX7_init 245 = .ok (.iload_n 1, 1) := by decide +kernel
theorem dX7_init_246 : decode cX7_init 246 = .ok (.iconst 3, 1) := by decide +kernel
theorem dX7_init_247 : decode cX7_init 247 = .ok (.if_icmp .ge 26, 3) := by decide +kernel
theorem dX7_init_250 : decode cX7_init 250 = .ok (.aload_n 0, 1) := by decide +kernel
theorem dX7_init_251 : decode cX7_init 251 = .ok (.getfield 25, 3) := by decide +kernel
theorem dX7_init_254 : decode cX7_init 254 = .ok (.iload_n 1, 1) := by decide +kernel
theorem dX7_init_255 : decode cX7_init 255 = .ok (.bipush 10, 2) := by decide +kernel
theorem dX7_init_257 : decode cX7_init 257 = .ok (.iastore, 1) := by decide +kernel
theorem dX7_init_258 : decode cX7_init 258 = .ok (.aload_n 0, 1) := by decide +kernel
theorem dX7_init_259 : decode cX7_init 259 = .ok (.getfield 28, 3) := by decide +kernel
theorem dX7_init_262 : decode cX7_init 262 = .ok (.iload_n 1, 1) := by decide +kernel
theorem dX7_init_263 : decode cX7_init 263 = .ok (.sipush 150, 3) := by decide +kernel
theorem dX7_init_266 : decode cX7_init 266 = .ok (.iastore, 1) := by decide +kernel
theorem dX7_init_267 : decode cX7_init 267 = .ok (.iinc 1 1, 3) := by decide +kernel
theorem dX7_init_270 : decode cX7_init 270 = .ok (.goto (-25), 3) := by decide +kernel
theorem dX7_init_273 : decode cX7_init 273 = .ok (.iconst 0, 1) := by decide +kernel
theorem dX7_init_274 : decode cX7_init 274 = .ok (.istore_n 1, 1) := by decide +kernel
theorem dX7_init_275 : decode cX7_init 275 = .ok (.iload_n 1, 1) := by decide +kernel
theorem dX7_init_276 : decode cX7_init 276 = .ok (.bipush 10, 2) := by decide +kernel
theorem dX7_init_278 : decode cX7_init 278 = .ok (.if_icmp .ge 16, 3) := by decide +kernel
theorem dX7_init_281 : decode cX7_init 281 = .ok (.aload_n 0, 1) := by decide +kernel
theorem dX7_init_282 : decode cX7_init 282 = .ok (.getfield 38, 3) := by decide +kernel
theorem dX7_init_285 : decode cX7_init 285 = .ok (.iload_n 1, 1) := by decide +kernel
theorem dX7_init_286 : decode cX7_init 286 = .ok (.iconst (-1), 1) := by decide +kernel
theorem dX7_init_287 : decode cX7_init 287 = .ok (.iastore, 1) := by decide +kernel
theorem dX7_init_288 : decode cX7_init 288 = .ok (.iinc 1 1, 3) := by decide +kernel
theorem dX7_init_291 : decode cX7_init 291 = .ok (.goto (-16), 3) := by decide +kernel
theorem dX7_init_294 : decode cX7_init 294 = .ok (.return_, 1) := by decide +kernel
theorem dX7_thrown_0 : decode cX7_thrown 0 = .ok (.aload_n 0, 1) := by decide +kernel
theorem dX7_thrown_1 : decode cX7_thrown 1 = .ok (.getfield 103, 3) := by decide +kernel
theorem dX7_thrown_4 : decode cX7_thrown 4 = .ok (.ireturn, 1) := by decide +kernel
theorem dX7_in_0 : decode cX7_in 0 = .ok (.iload_n 0, 1) := by decide +kernel
theorem dX7_in_1 : decode cX7_in 1 = .ok (.iload_n 1, 1) := by decide +kernel
theorem dX7_in_2 : decode cX7_in 2 = .ok (.if_icmp .lt 12, 3) := by decide +kernel
theorem dX7_in_5 : decode cX7_in 5 = .ok (.iload_n 0, 1) := by decide +kernel
theorem dX7_in_6 : decode cX7_in 6 = .ok (.iload_n 2, 1) := by decide +kernel
theorem dX7_in_7 : decode cX7_in 7 = .ok (.if_icmp .gt 7, 3) := by decide +kernel
theorem dX7_in_10 : decode cX7_in 10 = .ok (.iconst 1, 1) := by decide +kernel
theorem dX7_in_11 : decode cX7_in 11 = .ok (.goto 4, 3) := by decide +kernel
theorem dX7_in_14 : decode cX7_in 14 = .ok (.iconst 0, 1) := by decide +kernel
theorem dX7_in_15 : decode cX7_in 15 = .ok (.ireturn, 1) := by decide +kernel
theorem dX7_isGate_0 : decode cX7_isGate 0 = .ok (.iload_n 1, 1) := by decide +kernel
theorem dX7_isGate_1 : decode cX7_isGate 1 = .ok (.iconst 0, 1) := by decide +kernel
theorem dX7_isGate_2 : decode cX7_isGate 2 = .ok (.aload_n 0, 1) := by decide +kernel
theorem dX7_isGate_3 : decode cX7_isGate 3 = .ok (.getfield 106, 3) := by decide +kernel
theorem dX7_isGate_6 : decode cX7_isGate 6 = .ok (.iconst 1, 1) := by decide +kernel
theorem dX7_isGate_7 : decode cX7_isGate 7 = .ok (.isub, 1) := by decide +kernel
theorem dX7_isGate_8 : decode cX7_isGate 8 = .ok (.invokestatic 109, 3) := by decide +kernel
theorem dX7_isGate_11 : decode cX7_isGate 11 = .ok (.ireturn, 1) := by decide +kernel
theorem dX7_isPlate_0 : decode cX7_isPlate 0 = .ok (.iload_n 0, 1) := by decide +kernel
theorem dX7_isPlate_1 : decode cX7_isPlate 1 = .ok (.iconst 0, 1) := by decide +kernel
theorem dX7_isPlate_2 : decode cX7_isPlate 2 = .ok (.bipush 9, 2) := by decide +kernel
theorem dX7_isPlate_4 : decode cX7_isPlate 4 = .ok (.invokestatic 109, 3) := by decide +kernel
theorem dX7_isPlate_7 : decode cX7_isPlate 7 = .ok (.ireturn, 1) := by decide +kernel
theorem dX7_isHolder_0 : decode cX7_isHolder 0 = .ok (.iload_n 0, 1) := by decide +kernel
theorem dX7_isHolder_1 : decode cX7_isHolder 1 = .ok (.iconst 0, 1) := by decide +kernel
theorem dX7_isHolder_2 : decode cX7_isHolder 2 = .ok (.iconst 5, 1) := by decide +kernel
theorem dX7_isHolder_3 : decode cX7_isHolder 3 = .ok (.invokestatic 109, 3) := by decide +kernel
theorem dX7_isHolder_6 : decode cX7_isHolder 6 = .ok (.ireturn, 1) := by decide +kernel
theorem dX7_isReading_0 : decode cX7_isReading 0 = .ok (.iload_n 1, 1) := by decide +kernel
theorem dX7_isReading_1 : decode cX7_isReading 1 = .ok (.iconst 0, 1) := by decide +kernel
theorem dX7_isReading_2 : decode cX7_isReading 2 = .ok (.aload_n 0, 1) := by decide +kernel
theorem dX7_isReading_3 : decode cX7_isReading 3 = .ok (.getfield 113, 3) := by decide +kernel
theorem dX7_isReading_6 : decode cX7_isReading 6 = .ok (.iconst 1, 1) := by decide +kernel
theorem dX7_isReading_7 : decode cX7_isReading 7 = .ok (.isub, 1) := by decide +kernel
theorem dX7_isReading_8 : decode cX7_isReading 8 = .ok (.invokestatic 109, 3) := by decide +kernel
theorem dX7_isReading_11 : decode cX7_isReading 11 = .ok (.ireturn, 1) := by decide +kernel
theorem dX7_measures_0 : decode cX7_measures 0 = .ok (.iconst 0, 1) := by decide +kernel
theorem dX7_measures_1 : decode cX7_measures 1 = .ok (.istore_n 1, 1) := by decide +kernel
theorem dX7_measures_2 : decode cX7_measures 2 = .ok (.iload_n 1, 1) := by decide +kernel
theorem dX7_measures_3 : decode cX7_measures 3 = .ok (.sipush 144, 3) := by decide +kernel
theorem dX7_measures_6 : decode cX7_measures 6 = .ok (.if_icmp .ge 32, 3) := by decide +kernel
theorem dX7_measures_9 : decode cX7_measures 9 = .ok (.aload_n 0, 1) := by decide +kernel
theorem dX7_measures_10 : decode cX7_measures 10 = .ok (.getfield 22, 3) := by decide +kernel
theorem dX7_measures_13 : decode cX7_measures 13 = .ok (.iload_n 1, 1) := by decide +kernel
theorem dX7_measures_14 : decode cX7_measures 14 = .ok (.iload_n 1, 1) := by decide +kernel
theorem dX7_measures_15 : decode cX7_measures 15 = .ok (.bipush 12, 2) := by decide +kernel
theorem dX7_measures_17 : decode cX7_measures 17 = .ok (.idiv, 1) := by decide +kernel
theorem dX7_measures_18 : decode cX7_measures 18 = .ok (.iload_n 1, 1) := by decide +kernel
theorem dX7_measures_19 : decode cX7_measures 19 = .ok (.bipush 12, 2) := by decide +kernel
theorem dX7_measures_21 : decode cX7_measures 21 = .ok (.irem, 1) := by decide +kernel
theorem dX7_measures_22 : decode cX7_measures 22 = .ok (.if_icmp .ne 7, 3) := by decide +kernel
theorem dX7_measures_25 : decode cX7_measures 25 = .ok (.iconst 0, 1) := by decide +kernel
theorem dX7_measures_26 : decode cX7_measures 26 = .ok (.goto 5, 3) := by decide +kernel
theorem dX7_measures_29 : decode cX7_measures 29 = .ok (.ldc 116, 2) := by decide +kernel
theorem dX7_measures_31 : decode cX7_measures 31 = .ok (.iastore, 1) := by decide +kernel
theorem dX7_measures_32 : decode cX7_measures 32 = .ok (.iinc 1 1, 3) := by decide +kernel
theorem dX7_measures_35 : decode cX7_measures 35 = .ok (.goto (-33), 3) := by decide +kernel
theorem dX7_measures_38 : decode cX7_measures 38 = .ok (.iconst 1, 1) := by decide +kernel
theorem dX7_measures_39 : decode cX7_measures 39 = .ok (.istore_n 1, 1) := by decide +kernel
theorem dX7_measures_40 : decode cX7_measures 40 = .ok (.iload_n 1, 1) := by decide +kernel
theorem dX7_measures_41 : decode cX7_measures 41 = .ok (.ifCond .eq 158, 3) := by decide +kernel
theorem dX7_measures_44 : decode cX7_measures 44 = .ok (.iconst 0, 1) := by decide +kernel
theorem dX7_measures_45 : decode cX7_measures 45 = .ok (.istore_n 1, 1) := by decide +kernel
theorem dX7_measures_46 : decode cX7_measures 46 = .ok (.iconst 0, 1) := by decide +kernel
theorem dX7_measures_47 : decode cX7_measures 47 = .ok (.istore_n 2, 1) := by decide +kernel
theorem dX7_measures_48 : decode cX7_measures 48 = .ok (.iload_n 2, 1) := by decide +kernel
theorem dX7_measures_49 : decode cX7_measures 49 = .ok (.aload_n 0, 1) := by decide +kernel
theorem dX7_measures_50 : decode cX7_measures 50 = .ok (.getfield 117, 3) := by decide +kernel
theorem dX7_measures_53 : decode cX7_measures 53 = .ok (.if_icmp .ge 143, 3) := by decide +kernel
theorem dX7_measures_56 : decode cX7_measures 56 = .ok (.iconst 0, 1) := by decide +kernel
theorem dX7_measures_57 : decode cX7_measures 57 = .ok (.istore_n 3, 1) := by decide +kernel
theorem dX7_measures_58 : decode cX7_measures 58 = .ok (.iload_n 3, 1) := by decide +kernel
theorem dX7_measures_59 : decode cX7_measures 59 = .ok (.bipush 12, 2) := by decide +kernel
theorem dX7_measures_61 : decode cX7_measures 61 = .ok (.if_icmp .ge 129, 3) := by decide +kernel
theorem dX7_measures_64 : decode cX7_measures 64 = .ok (.bipush 12, 2) := by decide +kernel
theorem dX7_measures_66 : decode cX7_measures 66 = .ok (.iload_n 3, 1) := by decide +kernel
theorem dX7_measures_67 : decode cX7_measures 67 = .ok (.imul, 1) := by decide +kernel
theorem dX7_measures_68 : decode cX7_measures 68 = .ok (.aload_n 0, 1) := by decide +kernel
theorem dX7_measures_69 : decode cX7_measures 69 = .ok (.getfield 7, 3) := by decide +kernel
theorem dX7_measures_72 : decode cX7_measures 72 = .ok (.iload_n 2, 1) := by decide +kernel
theorem dX7_measures_73 : decode cX7_measures 73 = .ok (.iaload, 1) := by decide +kernel
theorem dX7_measures_74 : decode cX7_measures 74 = .ok (.iadd, 1) := by decide +kernel
theorem dX7_measures_75 : decode cX7_measures 75 = .ok (.istore 4, 2) := by decide +kernel
theorem dX7_measures_77 : decode cX7_measures 77 = .ok (.bipush 12, 2) := by decide +kernel
theorem dX7_measures_79 : decode cX7_measures 79 = .ok (.iload_n 3, 1) := by decide +kernel
theorem dX7_measures_80 : decode cX7_measures 80 = .ok (.imul, 1) := by decide +kernel
theorem dX7_measures_81 : decode cX7_measures 81 = .ok (.aload_n 0, 1) := by decide +kernel
theorem dX7_measures_82 : decode cX7_measures 82 = .ok (.getfield 13, 3) := by decide +kernel
theorem dX7_measures_85 : decode cX7_measures 85 = .ok (.iload_n 2, 1) := by decide +kernel
theorem dX7_measures_86 : decode cX7_measures 86 = .ok (.iaload, 1) := by decide +kernel
theorem dX7_measures_87 : decode cX7_measures 87 = .ok (.iadd, 1) := by decide +kernel
theorem dX7_measures_88 : decode cX7_measures 88 = .ok (.istore 5, 2) := by decide +kernel
theorem dX7_measures_90 : decode cX7_measures 90 = .ok (.aload_n 0, 1) := by decide +kernel
theorem dX7_measures_91 : decode cX7_measures 91 = .ok (.getfield 22, 3) := by decide +kernel
theorem dX7_measures_94 : decode cX7_measures 94 = .ok (.iload 4, 2) := by decide +kernel
theorem dX7_measures_96 : decode cX7_measures 96 = .ok (.iaload, 1) := by decide +kernel
theorem dX7_measures_97 : decode cX7_measures 97 = .ok (.aload_n 0, 1) := by decide +kernel
theorem dX7_measures_98 : decode cX7_measures 98 = .ok (.getfield 16, 3) := by decide +kernel
theorem dX7_measures_101 : decode cX7_measures 101 = .ok (.iload_n 2, 1) := by decide +kernel
theorem dX7_measures_102 : decode cX7_measures 102 = .ok (.iaload, 1) := by decide +kernel
theorem dX7_measures_103 : decode cX7_measures 103 = .ok (.iadd, 1) := by decide +kernel
theorem dX7_measures_104 : decode cX7_measures 104 = .ok (.aload_n 0, 1) := by decide +kernel
theorem dX7_measures_105 : decode cX7_measures 105 = .ok (.getfield 22, 3) := by decide +kernel
theorem dX7_measures_108 : decode cX7_measures 108 = .ok (.iload 5, 2) := by decide +kernel
theorem dX7_measures_110 : decode cX7_measures 110 = .ok (.iaload, 1) := by decide +kernel
theorem dX7_measures_111 : decode cX7_measures 111 = .ok (.if_icmp .ge 26, 3) := by decide +kernel
theorem dX7_measures_114 : decode cX7_measures 114 = .ok (.aload_n 0, 1) := by decide +kernel
theorem dX7_measures_115 : decode cX7_measures 115 = .ok (.getfield 22, 3) := by decide +kernel
theorem dX7_measures_118 : decode cX7_measures 118 = .ok (.iload 5, 2) := by decide +kernel
theorem dX7_measures_120 : decode cX7_measures 120 = .ok (.aload_n 0, 1) := by decide +kernel
theorem dX7_measures_121 : decode cX7_measures 121 = .ok (.getfield 22, 3) := by decide +kernel
theorem dX7_measures_124 : decode cX7_measures 124 = .ok (.iload 4, 2) := by decide +kernel
theorem dX7_measures_126 : decode cX7_measures 126 = .ok (.iaload, 1) := by decide +kernel
theorem dX7_measures_127 : decode cX7_measures 127 = .ok (.aload_n 0, 1) := by decide +kernel
theorem dX7_measures_128 : decode cX7_measures 128 = .ok (.getfield 16, 3) := by decide +kernel
theorem dX7_measures_131 : decode cX7_measures 131 = .ok (.iload_n 2, 1) := by decide +kernel
theorem dX7_measures_132 : decode cX7_measures 132 = .ok (.iaload, 1) := by decide +kernel
theorem dX7_measures_133 : decode cX7_measures 133 = .ok (.iadd, 1) := by decide +kernel
theorem dX7_measures_134 : decode cX7_measures 134 = .ok (.iastore, 1) := by decide +kernel
theorem dX7_measures_135 : decode cX7_measures 135 = .ok (.iconst 1, 1) := by decide +kernel
theorem dX7_measures_136 : decode cX7_measures 136 = .ok (.istore_n 1, 1) := by decide +kernel
theorem dX7_measures_137 : decode cX7_measures 137 = .ok (.aload_n 0, 1) := by decide +kernel
theorem dX7_measures_138 : decode cX7_measures 138 = .ok (.getfield 22, 3) := by decide +kernel
theorem dX7_measures_141 : decode cX7_measures 141 = .ok (.iload 5, 2) := by decide +kernel
theorem dX7_measures_143 : decode cX7_measures 143 = .ok (.iaload, 1) := by decide +kernel
theorem dX7_measures_144 : decode cX7_measures 144 = .ok (.aload_n 0, 1) := by decide +kernel
theorem dX7_measures_145 : decode cX7_measures 145 = .ok (.getfield 16, 3) := by decide +kernel
theorem dX7_measures_148 : decode cX7_measures 148 = .ok (.iload_n 2, 1) := by decide +kernel
theorem dX7_measures_149 : decode cX7_measures 149 = .ok (.iaload, 1) := by decide +kernel
theorem dX7_measures_150 : decode cX7_measures 150 = .ok (.iadd, 1) := by decide +kernel
theorem dX7_measures_151 : decode cX7_measures 151 = .ok (.aload_n 0, 1) := by decide +kernel
theorem dX7_measures_152 : decode cX7_measures 152 = .ok (.getfield 22, 3) := by decide +kernel
theorem dX7_measures_155 : decode cX7_measures 155 = .ok (.iload 4, 2) := by decide +kernel
theorem dX7_measures_157 : decode cX7_measures 157 = .ok (.iaload, 1) := by decide +kernel
theorem dX7_measures_158 : decode cX7_measures 158 = .ok (.if_icmp .ge 26, 3) := by decide +kernel
theorem dX7_measures_161 : decode cX7_measures 161 = .ok (.aload_n 0, 1) := by decide +kernel
theorem dX7_measures_162 : decode cX7_measures 162 = .ok (.getfield 22, 3) := by decide +kernel
theorem dX7_measures_165 : decode cX7_measures 165 = .ok (.iload 4, 2) := by decide +kernel
theorem dX7_measures_167 : decode cX7_measures 167 = .ok (.aload_n 0, 1) := by decide +kernel
theorem dX7_measures_168 : decode cX7_measures 168 = .ok (.getfield 22, 3) := by decide +kernel
theorem dX7_measures_171 : decode cX7_measures 171 = .ok (.iload 5, 2) := by decide +kernel
theorem dX7_measures_173 : decode cX7_measures 173 = .ok (.iaload, 1) := by decide +kernel
theorem dX7_measures_174 : decode cX7_measures 174 = .ok (.aload_n 0, 1) := by decide +kernel
theorem dX7_measures_175 : decode cX7_measures 175 = .ok (.getfield 16, 3) := by decide +kernel
theorem dX7_measures_178 : decode cX7_measures 178 = .ok (.iload_n 2, 1) := by decide +kernel
theorem dX7_measures_179 : decode cX7_measures 179 = .ok (.iaload, 1) := by decide +kernel
theorem dX7_measures_180 : decode cX7_measures 180 = .ok (.iadd, 1) := by decide +kernel
theorem dX7_measures_181 : decode cX7_measures 181 = .ok (.iastore, 1) := by decide +kernel
theorem dX7_measures_182 : decode cX7_measures 182 = .ok (.iconst 1, 1) := by decide +kernel
theorem dX7_measures_183 : decode cX7_measures 183 = .ok (.istore_n 1, 1) := by decide +kernel
theorem dX7_measures_184 : decode cX7_measures 184 = .ok (.iinc 3 1, 3) := by decide +kernel
theorem dX7_measures_187 : decode cX7_measures 187 = .ok (.goto (-129), 3) := by decide +kernel
theorem dX7_measures_190 : decode cX7_measures 190 = .ok (.iinc 2 1, 3) := by decide +kernel
theorem dX7_measures_193 : decode cX7_measures 193 = .ok (.goto (-145), 3) := by decide +kernel
theorem dX7_measures_196 : decode cX7_measures 196 = .ok (.goto (-156), 3) := by decide +kernel
theorem dX7_measures_199 : decode cX7_measures 199 = .ok (.return_, 1) := by decide +kernel
theorem dX7_away_0 : decode cX7_away 0 = .ok (.aload_n 0, 1) := by decide +kernel
theorem dX7_away_1 : decode cX7_away 1 = .ok (.getfield 22, 3) := by decide +kernel
theorem dX7_away_4 : decode cX7_away 4 = .ok (.bipush 12, 2) := by decide +kernel
theorem dX7_away_6 : decode cX7_away 6 = .ok (.iload_n 1, 1) := by decide +kernel
theorem dX7_away_7 : decode cX7_away 7 = .ok (.imul, 1) := by decide +kernel
theorem dX7_away_8 : decode cX7_away 8 = .ok (.iload_n 2, 1) := by decide +kernel
theorem dX7_away_9 : decode cX7_away 9 = .ok (.iadd, 1) := by decide +kernel
theorem dX7_away_10 : decode cX7_away 10 = .ok (.iaload, 1) := by decide +kernel
theorem dX7_away_11 : decode cX7_away 11 = .ok (.ireturn, 1) := by decide +kernel
theorem dX7_next_0 : decode cX7_next 0 = .ok (.iconst (-1), 1) := by decide +kernel
theorem dX7_next_1 : decode cX7_next 1 = .ok (.istore_n 3, 1) := by decide +kernel
theorem dX7_next_2 : decode cX7_next 2 = .ok (.aload_n 0, 1) := by decide +kernel
theorem dX7_next_3 : decode cX7_next 3 = .ok (.getfield 117, 3) := by decide +kernel
theorem dX7_next_6 : decode cX7_next 6 = .ok (.iconst 1, 1) := by decide +kernel
theorem dX7_next_7 : decode cX7_next 7 = .ok (.isub, 1) := by decide +kernel
theorem dX7_next_8 : decode cX7_next 8 = .ok (.istore 4, 2) := by decide +kernel
theorem dX7_next_10 : decode cX7_next 10 = .ok (.iload 4, 2) := by decide +kernel
theorem dX7_next_12 : decode cX7_next 12 = .ok (.ifCond .lt 108, 3) := by decide +kernel
theorem dX7_next_15 : decode cX7_next 15 = .ok (.aload_n 0, 1) := by decide +kernel
theorem dX7_next_16 : decode cX7_next 16 = .ok (.getfield 7, 3) := by decide +kernel
theorem dX7_next_19 : decode cX7_next 19 = .ok (.iload 4, 2) := by decide +kernel
theorem dX7_next_21 : decode cX7_next 21 = .ok (.iaload, 1) := by decide +kernel
theorem dX7_next_22 : decode cX7_next 22 = .ok (.iload_n 1, 1) := by decide +kernel
theorem dX7_next_23 : decode cX7_next 23 = .ok (.if_icmp .ne 13, 3) := by decide +kernel
theorem dX7_next_26 : decode cX7_next 26 = .ok (.aload_n 0, 1) := by decide +kernel
theorem dX7_next_27 : decode cX7_next 27 = .ok (.getfield 13, 3) := by decide +kernel
theorem dX7_next_30 : decode cX7_next 30 = .ok (.iload 4, 2) := by decide +kernel
theorem dX7_next_32 : decode cX7_next 32 = .ok (.iaload, 1) := by decide +kernel
theorem dX7_next_33 : decode cX7_next 33 = .ok (.goto 25, 3) := by decide +kernel
theorem dX7_next_36 : decode cX7_next 36 = .ok (.aload_n 0, 1) := by decide +kernel
theorem dX7_next_37 : decode cX7_next 37 = .ok (.getfield 13, 3) := by decide +kernel
theorem dX7_next_40 : decode cX7_next 40 = .ok (.iload 4, 2) := by decide +kernel
theorem dX7_next_42 : decode cX7_next 42 = .ok (.iaload, 1) := by decide +kernel
theorem dX7_next_43 : decode cX7_next 43 = .ok (.iload_n 1, 1) := by decide +kernel
theorem dX7_next_44 : decode cX7_next 44 = .ok (.if_icmp .ne 13, 3) := by decide +kernel
theorem dX7_next_47 : decode cX7_next 47 = .ok (.aload_n 0, 1) := by decide +kernel
theorem dX7_next_48 : decode cX7_next 48 = .ok (.getfield 7, 3) := by decide +kernel
theorem dX7_next_51 : decode cX7_next 51 = .ok (.iload 4, 2) := by decide +kernel
theorem dX7_next_53 : decode cX7_next 53 = .ok (.iaload, 1) := by decide +kernel
theorem dX7_next_54 : decode cX7_next 54 = .ok (.goto 4, 3) := by decide +kernel
theorem dX7_next_57 : decode cX7_next 57 = .ok (.iconst (-1), 1) := by decide +kernel
theorem dX7_next_58 : decode cX7_next 58 = .ok (.istore 5, 2) := by decide +kernel
theorem dX7_next_60 : decode cX7_next 60 = .ok (.iload 5, 2) := by decide +kernel
theorem dX7_next_62 : decode cX7_next 62 = .ok (.iconst (-1), 1) := by decide +kernel
theorem dX7_next_63 : decode cX7_next 63 = .ok (.if_icmp .eq 36, 3) := by decide +kernel
theorem dX7_next_66 : decode cX7_next 66 = .ok (.iload_n 1, 1) := by decide +kernel
theorem dX7_next_67 : decode cX7_next 67 = .ok (.iload_n 2, 1) := by decide +kernel
theorem dX7_next_68 : decode cX7_next 68 = .ok (.if_icmp .eq 31, 3) := by decide +kernel
theorem dX7_next_71 : decode cX7_next 71 = .ok (.aload_n 0, 1) := by decide +kernel
theorem dX7_next_72 : decode cX7_next 72 = .ok (.iload 5, 2) := by decide +kernel
theorem dX7_next_74 : decode cX7_next 74 = .ok (.iload_n 2, 1) := by decide +kernel
theorem dX7_next_75 : decode cX7_next 75 = .ok (.invokevirtual 120, 3) := by decide +kernel
theorem dX7_next_78 : decode cX7_next 78 = .ok (.aload_n 0, 1) := by decide +kernel
theorem dX7_next_79 : decode cX7_next 79 = .ok (.getfield 16, 3) := by decide +kernel
theorem dX7_next_82 : decode cX7_next 82 = .ok (.iload 4, 2) := by decide +kernel
theorem dX7_next_84 : decode cX7_next 84 = .ok (.iaload, 1) := by decide +kernel
theorem dX7_next_85 : decode cX7_next 85 = .ok (.iadd, 1) := by decide +kernel
theorem dX7_next_86 : decode cX7_next 86 = .ok (.aload_n 0, 1) := by decide +kernel
theorem dX7_next_87 : decode cX7_next 87 = .ok (.iload_n 1, 1) := by decide +kernel
theorem dX7_next_88 : decode cX7_next 88 = .ok (.iload_n 2, 1) := by decide +kernel
theorem dX7_next_89 : decode cX7_next 89 = .ok (.invokevirtual 120, 3) := by decide +kernel
theorem dX7_next_92 : decode cX7_next 92 = .ok (.if_icmp .ne 7, 3) := by decide +kernel
theorem dX7_next_95 : decode cX7_next 95 = .ok (.iconst 1, 1) := by decide +kernel
theorem dX7_next_96 : decode cX7_next 96 = .ok (.goto 4, 3) := by decide +kernel
theorem dX7_next_99 : decode cX7_next 99 = .ok (.iconst 0, 1) := by decide +kernel
theorem dX7_next_100 : decode cX7_next 100 = .ok (.istore 6, 2) := by decide +kernel
theorem dX7_next_102 : decode cX7_next 102 = .ok (.iload 6, 2) := by decide +kernel
theorem dX7_next_104 : decode cX7_next 104 = .ok (.ifCond .eq 8, 3) := by decide +kernel
theorem dX7_next_107 : decode cX7_next 107 = .ok (.iload 4, 2) := by decide +kernel
theorem dX7_next_109 : decode cX7_next 109 = .ok (.goto 4, 3) := by decide +kernel
theorem dX7_next_112 : decode cX7_next 112 = .ok (.iload_n 3, 1) := by decide +kernel
theorem dX7_next_113 : decode cX7_next 113 = .ok (.istore_n 3, 1) := by decide +kernel
theorem dX7_next_114 : decode cX7_next 114 = .ok (.iinc 4 (-1), 3) := by decide +kernel
theorem dX7_next_117 : decode cX7_next 117 = .ok (.goto (-107), 3) := by decide +kernel
theorem dX7_next_120 : decode cX7_next 120 = .ok (.iload_n 3, 1) := by decide +kernel
theorem dX7_next_121 : decode cX7_next 121 = .ok (.ireturn, 1) := by decide +kernel
theorem dX7_otherEnd_0 : decode cX7_otherEnd 0 = .ok (.aload_n 0, 1) := by decide +kernel
theorem dX7_otherEnd_1 : decode cX7_otherEnd 1 = .ok (.getfield 7, 3) := by decide +kernel
theorem dX7_otherEnd_4 : decode cX7_otherEnd 4 = .ok (.iload_n 1, 1) := by decide +kernel
theorem dX7_otherEnd_5 : decode cX7_otherEnd 5 = .ok (.iaload, 1) := by decide +kernel
theorem dX7_otherEnd_6 : decode cX7_otherEnd 6 = .ok (.iload_n 2, 1) := by decide +kernel
theorem dX7_otherEnd_7 : decode cX7_otherEnd 7 = .ok (.if_icmp .ne 12, 3) := by decide +kernel
theorem dX7_otherEnd_10 : decode cX7_otherEnd 10 = .ok (.aload_n 0, 1) := by decide +kernel
theorem dX7_otherEnd_11 : decode cX7_otherEnd 11 = .ok (.getfield 13, 3) := by decide +kernel
theorem dX7_otherEnd_14 : decode cX7_otherEnd 14 = .ok (.iload_n 1, 1) := by decide +kernel
theorem dX7_otherEnd_15 : decode cX7_otherEnd 15 = .ok (.iaload, 1) := by decide +kernel
theorem dX7_otherEnd_16 : decode cX7_otherEnd 16 = .ok (.goto 9, 3) := by decide +kernel
theorem dX7_otherEnd_19 : decode cX7_otherEnd 19 = .ok (.aload_n 0, 1) := by decide +kernel
theorem dX7_otherEnd_20 : decode cX7_otherEnd 20 = .ok (.getfield 7, 3) := by decide +kernel
theorem dX7_otherEnd_23 : decode cX7_otherEnd 23 = .ok (.iload_n 1, 1) := by decide +kernel
theorem dX7_otherEnd_24 : decode cX7_otherEnd 24 = .ok (.iaload, 1) := by decide +kernel
theorem dX7_otherEnd_25 : decode cX7_otherEnd 25 = .ok (.ireturn, 1) := by decide +kernel
theorem dX7_gate_0 : decode cX7_gate 0 = .ok (.aload_n 0, 1) := by decide +kernel
theorem dX7_gate_1 : decode cX7_gate 1 = .ok (.aload_n 0, 1) := by decide +kernel
theorem dX7_gate_2 : decode cX7_gate 2 = .ok (.getfield 106, 3) := by decide +kernel
theorem dX7_gate_5 : decode cX7_gate 5 = .ok (.bipush 12, 2) := by decide +kernel
theorem dX7_gate_7 : decode cX7_gate 7 = .ok (.if_icmp .ne 7, 3) := by decide +kernel
theorem dX7_gate_10 : decode cX7_gate 10 = .ok (.iconst 1, 1) := by decide +kernel
theorem dX7_gate_11 : decode cX7_gate 11 = .ok (.goto 4, 3) := by decide +kernel
theorem dX7_gate_14 : decode cX7_gate 14 = .ok (.iconst 0, 1) := by decide +kernel
theorem dX7_gate_15 : decode cX7_gate 15 = .ok (.putfield 103, 3) := by decide +kernel
theorem dX7_gate_18 : decode cX7_gate 18 = .ok (.aload_n 0, 1) := by decide +kernel
theorem dX7_gate_19 : decode cX7_gate 19 = .ok (.getfield 103, 3) := by decide +kernel
theorem dX7_gate_22 : decode cX7_gate 22 = .ok (.ifCond .le 5, 3) := by decide +kernel
theorem dX7_gate_25 : decode cX7_gate 25 = .ok (.iconst 0, 1) := by decide +kernel
theorem dX7_gate_26 : decode cX7_gate 26 = .ok (.ireturn, 1) := by decide +kernel
theorem dX7_gate_27 : decode cX7_gate 27 = .ok (.aload_n 0, 1) := by decide +kernel
theorem dX7_gate_28 : decode cX7_gate 28 = .ok (.dup, 1) := by decide +kernel
theorem dX7_gate_29 : decode cX7_gate 29 = .ok (.getfield 106, 3) := by decide +kernel
theorem dX7_gate_32 : decode cX7_gate 32 = .ok (.iconst 1, 1) := by decide +kernel
theorem dX7_gate_33 : decode cX7_gate 33 = .ok (.iadd, 1) := by decide +kernel
theorem dX7_gate_34 : decode cX7_gate 34 = .ok (.putfield 106, 3) := by decide +kernel
theorem dX7_gate_37 : decode cX7_gate 37 = .ok (.aload_n 0, 1) := by decide +kernel
theorem dX7_gate_38 : decode cX7_gate 38 = .ok (.invokevirtual 124, 3) := by decide +kernel
theorem dX7_gate_41 : decode cX7_gate 41 = .ok (.aload_n 0, 1) := by decide +kernel
theorem dX7_gate_42 : decode cX7_gate 42 = .ok (.getfield 106, 3) := by decide +kernel
theorem dX7_gate_45 : decode cX7_gate 45 = .ok (.iconst 1, 1) := by decide +kernel
theorem dX7_gate_46 : decode cX7_gate 46 = .ok (.isub, 1) := by decide +kernel
theorem dX7_gate_47 : decode cX7_gate 47 = .ok (.ireturn, 1) := by decide +kernel
theorem dX7_road_0 : decode cX7_road 0 = .ok (.aload_n 0, 1) := by decide +kernel
theorem dX7_road_1 : decode cX7_road 1 = .ok (.aload_n 0, 1) := by decide +kernel
theorem dX7_road_2 : decode cX7_road 2 = .ok (.iload_n 1, 1) := by decide +kernel
theorem dX7_road_3 : decode cX7_road 3 = .ok (.invokevirtual 127, 3) := by decide +kernel
theorem dX7_road_6 : decode cX7_road 6 = .ok (.ifCond .eq 11, 3) := by decide +kernel
theorem dX7_road_9 : decode cX7_road 9 = .ok (.aload_n 0, 1) := by decide +kernel
theorem dX7_road_10 : decode cX7_road 10 = .ok (.iload_n 2, 1) := by decide +kernel
theorem dX7_road_11 : decode cX7_road 11 = .ok (.invokevirtual 127, 3) := by decide +kernel
theorem dX7_road_14 : decode cX7_road 14 = .ok (.ifCond .ne 7, 3) := by decide +kernel
theorem dX7_road_17 : decode cX7_road 17 = .ok (.iconst 1, 1) := by decide +kernel
theorem dX7_road_18 : decode cX7_road 18 = .ok (.goto 46, 3) := by decide +kernel
theorem dX7_road_21 : decode cX7_road 21 = .ok (.iload_n 3, 1) := by decide +kernel
theorem dX7_road_22 : decode cX7_road 22 = .ok (.iconst 1, 1) := by decide +kernel
theorem dX7_road_23 : decode cX7_road 23 = .ok (.bipush 50, 2) := by decide +kernel
theorem dX7_road_25 : decode cX7_road 25 = .ok (.invokestatic 109, 3) := by decide +kernel
theorem dX7_road_28 : decode cX7_road 28 = .ok (.ifCond .eq 18, 3) := by decide +kernel
theorem dX7_road_31 : decode cX7_road 31 = .ok (.iload 4, 2) := by decide +kernel
theorem dX7_road_33 : decode cX7_road 33 = .ok (.iconst 0, 1) := by decide +kernel
theorem dX7_road_34 : decode cX7_road 34 = .ok (.iconst 3, 1) := by decide +kernel
theorem dX7_road_35 : decode cX7_road 35 = .ok (.invokestatic 109, 3) := by decide +kernel
theorem dX7_road_38 : decode cX7_road 38 = .ok (.ifCond .eq 8, 3) := by decide +kernel
theorem dX7_road_41 : decode cX7_road 41 = .ok (.iload_n 1, 1) := by decide +kernel
theorem dX7_road_42 : decode cX7_road 42 = .ok (.iload_n 2, 1) := by decide +kernel
theorem dX7_road_43 : decode cX7_road 43 = .ok (.if_icmp .ne 7, 3) := by decide +kernel
theorem dX7_road_46 : decode cX7_road 46 = .ok (.iconst 2, 1) := by decide +kernel
theorem dX7_road_47 : decode cX7_road 47 = .ok (.goto 17, 3) := by decide +kernel
theorem dX7_road_50 : decode cX7_road 50 = .ok (.aload_n 0, 1) := by decide +kernel
theorem dX7_road_51 : decode cX7_road 51 = .ok (.getfield 117, 3) := by decide +kernel
theorem dX7_road_54 : decode cX7_road 54 = .ok (.bipush 24, 2) := by decide +kernel
theorem dX7_road_56 : decode cX7_road 56 = .ok (.if_icmp .ne 7, 3) := by decide +kernel
theorem dX7_road_59 : decode cX7_road 59 = .ok (.iconst 3, 1) := by decide +kernel
theorem dX7_road_60 : decode cX7_road 60 = .ok (.goto 4, 3) := by decide +kernel
theorem dX7_road_63 : decode cX7_road 63 = .ok (.iconst 0, 1) := by decide +kernel
theorem dX7_road_64 : decode cX7_road 64 = .ok (.putfield 103, 3) := by decide +kernel
theorem dX7_road_67 : decode cX7_road 67 = .ok (.aload_n 0, 1) := by decide +kernel
theorem dX7_road_68 : decode cX7_road 68 = .ok (.getfield 103, 3) := by decide +kernel
theorem dX7_road_71 : decode cX7_road 71 = .ok (.ifCond .le 5, 3) := by decide +kernel
theorem dX7_road_74 : decode cX7_road 74 = .ok (.iconst 0, 1) := by decide +kernel
theorem dX7_road_75 : decode cX7_road 75 = .ok (.ireturn, 1) := by decide +kernel
theorem dX7_road_76 : decode cX7_road 76 = .ok (.aload_n 0, 1) := by decide +kernel
theorem dX7_road_77 : decode cX7_road 77 = .ok (.getfield 7, 3) := by decide +kernel
theorem dX7_road_80 : decode cX7_road 80 = .ok (.aload_n 0, 1) := by decide +kernel
theorem dX7_road_81 : decode cX7_road 81 = .ok (.getfield 117, 3) := by decide +kernel
theorem dX7_road_84 : decode cX7_road 84 = .ok (.iload_n 1, 1) := by decide +kernel
theorem dX7_road_85 : decode cX7_road 85 = .ok (.iastore, 1) := by decide +kernel
theorem dX7_road_86 : decode cX7_road 86 = .ok (.aload_n 0, 1) := by decide +kernel
theorem dX7_road_87 : decode cX7_road 87 = .ok (.getfield 13, 3) := by decide +kernel
theorem dX7_road_90 : decode cX7_road 90 = .ok (.aload_n 0, 1) := by decide +kernel
theorem dX7_road_91 : decode cX7_road 91 = .ok (.getfield 117, 3) := by decide +kernel
theorem dX7_road_94 : decode cX7_road 94 = .ok (.iload_n 2, 1) := by decide +kernel
theorem dX7_road_95 : decode cX7_road 95 = .ok (.iastore, 1) := by decide +kernel
theorem dX7_road_96 : decode cX7_road 96 = .ok (.aload_n 0, 1) := by decide +kernel
theorem dX7_road_97 : decode cX7_road 97 = .ok (.getfield 16, 3) := by decide +kernel
theorem dX7_road_100 : decode cX7_road 100 = .ok (.aload_n 0, 1) := by decide +kernel
theorem dX7_road_101 : decode cX7_road 101 = .ok (.getfield 117, 3) := by decide +kernel
theorem dX7_road_104 : decode cX7_road 104 = .ok (.iload_n 3, 1) := by decide +kernel
theorem dX7_road_105 : decode cX7_road 105 = .ok (.iastore, 1) := by decide +kernel
theorem dX7_road_106 : decode cX7_road 106 = .ok (.aload_n 0, 1) := by decide +kernel
theorem dX7_road_107 : decode cX7_road 107 = .ok (.getfield 19, 3) := by decide +kernel
theorem dX7_road_110 : decode cX7_road 110 = .ok (.aload_n 0, 1) := by decide +kernel
theorem dX7_road_111 : decode cX7_road 111 = .ok (.getfield 117, 3) := by decide +kernel
theorem dX7_road_114 : decode cX7_road 114 = .ok (.iload 4, 2) := by decide +kernel
theorem dX7_road_116 : decode cX7_road 116 = .ok (.iastore, 1) := by decide +kernel
theorem dX7_road_117 : decode cX7_road 117 = .ok (.aload_n 0, 1) := by decide +kernel
theorem dX7_road_118 : decode cX7_road 118 = .ok (.dup, 1) := by decide +kernel
theorem dX7_road_119 : decode cX7_road 119 = .ok (.getfield 117, 3) := by decide +kernel
theorem dX7_road_122 : decode cX7_road 122 = .ok (.iconst 1, 1) := by decide +kernel
theorem dX7_road_123 : decode cX7_road 123 = .ok (.iadd, 1) := by decide +kernel
theorem dX7_road_124 : decode cX7_road 124 = .ok (.putfield 117, 3) := by decide +kernel
theorem dX7_road_127 : decode cX7_road 127 = .ok (.aload_n 0, 1) := by decide +kernel
theorem dX7_road_128 : decode cX7_road 128 = .ok (.invokevirtual 124, 3) := by decide +kernel
theorem dX7_road_131 : decode cX7_road 131 = .ok (.aload_n 0, 1) := by decide +kernel
theorem dX7_road_132 : decode cX7_road 132 = .ok (.getfield 117, 3) := by decide +kernel
theorem dX7_road_135 : decode cX7_road 135 = .ok (.iconst 1, 1) := by decide +kernel
theorem dX7_road_136 : decode cX7_road 136 = .ok (.isub, 1) := by decide +kernel
theorem dX7_road_137 : decode cX7_road 137 = .ok (.ireturn, 1) := by decide +kernel
theorem dX7_rate_0 : decode cX7_rate 0 = .ok (.aload_n 0, 1) := by decide +kernel
theorem dX7_rate_1 : decode cX7_rate 1 = .ok (.iload_n 1, 1) := by decide +kernel
theorem dX7_rate_2 : decode cX7_rate 2 = .ok (.iconst 0, 1) := by decide +kernel
theorem dX7_rate_3 : decode cX7_rate 3 = .ok (.iconst 2, 1) := by decide +kernel
theorem dX7_rate_4 : decode cX7_rate 4 = .ok (.invokestatic 109, 3) := by decide +kernel
theorem dX7_rate_7 : decode cX7_rate 7 = .ok (.ifCond .eq 28, 3) := by decide +kernel
theorem dX7_rate_10 : decode cX7_rate 10 = .ok (.iload_n 2, 1) := by decide +kernel
theorem dX7_rate_11 : decode cX7_rate 11 = .ok (.iconst 0, 1) := by decide +kernel
theorem dX7_rate_12 : decode cX7_rate 12 = .ok (.bipush 100, 2) := by decide +kernel
theorem dX7_rate_14 : decode cX7_rate 14 = .ok (.invokestatic 109, 3) := by decide +kernel
theorem dX7_rate_17 : decode cX7_rate 17 = .ok (.ifCond .eq 18, 3) := by decide +kernel
theorem dX7_rate_20 : decode cX7_rate 20 = .ok (.iload_n 3, 1) := by decide +kernel
theorem dX7_rate_21 : decode cX7_rate 21 = .ok (.iconst 0, 1) := by decide +kernel
theorem dX7_rate_22 : decode cX7_rate 22 = .ok (.sipush 300, 3) := by decide +kernel
theorem dX7_rate_25 : decode cX7_rate 25 = .ok (.invokestatic 109, 3) := by decide +kernel
theorem dX7_rate_28 : decode cX7_rate 28 = .ok (.ifCond .eq 7, 3) := by decide +kernel
theorem dX7_rate_31 : decode cX7_rate 31 = .ok (.iconst 0, 1) := by decide +kernel
theorem dX7_rate_32 : decode cX7_rate 32 = .ok (.goto 4, 3) := by decide +kernel
theorem dX7_rate_35 : decode cX7_rate 35 = .ok (.iconst 1, 1) := by decide +kernel
theorem dX7_rate_36 : decode cX7_rate 36 = .ok (.putfield 103, 3) := by decide +kernel
theorem dX7_rate_39 : decode cX7_rate 39 = .ok (.aload_n 0, 1) := by decide +kernel
theorem dX7_rate_40 : decode cX7_rate 40 = .ok (.getfield 103, 3) := by decide +kernel
theorem dX7_rate_43 : decode cX7_rate 43 = .ok (.ifCond .ne 17, 3) := by decide +kernel
theorem dX7_rate_46 : decode cX7_rate 46 = .ok (.aload_n 0, 1) := by decide +kernel
theorem dX7_rate_47 : decode cX7_rate 47 = .ok (.getfield 25, 3) := by decide +kernel
theorem dX7_rate_50 : decode cX7_rate 50 = .ok (.iload_n 1, 1) := by decide +kernel
theorem dX7_rate_51 : decode cX7_rate 51 = .ok (.iload_n 2, 1) := by decide +kernel
theorem dX7_rate_52 : decode cX7_rate 52 = .ok (.iastore, 1) := by decide +kernel
theorem dX7_rate_53 : decode cX7_rate 53 = .ok (.aload_n 0, 1) := by decide +kernel
theorem dX7_rate_54 : decode cX7_rate 54 = .ok (.getfield 28, 3) := by decide +kernel
theorem dX7_rate_57 : decode cX7_rate 57 = .ok (.iload_n 1, 1) := by decide +kernel
theorem dX7_rate_58 : decode cX7_rate 58 = .ok (.iload_n 3, 1) := by decide +kernel
theorem dX7_rate_59 : decode cX7_rate 59 = .ok (.iastore, 1) := by decide +kernel
theorem dX7_rate_60 : decode cX7_rate 60 = .ok (.return_, 1) := by decide +kernel
theorem dX7_most_0 : decode cX7_most 0 = .ok (.aload_n 0, 1) := by decide +kernel
theorem dX7_most_1 : decode cX7_most 1 = .ok (.iload_n 1, 1) := by decide +kernel
theorem dX7_most_2 : decode cX7_most 2 = .ok (.iconst 0, 1) := by decide +kernel
theorem dX7_most_3 : decode cX7_most 3 = .ok (.ldc 131, 2) := by decide +kernel
theorem dX7_most_5 : decode cX7_most 5 = .ok (.invokestatic 109, 3) := by decide +kernel
theorem dX7_most_8 : decode cX7_most 8 = .ok (.ifCond .eq 7, 3) := by decide +kernel
theorem dX7_most_11 : decode cX7_most 11 = .ok (.iconst 0, 1) := by decide +kernel
theorem dX7_most_12 : decode cX7_most 12 = .ok (.goto 4, 3) := by decide +kernel
theorem dX7_most_15 : decode cX7_most 15 = .ok (.iconst 1, 1) := by decide +kernel
theorem dX7_most_16 : decode cX7_most 16 = .ok (.putfield 103, 3) := by decide +kernel
theorem dX7_most_19 : decode cX7_most 19 = .ok (.aload_n 0, 1) := by decide +kernel
theorem dX7_most_20 : decode cX7_most 20 = .ok (.getfield 103, 3) := by decide +kernel
theorem dX7_most_23 : decode cX7_most 23 = .ok (.ifCond .le 5, 3) := by decide +kernel
theorem dX7_most_26 : decode cX7_most 26 = .ok (.iconst 0, 1) := by decide +kernel
theorem dX7_most_27 : decode cX7_most 27 = .ok (.ireturn, 1) := by decide +kernel
theorem dX7_most_28 : decode cX7_most 28 = .ok (.aload_n 0, 1) := by decide +kernel
theorem dX7_most_29 : decode cX7_most 29 = .ok (.getfield 31, 3) := by decide +kernel
theorem dX7_most_32 : decode cX7_most 32 = .ok (.istore_n 2, 1) := by decide +kernel
theorem dX7_most_33 : decode cX7_most 33 = .ok (.aload_n 0, 1) := by decide +kernel
theorem dX7_most_34 : decode cX7_most 34 = .ok (.iload_n 1, 1) := by decide +kernel
theorem dX7_most_35 : decode cX7_most 35 = .ok (.putfield 31, 3) := by decide +kernel
theorem dX7_most_38 : decode cX7_most 38 = .ok (.iload_n 2, 1) := by decide +kernel
theorem dX7_most_39 : decode cX7_most 39 = .ok (.ireturn, 1) := by decide +kernel
theorem dX7_plate_0 : decode cX7_plate 0 = .ok (.aload_n 0, 1) := by decide +kernel
theorem dX7_plate_1 : decode cX7_plate 1 = .ok (.iload_n 1, 1) := by decide +kernel
theorem dX7_plate_2 : decode cX7_plate 2 = .ok (.invokestatic 132, 3) := by decide +kernel
theorem dX7_plate_5 : decode cX7_plate 5 = .ok (.ifCond .ne 7, 3) := by decide +kernel
theorem dX7_plate_8 : decode cX7_plate 8 = .ok (.iconst 1, 1) := by decide +kernel
theorem dX7_plate_9 : decode cX7_plate 9 = .ok (.goto 29, 3) := by decide +kernel
theorem dX7_plate_12 : decode cX7_plate 12 = .ok (.iload_n 2, 1) := by decide +kernel
theorem dX7_plate_13 : decode cX7_plate 13 = .ok (.iconst 0, 1) := by decide +kernel
theorem dX7_plate_14 : decode cX7_plate 14 = .ok (.iconst 2, 1) := by decide +kernel
theorem dX7_plate_15 : decode cX7_plate 15 = .ok (.invokestatic 109, 3) := by decide +kernel
theorem dX7_plate_18 : decode cX7_plate 18 = .ok (.ifCond .eq 19, 3) := by decide +kernel
theorem dX7_plate_21 : decode cX7_plate 21 = .ok (.iload_n 3, 1) := by decide +kernel
theorem dX7_plate_22 : decode cX7_plate 22 = .ok (.iconst (-1), 1) := by decide +kernel
theorem dX7_plate_23 : decode cX7_plate 23 = .ok (.if_icmp .eq 10, 3) := by decide +kernel
theorem dX7_plate_26 : decode cX7_plate 26 = .ok (.iload_n 3, 1) := by decide +kernel
theorem dX7_plate_27 : decode cX7_plate 27 = .ok (.invokestatic 135, 3) := by decide +kernel
theorem dX7_plate_30 : decode cX7_plate 30 = .ok (.ifCond .eq 7, 3) := by decide +kernel
theorem dX7_plate_33 : decode cX7_plate 33 = .ok (.iconst 0, 1) := by decide +kernel
theorem dX7_plate_34 : decode cX7_plate 34 = .ok (.goto 4, 3) := by decide +kernel
theorem dX7_plate_37 : decode cX7_plate 37 = .ok (.iconst 2, 1) := by decide +kernel
theorem dX7_plate_38 : decode cX7_plate 38 = .ok (.putfield 103, 3) := by decide +kernel
theorem dX7_plate_41 : decode cX7_plate 41 = .ok (.aload_n 0, 1) := by decide +kernel
theorem dX7_plate_42 : decode cX7_plate 42 = .ok (.getfield 103, 3) := by decide +kernel
theorem dX7_plate_45 : decode cX7_plate 45 = .ok (.ifCond .ne 17, 3) := by decide +kernel
theorem dX7_plate_48 : decode cX7_plate 48 = .ok (.aload_n 0, 1) := by decide +kernel
theorem dX7_plate_49 : decode cX7_plate 49 = .ok (.getfield 35, 3) := by decide +kernel
theorem dX7_plate_52 : decode cX7_plate 52 = .ok (.iload_n 1, 1) := by decide +kernel
theorem dX7_plate_53 : decode cX7_plate 53 = .ok (.iload_n 2, 1) := by decide +kernel
theorem dX7_plate_54 : decode cX7_plate 54 = .ok (.iastore, 1) := by decide +kernel
theorem dX7_plate_55 : decode cX7_plate 55 = .ok (.aload_n 0, 1) := by decide +kernel
theorem dX7_plate_56 : decode cX7_plate 56 = .ok (.getfield 38, 3) := by decide +kernel
theorem dX7_plate_59 : decode cX7_plate 59 = .ok (.iload_n 1, 1) := by decide +kernel
theorem dX7_plate_60 : decode cX7_plate 60 = .ok (.iload_n 3, 1) := by decide +kernel
theorem dX7_plate_61 : decode cX7_plate 61 = .ok (.iastore, 1) := by decide +kernel
theorem dX7_plate_62 : decode cX7_plate 62 = .ok (.return_, 1) := by decide +kernel
theorem dX7_top_0 : decode cX7_top 0 = .ok (.aload_n 0, 1) := by decide +kernel
theorem dX7_top_1 : decode cX7_top 1 = .ok (.iload_n 1, 1) := by decide +kernel
theorem dX7_top_2 : decode cX7_top 2 = .ok (.invokestatic 135, 3) := by decide +kernel
theorem dX7_top_5 : decode cX7_top 5 = .ok (.ifCond .ne 7, 3) := by decide +kernel
theorem dX7_top_8 : decode cX7_top 8 = .ok (.iconst 1, 1) := by decide +kernel
theorem dX7_top_9 : decode cX7_top 9 = .ok (.goto 18, 3) := by decide +kernel
theorem dX7_top_12 : decode cX7_top 12 = .ok (.iload_n 2, 1) := by decide +kernel
theorem dX7_top_13 : decode cX7_top 13 = .ok (.iconst 1, 1) := by decide +kernel
theorem dX7_top_14 : decode cX7_top 14 = .ok (.ldc 131, 2) := by decide +kernel
theorem dX7_top_16 : decode cX7_top 16 = .ok (.invokestatic 109, 3) := by decide +kernel
theorem dX7_top_19 : decode cX7_top 19 = .ok (.ifCond .eq 7, 3) := by decide +kernel
theorem dX7_top_22 : decode cX7_top 22 = .ok (.iconst 0, 1) := by decide +kernel
theorem dX7_top_23 : decode cX7_top 23 = .ok (.goto 4, 3) := by decide +kernel
theorem dX7_top_26 : decode cX7_top 26 = .ok (.iconst 2, 1) := by decide +kernel
theorem dX7_top_27 : decode cX7_top 27 = .ok (.putfield 103, 3) := by decide +kernel
theorem dX7_top_30 : decode cX7_top 30 = .ok (.aload_n 0, 1) := by decide +kernel
theorem dX7_top_31 : decode cX7_top 31 = .ok (.getfield 103, 3) := by decide +kernel
theorem dX7_top_34 : decode cX7_top 34 = .ok (.ifCond .le 5, 3) := by decide +kernel
theorem dX7_top_37 : decode cX7_top 37 = .ok (.lconst 0, 1) := by decide +kernel
theorem dX7_top_38 : decode cX7_top 38 = .ok (.lreturn, 1) := by decide +kernel
theorem dX7_top_39 : decode cX7_top 39 = .ok (.aload_n 0, 1) := by decide +kernel
theorem dX7_top_40 : decode cX7_top 40 = .ok (.getfield 48, 3) := by decide +kernel
theorem dX7_top_43 : decode cX7_top 43 = .ok (.iload_n 1, 1) := by decide +kernel
theorem dX7_top_44 : decode cX7_top 44 = .ok (.dup2, 1) := by decide +kernel
theorem dX7_top_45 : decode cX7_top 45 = .ok (.laload, 1) := by decide +kernel
theorem dX7_top_46 : decode cX7_top 46 = .ok (.iload_n 2, 1) := by decide +kernel
theorem dX7_top_47 : decode cX7_top 47 = .ok (.i2l, 1) := by decide +kernel
theorem dX7_top_48 : decode cX7_top 48 = .ok (.ladd, 1) := by decide +kernel
theorem dX7_top_49 : decode cX7_top 49 = .ok (.lastore, 1) := by decide +kernel
theorem dX7_top_50 : decode cX7_top 50 = .ok (.aload_n 0, 1) := by decide +kernel
theorem dX7_top_51 : decode cX7_top 51 = .ok (.getfield 48, 3) := by decide +kernel
theorem dX7_top_54 : decode cX7_top 54 = .ok (.iload_n 1, 1) := by decide +kernel
theorem dX7_top_55 : decode cX7_top 55 = .ok (.laload, 1) := by decide +kernel
theorem dX7_top_56 : decode cX7_top 56 = .ok (.lreturn, 1) := by decide +kernel
theorem dX7_exempt_0 : decode cX7_exempt 0 = .ok (.aload_n 0, 1) := by decide +kernel
theorem dX7_exempt_1 : decode cX7_exempt 1 = .ok (.iload_n 1, 1) := by decide +kernel
theorem dX7_exempt_2 : decode cX7_exempt 2 = .ok (.invokestatic 132, 3) := by decide +kernel
theorem dX7_exempt_5 : decode cX7_exempt 5 = .ok (.ifCond .ne 7, 3) := by decide +kernel
theorem dX7_exempt_8 : decode cX7_exempt 8 = .ok (.iconst 1, 1) := by decide +kernel
theorem dX7_exempt_9 : decode cX7_exempt 9 = .ok (.goto 41, 3) := by decide +kernel
theorem dX7_exempt_12 : decode cX7_exempt 12 = .ok (.iload_n 2, 1) := by decide +kernel
theorem dX7_exempt_13 : decode cX7_exempt 13 = .ok (.iconst 0, 1) := by decide +kernel
theorem dX7_exempt_14 : decode cX7_exempt 14 = .ok (.ldc 131, 2) := by decide +kernel
theorem dX7_exempt_16 : decode cX7_exempt 16 = .ok (.invokestatic 109, 3) := by decide +kernel
theorem dX7_exempt_19 : decode cX7_exempt 19 = .ok (.ifCond .eq 13, 3) := by decide +kernel
theorem dX7_exempt_22 : decode cX7_exempt 22 = .ok (.iload_n 3, 1) := by decide +kernel
theorem dX7_exempt_23 : decode cX7_exempt 23 = .ok (.iload_n 2, 1) := by decide +kernel
theorem dX7_exempt_24 : decode cX7_exempt 24 = .ok (.ldc 131, 2) := by decide +kernel
theorem dX7_exempt_26 : decode cX7_exempt 26 = .ok (.invokestatic 109, 3) := by decide +kernel
theorem dX7_exempt_29 : decode cX7_exempt 29 = .ok (.ifCond .ne 7, 3) := by decide +kernel
theorem dX7_exempt_32 : decode cX7_exempt 32 = .ok (.iconst 2, 1) := by decide +kernel
theorem dX7_exempt_33 : decode cX7_exempt 33 = .ok (.goto 17, 3) := by decide +kernel
theorem dX7_exempt_36 : decode cX7_exempt 36 = .ok (.aload_n 0, 1) := by decide +kernel
theorem dX7_exempt_37 : decode cX7_exempt 37 = .ok (.getfield 138, 3) := by decide +kernel
theorem dX7_exempt_40 : decode cX7_exempt 40 = .ok (.bipush 20, 2) := by decide +kernel
theorem dX7_exempt_42 : decode cX7_exempt 42 = .ok (.if_icmp .ne 7, 3) := by decide +kernel
theorem dX7_exempt_45 : decode cX7_exempt 45 = .ok (.iconst 3, 1) := by decide +kernel
theorem dX7_exempt_46 : decode cX7_exempt 46 = .ok (.goto 4, 3) := by decide +kernel
theorem dX7_exempt_49 : decode cX7_exempt 49 = .ok (.iconst 0, 1) := by decide +kernel
theorem dX7_exempt_50 : decode cX7_exempt 50 = .ok (.putfield 103, 3) := by decide +kernel
theorem dX7_exempt_53 : decode cX7_exempt 53 = .ok (.aload_n 0, 1) := by decide +kernel
theorem dX7_exempt_54 : decode cX7_exempt 54 = .ok (.getfield 103, 3) := by decide +kernel
theorem dX7_exempt_57 : decode cX7_exempt 57 = .ok (.ifCond .le 5, 3) := by decide +kernel
theorem dX7_exempt_60 : decode cX7_exempt 60 = .ok (.iconst 0, 1) := by decide +kernel
theorem dX7_exempt_61 : decode cX7_exempt 61 = .ok (.ireturn, 1) := by decide +kernel
theorem dX7_exempt_62 : decode cX7_exempt 62 = .ok (.aload_n 0, 1) := by decide +kernel
theorem dX7_exempt_63 : decode cX7_exempt 63 = .ok (.getfield 54, 3) := by decide +kernel
theorem dX7_exempt_66 : decode cX7_exempt 66 = .ok (.aload_n 0, 1) := by decide +kernel
theorem dX7_exempt_67 : decode cX7_exempt 67 = .ok (.getfield 138, 3) := by decide +kernel
theorem dX7_exempt_70 : decode cX7_exempt 70 = .ok (.iload_n 1, 1) := by decide +kernel
theorem dX7_exempt_71 : decode cX7_exempt 71 = .ok (.iastore, 1) := by decide +kernel
theorem dX7_exempt_72 : decode cX7_exempt 72 = .ok (.aload_n 0, 1) := by decide +kernel
theorem dX7_exempt_73 : decode cX7_exempt 73 = .ok (.getfield 57, 3) := by decide +kernel
theorem dX7_exempt_76 : decode cX7_exempt 76 = .ok (.aload_n 0, 1) := by decide +kernel
theorem dX7_exempt_77 : decode cX7_exempt 77 = .ok (.getfield 138, 3) := by decide +kernel
theorem dX7_exempt_80 : decode cX7_exempt 80 = .ok (.iload_n 2, 1) := by decide +kernel
theorem dX7_exempt_81 : decode cX7_exempt 81 = .ok (.iastore, 1) := by decide +kernel
theorem dX7_exempt_82 : decode cX7_exempt 82 = .ok (.aload_n 0, 1) := by decide +kernel
theorem dX7_exempt_83 : decode cX7_exempt 83 = .ok (.getfield 60, 3) := by decide +kernel
theorem dX7_exempt_86 : decode cX7_exempt 86 = .ok (.aload_n 0, 1) := by decide +kernel
theorem dX7_exempt_87 : decode cX7_exempt 87 = .ok (.getfield 138, 3) := by decide +kernel
theorem dX7_exempt_90 : decode cX7_exempt 90 = .ok (.iload_n 3, 1) := by decide +kernel
theorem dX7_exempt_91 : decode cX7_exempt 91 = .ok (.iastore, 1) := by decide +kernel
theorem dX7_exempt_92 : decode cX7_exempt 92 = .ok (.aload_n 0, 1) := by decide +kernel
theorem dX7_exempt_93 : decode cX7_exempt 93 = .ok (.dup, 1) := by decide +kernel
theorem dX7_exempt_94 : decode cX7_exempt 94 = .ok (.getfield 138, 3) := by decide +kernel
theorem dX7_exempt_97 : decode cX7_exempt 97 = .ok (.iconst 1, 1) := by decide +kernel
theorem dX7_exempt_98 : decode cX7_exempt 98 = .ok (.iadd, 1) := by decide +kernel
theorem dX7_exempt_99 : decode cX7_exempt 99 = .ok (.putfield 138, 3) := by decide +kernel
theorem dX7_exempt_102 : decode cX7_exempt 102 = .ok (.aload_n 0, 1) := by decide +kernel
theorem dX7_exempt_103 : decode cX7_exempt 103 = .ok (.getfield 138, 3) := by decide +kernel
theorem dX7_exempt_106 : decode cX7_exempt 106 = .ok (.ireturn, 1) := by decide +kernel
theorem dX7_isExempt_0 : decode cX7_isExempt 0 = .ok (.iconst 0, 1) := by decide +kernel
theorem dX7_isExempt_1 : decode cX7_isExempt 1 = .ok (.istore_n 3, 1) := by decide +kernel
theorem dX7_isExempt_2 : decode cX7_isExempt 2 = .ok (.iconst 0, 1) := by decide +kernel
theorem dX7_isExempt_3 : decode cX7_isExempt 3 = .ok (.istore 4, 2) := by decide +kernel
theorem dX7_isExempt_5 : decode cX7_isExempt 5 = .ok (.iload 4, 2) := by decide +kernel
theorem dX7_isExempt_7 : decode cX7_isExempt 7 = .ok (.aload_n 0, 1) := by decide +kernel
theorem dX7_isExempt_8 : decode cX7_isExempt 8 = .ok (.getfield 138, 3) := by decide +kernel
theorem dX7_isExempt_11 : decode cX7_isExempt 11 = .ok (.if_icmp .ge 51, 3) := by decide +kernel
theorem dX7_isExempt_14 : decode cX7_isExempt 14 = .ok (.iload_n 3, 1) := by decide +kernel
theorem dX7_isExempt_15 : decode cX7_isExempt 15 = .ok (.ifCond .ne 35, 3) := by decide +kernel
theorem dX7_isExempt_18 : decode cX7_isExempt 18 = .ok (.aload_n 0, 1) := by decide +kernel
theorem dX7_isExempt_19 : decode cX7_isExempt 19 = .ok (.getfield 54, 3) := by decide +kernel
theorem dX7_isExempt_22 : decode cX7_isExempt 22 = .ok (.iload 4, 2) := by decide +kernel
theorem dX7_isExempt_24 : decode cX7_isExempt 24 = .ok (.iaload, 1) := by decide +kernel
theorem dX7_isExempt_25 : decode cX7_isExempt 25 = .ok (.iload_n 1, 1) := by decide +kernel
theorem dX7_isExempt_26 : decode cX7_isExempt 26 = .ok (.if_icmp .ne 28, 3) := by decide +kernel
theorem dX7_isExempt_29 : decode cX7_isExempt 29 = .ok (.iload_n 2, 1) := by decide +kernel
theorem dX7_isExempt_30 : decode cX7_isExempt 30 = .ok (.aload_n 0, 1) := by decide +kernel
theorem dX7_isExempt_31 : decode cX7_isExempt 31 = .ok (.getfield 57, 3) := by decide +kernel
theorem dX7_isExempt_34 : decode cX7_isExempt 34 = .ok (.iload 4, 2) := by decide +kernel
theorem dX7_isExempt_36 : decode cX7_isExempt 36 = .ok (.iaload, 1) := by decide +kernel
theorem dX7_isExempt_37 : decode cX7_isExempt 37 = .ok (.aload_n 0, 1) := by decide +kernel
theorem dX7_isExempt_38 : decode cX7_isExempt 38 = .ok (.getfield 60, 3) := by decide +kernel
theorem dX7_isExempt_41 : decode cX7_isExempt 41 = .ok (.iload 4, 2) := by decide +kernel
theorem dX7_isExempt_43 : decode cX7_isExempt 43 = .ok (.iaload, 1) := by decide +kernel
theorem dX7_isExempt_44 : decode cX7_isExempt 44 = .ok (.invokestatic 109, 3) := by decide +kernel
theorem dX7_isExempt_47 : decode cX7_isExempt 47 = .ok (.ifCond .eq 7, 3) := by decide +kernel
theorem dX7_isExempt_50 : decode cX7_isExempt 50 = .ok (.iconst 1, 1) := by decide +kernel
theorem dX7_isExempt_51 : decode cX7_isExempt 51 = .ok (.goto 4, 3) := by decide +kernel
theorem dX7_isExempt_54 : decode cX7_isExempt 54 = .ok (.iconst 0, 1) := by decide +kernel
theorem dX7_isExempt_55 : decode cX7_isExempt 55 = .ok (.istore_n 3, 1) := by decide +kernel
theorem dX7_isExempt_56 : decode cX7_isExempt 56 = .ok (.iinc 4 1, 3) := by decide +kernel
theorem dX7_isExempt_59 : decode cX7_isExempt 59 = .ok (.goto (-54), 3) := by decide +kernel
theorem dX7_isExempt_62 : decode cX7_isExempt 62 = .ok (.iload_n 3, 1) := by decide +kernel
theorem dX7_isExempt_63 : decode cX7_isExempt 63 = .ok (.ireturn, 1) := by decide +kernel
theorem dX7_read_0 : decode cX7_read 0 = .ok (.aload_n 0, 1) := by decide +kernel
theorem dX7_read_1 : decode cX7_read 1 = .ok (.aload_n 0, 1) := by decide +kernel
theorem dX7_read_2 : decode cX7_read 2 = .ok (.iload_n 1, 1) := by decide +kernel
theorem dX7_read_3 : decode cX7_read 3 = .ok (.invokevirtual 127, 3) := by decide +kernel
theorem dX7_read_6 : decode cX7_read 6 = .ok (.ifCond .eq 10, 3) := by decide +kernel
theorem dX7_read_9 : decode cX7_read 9 = .ok (.iload_n 2, 1) := by decide +kernel
theorem dX7_read_10 : decode cX7_read 10 = .ok (.invokestatic 132, 3) := by decide +kernel
theorem dX7_read_13 : decode cX7_read 13 = .ok (.ifCond .ne 7, 3) := by decide +kernel
theorem dX7_read_16 : decode cX7_read 16 = .ok (.iconst 1, 1) := by decide +kernel
theorem dX7_read_17 : decode cX7_read 17 = .ok (.goto 33, 3) := by decide +kernel
theorem dX7_read_20 : decode cX7_read 20 = .ok (.iload_n 3, 1) := by decide +kernel
theorem dX7_read_21 : decode cX7_read 21 = .ok (.iconst 0, 1) := by decide +kernel
theorem dX7_read_22 : decode cX7_read 22 = .ok (.aload_n 0, 1) := by decide +kernel
theorem dX7_read_23 : decode cX7_read 23 = .ok (.getfield 141, 3) := by decide +kernel
theorem dX7_read_26 : decode cX7_read 26 = .ok (.invokestatic 109, 3) := by decide +kernel
theorem dX7_read_29 : decode cX7_read 29 = .ok (.ifCond .ne 7, 3) := by decide +kernel
theorem dX7_read_32 : decode cX7_read 32 = .ok (.iconst 2, 1) := by decide +kernel
theorem dX7_read_33 : decode cX7_read 33 = .ok (.goto 17, 3) := by decide +kernel
theorem dX7_read_36 : decode cX7_read 36 = .ok (.aload_n 0, 1) := by decide +kernel
theorem dX7_read_37 : decode cX7_read 37 = .ok (.getfield 113, 3) := by decide +kernel
theorem dX7_read_40 : decode cX7_read 40 = .ok (.bipush 100, 2) := by decide +kernel
theorem dX7_read_42 : decode cX7_read 42 = .ok (.if_icmp .ne 7, 3) := by decide +kernel
theorem dX7_read_45 : decode cX7_read 45 = .ok (.iconst 3, 1) := by decide +kernel
theorem dX7_read_46 : decode cX7_read 46 = .ok (.goto 4, 3) := by decide +kernel
theorem dX7_read_49 : decode cX7_read 49 = .ok (.iconst 0, 1) := by decide +kernel
theorem dX7_read_50 : decode cX7_read 50 = .ok (.putfield 103, 3) := by decide +kernel
theorem dX7_read_53 : decode cX7_read 53 = .ok (.aload_n 0, 1) := by decide +kernel
theorem dX7_read_54 : decode cX7_read 54 = .ok (.getfield 103, 3) := by decide +kernel
theorem dX7_read_57 : decode cX7_read 57 = .ok (.ifCond .le 5, 3) := by decide +kernel
theorem dX7_read_60 : decode cX7_read 60 = .ok (.iconst 0, 1) := by decide +kernel
theorem dX7_read_61 : decode cX7_read 61 = .ok (.ireturn, 1) := by decide +kernel
theorem dX7_read_62 : decode cX7_read 62 = .ok (.aload_n 0, 1) := by decide +kernel
theorem dX7_read_63 : decode cX7_read 63 = .ok (.getfield 63, 3) := by decide +kernel
theorem dX7_read_66 : decode cX7_read 66 = .ok (.aload_n 0, 1) := by decide +kernel
theorem dX7_read_67 : decode cX7_read 67 = .ok (.getfield 113, 3) := by decide +kernel
theorem dX7_read_70 : decode cX7_read 70 = .ok (.iload_n 1, 1) := by decide +kernel
theorem dX7_read_71 : decode cX7_read 71 = .ok (.iastore, 1) := by decide +kernel
theorem dX7_read_72 : decode cX7_read 72 = .ok (.aload_n 0, 1) := by decide +kernel
theorem dX7_read_73 : decode cX7_read 73 = .ok (.getfield 66, 3) := by decide +kernel
theorem dX7_read_76 : decode cX7_read 76 = .ok (.aload_n 0, 1) := by decide +kernel
theorem dX7_read_77 : decode cX7_read 77 = .ok (.getfield 113, 3) := by decide +kernel
theorem dX7_read_80 : decode cX7_read 80 = .ok (.iload_n 2, 1) := by decide +kernel
theorem dX7_read_81 : decode cX7_read 81 = .ok (.iastore, 1) := by decide +kernel
theorem dX7_read_82 : decode cX7_read 82 = .ok (.aload_n 0, 1) := by decide +kernel
theorem dX7_read_83 : decode cX7_read 83 = .ok (.getfield 69, 3) := by decide +kernel
theorem dX7_read_86 : decode cX7_read 86 = .ok (.aload_n 0, 1) := by decide +kernel
theorem dX7_read_87 : decode cX7_read 87 = .ok (.getfield 113, 3) := by decide +kernel
theorem dX7_read_90 : decode cX7_read 90 = .ok (.iload_n 3, 1) := by decide +kernel
theorem dX7_read_91 : decode cX7_read 91 = .ok (.iastore, 1) := by decide +kernel
theorem dX7_read_92 : decode cX7_read 92 = .ok (.aload_n 0, 1) := by decide +kernel
theorem dX7_read_93 : decode cX7_read 93 = .ok (.getfield 72, 3) := by decide +kernel
theorem dX7_read_96 : decode cX7_read 96 = .ok (.aload_n 0, 1) := by decide +kernel
theorem dX7_read_97 : decode cX7_read 97 = .ok (.getfield 113, 3) := by decide +kernel
theorem dX7_read_100 : decode cX7_read 100 = .ok (.iconst 0, 1) := by decide +kernel
theorem dX7_read_101 : decode cX7_read 101 = .ok (.bastore, 1) := by decide +kernel
theorem dX7_read_102 : decode cX7_read 102 = .ok (.aload_n 0, 1) := by decide +kernel
theorem dX7_read_103 : decode cX7_read 103 = .ok (.dup, 1) := by decide +kernel
theorem dX7_read_104 : decode cX7_read 104 = .ok (.getfield 113, 3) := by decide +kernel
theorem dX7_read_107 : decode cX7_read 107 = .ok (.iconst 1, 1) := by decide +kernel
theorem dX7_read_108 : decode cX7_read 108 = .ok (.iadd, 1) := by decide +kernel
theorem dX7_read_109 : decode cX7_read 109 = .ok (.putfield 113, 3) := by decide +kernel
theorem dX7_read_112 : decode cX7_read 112 = .ok (.aload_n 0, 1) := by decide +kernel
theorem dX7_read_113 : decode cX7_read 113 = .ok (.getfield 113, 3) := by decide +kernel
theorem dX7_read_116 : decode cX7_read 116 = .ok (.iconst 1, 1) := by decide +kernel
theorem dX7_read_117 : decode cX7_read 117 = .ok (.isub, 1) := by decide +kernel
theorem dX7_read_118 : decode cX7_read 118 = .ok (.ireturn, 1) := by decide +kernel
theorem dX7_strike_0 : decode cX7_strike 0 = .ok (.aload_n 0, 1) := by decide +kernel
theorem dX7_strike_1 : decode cX7_strike 1 = .ok (.aload_n 0, 1) := by decide +kernel
theorem dX7_strike_2 : decode cX7_strike 2 = .ok (.iload_n 1, 1) := by decide +kernel
theorem dX7_strike_3 : decode cX7_strike 3 = .ok (.invokevirtual 144, 3) := by decide +kernel
theorem dX7_strike_6 : decode cX7_strike 6 = .ok (.ifCond .ne 7, 3) := by decide +kernel
theorem dX7_strike_9 : decode cX7_strike 9 = .ok (.iconst 1, 1) := by decide +kernel
theorem dX7_strike_10 : decode cX7_strike 10 = .ok (.goto 17, 3) := by decide +kernel
theorem dX7_strike_13 : decode cX7_strike 13 = .ok (.aload_n 0, 1) := by decide +kernel
theorem dX7_strike_14 : decode cX7_strike 14 = .ok (.getfield 72, 3) := by decide +kernel
theorem dX7_strike_17 : decode cX7_strike 17 = .ok (.iload_n 1, 1) := by decide +kernel
theorem dX7_strike_18 : decode cX7_strike 18 = .ok (.baload, 1) := by decide +kernel
theorem dX7_strike_19 : decode cX7_strike 19 = .ok (.ifCond .eq 7, 3) := by decide +kernel
theorem dX7_strike_22 : decode cX7_strike 22 = .ok (.iconst 2, 1) := by decide +kernel
theorem dX7_strike_23 : decode cX7_strike 23 = .ok (.goto 4, 3) := by decide +kernel
theorem dX7_strike_26 : decode cX7_strike 26 = .ok (.iconst 0, 1) := by decide +kernel
theorem dX7_strike_27 : decode cX7_strike 27 = .ok (.putfield 103, 3) := by decide +kernel
theorem dX7_strike_30 : decode cX7_strike 30 = .ok (.aload_n 0, 1) := by decide +kernel
theorem dX7_strike_31 : decode cX7_strike 31 = .ok (.getfield 103, 3) := by decide +kernel
theorem dX7_strike_34 : decode cX7_strike 34 = .ok (.ifCond .ne 10, 3) := by decide +kernel
theorem dX7_strike_37 : decode cX7_strike 37 = .ok (.aload_n 0, 1) := by decide +kernel
theorem dX7_strike_38 : decode cX7_strike 38 = .ok (.getfield 72, 3) := by decide +kernel
theorem dX7_strike_41 : decode cX7_strike 41 = .ok (.iload_n 1, 1) := by decide +kernel
theorem dX7_strike_42 : decode cX7_strike 42 = .ok (.iconst 1, 1) := by decide +kernel
theorem dX7_strike_43 : decode cX7_strike 43 = .ok (.bastore, 1) := by decide +kernel
theorem dX7_strike_44 : decode cX7_strike 44 = .ok (.return_, 1) := by decide +kernel
theorem dX7_pass_0 : decode cX7_pass 0 = .ok (.aload_n 0, 1) := by decide +kernel
theorem dX7_pass_1 : decode cX7_pass 1 = .ok (.iload_n 1, 1) := by decide +kernel
theorem dX7_pass_2 : decode cX7_pass 2 = .ok (.iconst 1, 1) := by decide +kernel
theorem dX7_pass_3 : decode cX7_pass 3 = .ok (.sipush 1440, 3) := by decide +kernel
theorem dX7_pass_6 : decode cX7_pass 6 = .ok (.invokestatic 109, 3) := by decide +kernel
theorem dX7_pass_9 : decode cX7_pass 9 = .ok (.ifCond .ne 7, 3) := by decide +kernel
theorem dX7_pass_12 : decode cX7_pass 12 = .ok (.iconst 1, 1) := by decide +kernel
theorem dX7_pass_13 : decode cX7_pass 13 = .ok (.goto 19, 3) := by decide +kernel
theorem dX7_pass_16 : decode cX7_pass 16 = .ok (.aload_n 0, 1) := by decide +kernel
theorem dX7_pass_17 : decode cX7_pass 17 = .ok (.getfield 141, 3) := by decide +kernel
theorem dX7_pass_20 : decode cX7_pass 20 = .ok (.iload_n 1, 1) := by decide +kernel
theorem dX7_pass_21 : decode cX7_pass 21 = .ok (.iadd, 1) := by decide +kernel
theorem dX7_pass_22 : decode cX7_pass 22 = .ok (.ldc 131, 2) := by decide +kernel
theorem dX7_pass_24 : decode cX7_pass 24 = .ok (.if_icmp .le 7, 3) := by decide +kernel
theorem dX7_pass_27 : decode cX7_pass 27 = .ok (.iconst 2, 1) := by decide +kernel
theorem dX7_pass_28 : decode cX7_pass 28 = .ok (.goto 4, 3) := by decide +kernel
theorem dX7_pass_31 : decode cX7_pass 31 = .ok (.iconst 0, 1) := by decide +kernel
theorem dX7_pass_32 : decode cX7_pass 32 = .ok (.putfield 103, 3) := by decide +kernel
theorem dX7_pass_35 : decode cX7_pass 35 = .ok (.aload_n 0, 1) := by decide +kernel
theorem dX7_pass_36 : decode cX7_pass 36 = .ok (.getfield 103, 3) := by decide +kernel
theorem dX7_pass_39 : decode cX7_pass 39 = .ok (.ifCond .le 5, 3) := by decide +kernel
theorem dX7_pass_42 : decode cX7_pass 42 = .ok (.iconst 0, 1) := by decide +kernel
theorem dX7_pass_43 : decode cX7_pass 43 = .ok (.ireturn, 1) := by decide +kernel
theorem dX7_pass_44 : decode cX7_pass 44 = .ok (.aload_n 0, 1) := by decide +kernel
theorem dX7_pass_45 : decode cX7_pass 45 = .ok (.dup, 1) := by decide +kernel
theorem dX7_pass_46 : decode cX7_pass 46 = .ok (.getfield 141, 3) := by decide +kernel
theorem dX7_pass_49 : decode cX7_pass 49 = .ok (.iload_n 1, 1) := by decide +kernel
theorem dX7_pass_50 : decode cX7_pass 50 = .ok (.iadd, 1) := by decide +kernel
theorem dX7_pass_51 : decode cX7_pass 51 = .ok (.putfield 141, 3) := by decide +kernel
theorem dX7_pass_54 : decode cX7_pass 54 = .ok (.aload_n 0, 1) := by decide +kernel
theorem dX7_pass_55 : decode cX7_pass 55 = .ok (.getfield 141, 3) := by decide +kernel
theorem dX7_pass_58 : decode cX7_pass 58 = .ok (.ireturn, 1) := by decide +kernel
theorem dX7_nextReading_0 : decode cX7_nextReading 0 = .ok (.iconst (-1), 1) := by decide +kernel
theorem dX7_nextReading_1 : decode cX7_nextReading 1 = .ok (.istore_n 2, 1) := by decide +kernel
theorem dX7_nextReading_2 : decode cX7_nextReading 2 = .ok (.aload_n 0, 1) := by decide +kernel
theorem dX7_nextReading_3 : decode cX7_nextReading 3 = .ok (.getfield 113, 3) := by decide +kernel
theorem dX7_nextReading_6 : decode cX7_nextReading 6 = .ok (.iconst 1, 1) := by decide +kernel
theorem dX7_nextReading_7 : decode cX7_nextReading 7 = .ok (.isub, 1) := by decide +kernel
theorem dX7_nextReading_8 : decode cX7_nextReading 8 = .ok (.istore_n 3, 1) := by decide +kernel
theorem dX7_nextReading_9 : decode cX7_nextReading 9 = .ok (.iload_n 3, 1) := by decide +kernel
theorem dX7_nextReading_10 : decode cX7_nextReading 10 = .ok (.ifCond .lt 75, 3) := by decide +kernel
theorem dX7_nextReading_13 : decode cX7_nextReading 13 = .ok (.aload_n 0, 1) := by decide +kernel
theorem dX7_nextReading_14 : decode cX7_nextReading 14 = .ok (.getfield 66, 3) := by decide +kernel
theorem dX7_nextReading_17 : decode cX7_nextReading 17 = .ok (.iload_n 3, 1) := by decide +kernel
theorem dX7_nextReading_18 : decode cX7_nextReading 18 = .ok (.iaload, 1) := by decide +kernel
theorem dX7_nextReading_19 : decode cX7_nextReading 19 = .ok (.iload_n 1, 1) := by decide +kernel
theorem dX7_nextReading_20 : decode cX7_nextReading 20 = .ok (.if_icmp .ne 25, 3) := by decide +kernel
theorem dX7_nextReading_23 : decode cX7_nextReading 23 = .ok (.aload_n 0, 1) := by decide +kernel
theorem dX7_nextReading_24 : decode cX7_nextReading 24 = .ok (.getfield 72, 3) := by decide +kernel
theorem dX7_nextReading_27 : decode cX7_nextReading 27 = .ok (.iload_n 3, 1) := by decide +kernel
theorem dX7_nextReading_28 : decode cX7_nextReading 28 = .ok (.baload, 1) := by decide +kernel
theorem dX7_nextReading_29 : decode cX7_nextReading 29 = .ok (.ifCond .ne 16, 3) := by decide +kernel
theorem dX7_nextReading_32 : decode cX7_nextReading 32 = .ok (.aload_n 0, 1) := by decide +kernel
theorem dX7_nextReading_33 : decode cX7_nextReading 33 = .ok (.getfield 82, 3) := by decide +kernel
theorem dX7_nextReading_36 : decode cX7_nextReading 36 = .ok (.iload_n 3, 1) := by decide +kernel
theorem dX7_nextReading_37 : decode cX7_nextReading 37 = .ok (.baload, 1) := by decide +kernel
theorem dX7_nextReading_38 : decode cX7_nextReading 38 = .ok (.ifCond .ne 7, 3) := by decide +kernel
theorem dX7_nextReading_41 : decode cX7_nextReading 41 = .ok (.iconst 1, 1) := by decide +kernel
theorem dX7_nextReading_42 : decode cX7_nextReading 42 = .ok (.goto 4, 3) := by decide +kernel
theorem dX7_nextReading_45 : decode cX7_nextReading 45 = .ok (.iconst 0, 1) := by decide +kernel
theorem dX7_nextReading_46 : decode cX7_nextReading 46 = .ok (.istore 4, 2) := by decide +kernel
theorem dX7_nextReading_48 : decode cX7_nextReading 48 = .ok (.iload 4, 2) := by decide +kernel
theorem dX7_nextReading_50 : decode cX7_nextReading 50 = .ok (.ifCond .eq 27, 3) := by decide +kernel
theorem dX7_nextReading_53 : decode cX7_nextReading 53 = .ok (.iload_n 2, 1) := by decide +kernel
theorem dX7_nextReading_54 : decode cX7_nextReading 54 = .ok (.iconst (-1), 1) := by decide +kernel
theorem dX7_nextReading_55 : decode cX7_nextReading 55 = .ok (.if_icmp .eq 18, 3) := by decide +kernel
theorem dX7_nextReading_58 : decode cX7_nextReading 58 = .ok (.aload_n 0, 1) := by decide +kernel
theorem dX7_nextReading_59 : decode cX7_nextReading 59 = .ok (.getfield 69, 3) := by decide +kernel
theorem dX7_nextReading_62 : decode cX7_nextReading 62 = .ok (.iload_n 3, 1) := by decide +kernel
theorem dX7_nextReading_63 : decode cX7_nextReading 63 = .ok (.iaload, 1) := by decide +kernel
theorem dX7_nextReading_64 : decode cX7_nextReading 64 = .ok (.aload_n 0, 1) := by decide +kernel
theorem dX7_nextReading_65 : decode cX7_nextReading 65 = .ok (.getfield 69, 3) := by decide +kernel
theorem dX7_nextReading_68 : decode cX7_nextReading 68 = .ok (.iload_n 2, 1) := by decide +kernel
theorem dX7_nextReading_69 : decode cX7_nextReading 69 = .ok (.iaload, 1) := by decide +kernel
theorem dX7_nextReading_70 : decode cX7_nextReading 70 = .ok (.if_icmp .gt 7, 3) := by decide +kernel
theorem dX7_nextReading_73 : decode cX7_nextReading 73 = .ok (.iload_n 3, 1) := by decide +kernel
theorem dX7_nextReading_74 : decode cX7_nextReading 74 = .ok (.goto 4, 3) := by decide +kernel
theorem dX7_nextReading_77 : decode cX7_nextReading 77 = .ok (.iload_n 2, 1) := by decide +kernel
theorem dX7_nextReading_78 : decode cX7_nextReading 78 = .ok (.istore_n 2, 1) := by decide +kernel
theorem dX7_nextReading_79 : decode cX7_nextReading 79 = .ok (.iinc 3 (-1), 3) := by decide +kernel
theorem dX7_nextReading_82 : decode cX7_nextReading 82 = .ok (.goto (-73), 3) := by decide +kernel
theorem dX7_nextReading_85 : decode cX7_nextReading 85 = .ok (.iload_n 2, 1) := by decide +kernel
theorem dX7_nextReading_86 : decode cX7_nextReading 86 = .ok (.ireturn, 1) := by decide +kernel
theorem dX7_pays_0 : decode cX7_pays 0 = .ok (.aload_n 0, 1) := by decide +kernel
theorem dX7_pays_1 : decode cX7_pays 1 = .ok (.getfield 69, 3) := by decide +kernel
theorem dX7_pays_4 : decode cX7_pays 4 = .ok (.iload_n 3, 1) := by decide +kernel
theorem dX7_pays_5 : decode cX7_pays 5 = .ok (.iaload, 1) := by decide +kernel
theorem dX7_pays_6 : decode cX7_pays 6 = .ok (.bipush 60, 2) := by decide +kernel
theorem dX7_pays_8 : decode cX7_pays 8 = .ok (.idiv, 1) := by decide +kernel
theorem dX7_pays_9 : decode cX7_pays 9 = .ok (.bipush 24, 2) := by decide +kernel
theorem dX7_pays_11 : decode cX7_pays 11 = .ok (.irem, 1) := by decide +kernel
theorem dX7_pays_12 : decode cX7_pays 12 = .ok (.istore 5, 2) := by decide +kernel
theorem dX7_pays_14 : decode cX7_pays 14 = .ok (.iload 5, 2) := by decide +kernel
theorem dX7_pays_16 : decode cX7_pays 16 = .ok (.bipush 7, 2) := by decide +kernel
theorem dX7_pays_18 : decode cX7_pays 18 = .ok (.if_icmp .eq 24, 3) := by decide +kernel
theorem dX7_pays_21 : decode cX7_pays 21 = .ok (.iload 5, 2) := by decide +kernel
theorem dX7_pays_23 : decode cX7_pays 23 = .ok (.bipush 8, 2) := by decide +kernel
theorem dX7_pays_25 : decode cX7_pays 25 = .ok (.if_icmp .eq 17, 3) := by decide +kernel
theorem dX7_pays_28 : decode cX7_pays 28 = .ok (.iload 5, 2) := by decide +kernel
theorem dX7_pays_30 : decode cX7_pays 30 = .ok (.bipush 16, 2) := by decide +kernel
theorem dX7_pays_32 : decode cX7_pays 32 = .ok (.if_icmp .eq 10, 3) := by decide +kernel
theorem dX7_pays_35 : decode cX7_pays 35 = .ok (.iload 5, 2) := by decide +kernel
theorem dX7_pays_37 : decode cX7_pays 37 = .ok (.bipush 17, 2) := by decide +kernel
theorem dX7_pays_39 : decode cX7_pays 39 = .ok (.if_icmp .ne 7, 3) := by decide +kernel
theorem dX7_pays_42 : decode cX7_pays 42 = .ok (.iconst 1, 1) := by decide +kernel
theorem dX7_pays_43 : decode cX7_pays 43 = .ok (.goto 4, 3) := by decide +kernel
theorem dX7_pays_46 : decode cX7_pays 46 = .ok (.iconst 0, 1) := by decide +kernel
theorem dX7_pays_47 : decode cX7_pays 47 = .ok (.istore 6, 2) := by decide +kernel
theorem dX7_pays_49 : decode cX7_pays 49 = .ok (.iload 6, 2) := by decide +kernel
theorem dX7_pays_51 : decode cX7_pays 51 = .ok (.ifCond .eq 17, 3) := by decide +kernel
theorem dX7_pays_54 : decode cX7_pays 54 = .ok (.aload_n 0, 1) := by decide +kernel
theorem dX7_pays_55 : decode cX7_pays 55 = .ok (.getfield 28, 3) := by decide +kernel
theorem dX7_pays_58 : decode cX7_pays 58 = .ok (.aload_n 0, 1) := by decide +kernel
theorem dX7_pays_59 : decode cX7_pays 59 = .ok (.getfield 35, 3) := by decide +kernel
theorem dX7_pays_62 : decode cX7_pays 62 = .ok (.iload_n 2, 1) := by decide +kernel
theorem dX7_pays_63 : decode cX7_pays 63 = .ok (.iaload, 1) := by decide +kernel
theorem dX7_pays_64 : decode cX7_pays 64 = .ok (.iaload, 1) := by decide +kernel
theorem dX7_pays_65 : decode cX7_pays 65 = .ok (.goto 5, 3) := by decide +kernel
theorem dX7_pays_68 : decode cX7_pays 68 = .ok (.bipush 100, 2) := by decide +kernel
theorem dX7_pays_70 : decode cX7_pays 70 = .ok (.istore 7, 2) := by decide +kernel
theorem dX7_pays_72 : decode cX7_pays 72 = .ok (.aload_n 0, 1) := by decide +kernel
theorem dX7_pays_73 : decode cX7_pays 73 = .ok (.getfield 63, 3) := by decide +kernel
theorem dX7_pays_76 : decode cX7_pays 76 = .ok (.iload_n 3, 1) := by decide +kernel
theorem dX7_pays_77 : decode cX7_pays 77 = .ok (.iaload, 1) := by decide +kernel
theorem dX7_pays_78 : decode cX7_pays 78 = .ok (.istore 8, 2) := by decide +kernel
theorem dX7_pays_80 : decode cX7_pays 80 = .ok (.aload_n 0, 1) := by decide +kernel
theorem dX7_pays_81 : decode cX7_pays 81 = .ok (.getfield 63, 3) := by decide +kernel
theorem dX7_pays_84 : decode cX7_pays 84 = .ok (.iload 4, 2) := by decide +kernel
theorem dX7_pays_86 : decode cX7_pays 86 = .ok (.iaload, 1) := by decide +kernel
theorem dX7_pays_87 : decode cX7_pays 87 = .ok (.istore 9, 2) := by decide +kernel
theorem dX7_pays_89 : decode cX7_pays 89 = .ok (.iload 8, 2) := by decide +kernel
theorem dX7_pays_91 : decode cX7_pays 91 = .ok (.iload 9, 2) := by decide +kernel
theorem dX7_pays_93 : decode cX7_pays 93 = .ok (.if_icmp .eq 88, 3) := by decide +kernel
theorem dX7_pays_96 : decode cX7_pays 96 = .ok (.aload_n 0, 1) := by decide +kernel
theorem dX7_pays_97 : decode cX7_pays 97 = .ok (.iload_n 2, 1) := by decide +kernel
theorem dX7_pays_98 : decode cX7_pays 98 = .ok (.aload_n 0, 1) := by decide +kernel
theorem dX7_pays_99 : decode cX7_pays 99 = .ok (.getfield 69, 3) := by decide +kernel
theorem dX7_pays_102 : decode cX7_pays 102 = .ok (.iload_n 3, 1) := by decide +kernel
theorem dX7_pays_103 : decode cX7_pays 103 = .ok (.iaload, 1) := by decide +kernel
theorem dX7_pays_104 : decode cX7_pays 104 = .ok (.invokevirtual 147, 3) := by decide +kernel
theorem dX7_pays_107 : decode cX7_pays 107 = .ok (.ifCond .ne 74, 3) := by decide +kernel
theorem dX7_pays_110 : decode cX7_pays 110 = .ok (.aload_n 0, 1) := by decide +kernel
theorem dX7_pays_111 : decode cX7_pays 111 = .ok (.iload 8, 2) := by decide +kernel
theorem dX7_pays_113 : decode cX7_pays 113 = .ok (.iload 9, 2) := by decide +kernel
theorem dX7_pays_115 : decode cX7_pays 115 = .ok (.invokevirtual 151, 3) := by decide +kernel
theorem dX7_pays_118 : decode cX7_pays 118 = .ok (.istore 10, 2) := by decide +kernel
theorem dX7_pays_120 : decode cX7_pays 120 = .ok (.aload_n 0, 1) := by decide +kernel
theorem dX7_pays_121 : decode cX7_pays 121 = .ok (.getfield 94, 3) := by decide +kernel
theorem dX7_pays_124 : decode cX7_pays 124 = .ok (.iconst 4, 1) := by decide +kernel
theorem dX7_pays_125 : decode cX7_pays 125 = .ok (.iload_n 1, 1) := by decide +kernel
theorem dX7_pays_126 : decode cX7_pays 126 = .ok (.imul, 1) := by decide +kernel
theorem dX7_pays_127 : decode cX7_pays 127 = .ok (.aload_n 0, 1) := by decide +kernel
theorem dX7_pays_128 : decode cX7_pays 128 = .ok (.getfield 19, 3) := by decide +kernel
theorem dX7_pays_131 : decode cX7_pays 131 = .ok (.iload 10, 2) := by decide +kernel
theorem dX7_pays_133 : decode cX7_pays 133 = .ok (.iaload, 1) := by decide +kernel
theorem dX7_pays_134 : decode cX7_pays 134 = .ok (.iadd, 1) := by decide +kernel
theorem dX7_pays_135 : decode cX7_pays 135 = .ok (.dup2, 1) := by decide +kernel
theorem dX7_pays_136 : decode cX7_pays 136 = .ok (.laload, 1) := by decide +kernel
theorem dX7_pays_137 : decode cX7_pays 137 = .ok (.aload_n 0, 1) := by decide +kernel
theorem dX7_pays_138 : decode cX7_pays 138 = .ok (.getfield 16, 3) := by decide +kernel
theorem dX7_pays_141 : decode cX7_pays 141 = .ok (.iload 10, 2) := by decide +kernel
theorem dX7_pays_143 : decode cX7_pays 143 = .ok (.iaload, 1) := by decide +kernel
theorem dX7_pays_144 : decode cX7_pays 144 = .ok (.i2l, 1) := by decide +kernel
theorem dX7_pays_145 : decode cX7_pays 145 = .ok (.aload_n 0, 1) := by decide +kernel
theorem dX7_pays_146 : decode cX7_pays 146 = .ok (.getfield 25, 3) := by decide +kernel
theorem dX7_pays_149 : decode cX7_pays 149 = .ok (.aload_n 0, 1) := by decide +kernel
theorem dX7_pays_150 : decode cX7_pays 150 = .ok (.getfield 35, 3) := by decide +kernel
theorem dX7_pays_153 : decode cX7_pays 153 = .ok (.iload_n 2, 1) := by decide +kernel
theorem dX7_pays_154 : decode cX7_pays 154 = .ok (.iaload, 1) := by decide +kernel
theorem dX7_pays_155 : decode cX7_pays 155 = .ok (.iaload, 1) := by decide +kernel
theorem dX7_pays_156 : decode cX7_pays 156 = .ok (.i2l, 1) := by decide +kernel
theorem dX7_pays_157 : decode cX7_pays 157 = .ok (.lmul, 1) := by decide +kernel
theorem dX7_pays_158 : decode cX7_pays 158 = .ok (.iload 7, 2) := by decide +kernel
theorem dX7_pays_160 : decode cX7_pays 160 = .ok (.i2l, 1) := by decide +kernel
theorem dX7_pays_161 : decode cX7_pays 161 = .ok (.lmul, 1) := by decide +kernel
theorem dX7_pays_162 : decode cX7_pays 162 = .ok (.ldc2_w 154, 3) := by decide +kernel
theorem dX7_pays_165 : decode cX7_pays 165 = .ok (.ldiv, 1) := by decide +kernel
theorem dX7_pays_166 : decode cX7_pays 166 = .ok (.ladd, 1) := by decide +kernel
theorem dX7_pays_167 : decode cX7_pays 167 = .ok (.lastore, 1) := by decide +kernel
theorem dX7_pays_168 : decode cX7_pays 168 = .ok (.aload_n 0, 1) := by decide +kernel
theorem dX7_pays_169 : decode cX7_pays 169 = .ok (.iload 10, 2) := by decide +kernel
theorem dX7_pays_171 : decode cX7_pays 171 = .ok (.iload 8, 2) := by decide +kernel
theorem dX7_pays_173 : decode cX7_pays 173 = .ok (.invokevirtual 156, 3) := by decide +kernel
theorem dX7_pays_176 : decode cX7_pays 176 = .ok (.istore 8, 2) := by decide +kernel
theorem dX7_pays_178 : decode cX7_pays 178 = .ok (.goto (-89), 3) := by decide +kernel
theorem dX7_pays_181 : decode cX7_pays 181 = .ok (.return_, 1) := by decide +kernel
theorem dX7_begins_0 : decode cX7_begins 0 = .ok (.aload_n 0, 1) := by decide +kernel
theorem dX7_begins_1 : decode cX7_begins 1 = .ok (.getfield 159, 3) := by decide +kernel
theorem dX7_begins_4 : decode cX7_begins 4 = .ok (.istore_n 2, 1) := by decide +kernel
theorem dX7_begins_5 : decode cX7_begins 5 = .ok (.aload_n 0, 1) := by decide +kernel
theorem dX7_begins_6 : decode cX7_begins 6 = .ok (.getfield 85, 3) := by decide +kernel
theorem dX7_begins_9 : decode cX7_begins 9 = .ok (.iload_n 2, 1) := by decide +kernel
theorem dX7_begins_10 : decode cX7_begins 10 = .ok (.aload_n 0, 1) := by decide +kernel
theorem dX7_begins_11 : decode cX7_begins 11 = .ok (.getfield 69, 3) := by decide +kernel
theorem dX7_begins_14 : decode cX7_begins 14 = .ok (.iload_n 1, 1) := by decide +kernel
theorem dX7_begins_15 : decode cX7_begins 15 = .ok (.iaload, 1) := by decide +kernel
theorem dX7_begins_16 : decode cX7_begins 16 = .ok (.iastore, 1) := by decide +kernel
theorem dX7_begins_17 : decode cX7_begins 17 = .ok (.aload_n 0, 1) := by decide +kernel
theorem dX7_begins_18 : decode cX7_begins 18 = .ok (.getfield 91, 3) := by decide +kernel
theorem dX7_begins_21 : decode cX7_begins 21 = .ok (.iload_n 2, 1) := by decide +kernel
theorem dX7_begins_22 : decode cX7_begins 22 = .ok (.iconst 0, 1) := by decide +kernel
theorem dX7_begins_23 : decode cX7_begins 23 = .ok (.iastore, 1) := by decide +kernel
theorem dX7_begins_24 : decode cX7_begins 24 = .ok (.iconst 0, 1) := by decide +kernel
theorem dX7_begins_25 : decode cX7_begins 25 = .ok (.istore_n 3, 1) := by decide +kernel
theorem dX7_begins_26 : decode cX7_begins 26 = .ok (.iload_n 3, 1) := by decide +kernel
theorem dX7_begins_27 : decode cX7_begins 27 = .ok (.iconst 4, 1) := by decide +kernel
theorem dX7_begins_28 : decode cX7_begins 28 = .ok (.if_icmp .ge 20, 3) := by decide +kernel
theorem dX7_begins_31 : decode cX7_begins 31 = .ok (.aload_n 0, 1) := by decide +kernel
theorem dX7_begins_32 : decode cX7_begins 32 = .ok (.getfield 94, 3) := by decide +kernel
theorem dX7_begins_35 : decode cX7_begins 35 = .ok (.iconst 4, 1) := by decide +kernel
theorem dX7_begins_36 : decode cX7_begins 36 = .ok (.iload_n 2, 1) := by decide +kernel
theorem dX7_begins_37 : decode cX7_begins 37 = .ok (.imul, 1) := by decide +kernel
theorem dX7_begins_38 : decode cX7_begins 38 = .ok (.iload_n 3, 1) := by decide +kernel
theorem dX7_begins_39 : decode cX7_begins 39 = .ok (.iadd, 1) := by decide +kernel
theorem dX7_begins_40 : decode cX7_begins 40 = .ok (.lconst 0, 1) := by decide +kernel
theorem dX7_begins_41 : decode cX7_begins 41 = .ok (.lastore, 1) := by decide +kernel
theorem dX7_begins_42 : decode cX7_begins 42 = .ok (.iinc 3 1, 3) := by decide +kernel
theorem dX7_begins_45 : decode cX7_begins 45 = .ok (.goto (-19), 3) := by decide +kernel
theorem dX7_begins_48 : decode cX7_begins 48 = .ok (.aload_n 0, 1) := by decide +kernel
theorem dX7_begins_49 : decode cX7_begins 49 = .ok (.dup, 1) := by decide +kernel
theorem dX7_begins_50 : decode cX7_begins 50 = .ok (.getfield 159, 3) := by decide +kernel
theorem dX7_begins_53 : decode cX7_begins 53 = .ok (.iconst 1, 1) := by decide +kernel
theorem dX7_begins_54 : decode cX7_begins 54 = .ok (.iadd, 1) := by decide +kernel
theorem dX7_begins_55 : decode cX7_begins 55 = .ok (.putfield 159, 3) := by decide +kernel
theorem dX7_begins_58 : decode cX7_begins 58 = .ok (.return_, 1) := by decide +kernel
theorem dX7_shares_0 : decode cX7_shares 0 = .ok (.lconst 0, 1) := by decide +kernel
theorem dX7_shares_1 : decode cX7_shares 1 = .ok (.lstore_n 2, 1) := by decide +kernel
theorem dX7_shares_2 : decode cX7_shares 2 = .ok (.iconst 0, 1) := by decide +kernel
theorem dX7_shares_3 : decode cX7_shares 3 = .ok (.istore 4, 2) := by decide +kernel
theorem dX7_shares_5 : decode cX7_shares 5 = .ok (.iconst 0, 1) := by decide +kernel
theorem dX7_shares_6 : decode cX7_shares 6 = .ok (.istore 5, 2) := by decide +kernel
theorem dX7_shares_8 : decode cX7_shares 8 = .ok (.iload 5, 2) := by decide +kernel
theorem dX7_shares_10 : decode cX7_shares 10 = .ok (.iconst 4, 1) := by decide +kernel
theorem dX7_shares_11 : decode cX7_shares 11 = .ok (.if_icmp .ge 53, 3) := by decide +kernel
theorem dX7_shares_14 : decode cX7_shares 14 = .ok (.aload_n 0, 1) := by decide +kernel
theorem dX7_shares_15 : decode cX7_shares 15 = .ok (.getfield 94, 3) := by decide +kernel
theorem dX7_shares_18 : decode cX7_shares 18 = .ok (.iconst 4, 1) := by decide +kernel
theorem dX7_shares_19 : decode cX7_shares 19 = .ok (.iload_n 1, 1) := by decide +kernel
theorem dX7_shares_20 : decode cX7_shares 20 = .ok (.imul, 1) := by decide +kernel
theorem dX7_shares_21 : decode cX7_shares 21 = .ok (.iload 5, 2) := by decide +kernel
theorem dX7_shares_23 : decode cX7_shares 23 = .ok (.iadd, 1) := by decide +kernel
theorem dX7_shares_24 : decode cX7_shares 24 = .ok (.laload, 1) := by decide +kernel
theorem dX7_shares_25 : decode cX7_shares 25 = .ok (.lstore 6, 2) := by decide +kernel
theorem dX7_shares_27 : decode cX7_shares 27 = .ok (.lload_n 2, 1) := by decide +kernel
theorem dX7_shares_28 : decode cX7_shares 28 = .ok (.lload 6, 2) := by decide +kernel
theorem dX7_shares_30 : decode cX7_shares 30 = .ok (.ladd, 1) := by decide +kernel
theorem dX7_shares_31 : decode cX7_shares 31 = .ok (.lstore_n 2, 1) := by decide +kernel
theorem dX7_shares_32 : decode cX7_shares 32 = .ok (.lload 6, 2) := by decide +kernel
theorem dX7_shares_34 : decode cX7_shares 34 = .ok (.aload_n 0, 1) := by decide +kernel
theorem dX7_shares_35 : decode cX7_shares 35 = .ok (.getfield 94, 3) := by decide +kernel
theorem dX7_shares_38 : decode cX7_shares 38 = .ok (.iconst 4, 1) := by decide +kernel
theorem dX7_shares_39 : decode cX7_shares 39 = .ok (.iload_n 1, 1) := by decide +kernel
theorem dX7_shares_40 : decode cX7_shares 40 = .ok (.imul, 1) := by decide +kernel
theorem dX7_shares_41 : decode cX7_shares 41 = .ok (.iload 4, 2) := by decide +kernel
theorem dX7_shares_43 : decode cX7_shares 43 = .ok (.iadd, 1) := by decide +kernel
theorem dX7_shares_44 : decode cX7_shares 44 = .ok (.laload, 1) := by decide +kernel
theorem dX7_shares_45 : decode cX7_shares 45 = .ok (.lcmp, 1) := by decide +kernel
theorem dX7_shares_46 : decode cX7_shares 46 = .ok (.ifCond .le 8, 3) := by decide +kernel
theorem dX7_shares_49 : decode cX7_shares 49 = .ok (.iload 5, 2) := by decide +kernel
theorem dX7_shares_51 : decode cX7_shares 51 = .ok (.goto 5, 3) := by decide +kernel
theorem dX7_shares_54 : decode cX7_shares 54 = .ok (.iload 4, 2) := by decide +kernel
theorem dX7_shares_56 : decode cX7_shares 56 = .ok (.istore 4, 2) := by decide +kernel
theorem dX7_shares_58 : decode cX7_shares 58 = .ok (.iinc 5 1, 3) := by decide +kernel
theorem dX7_shares_61 : decode cX7_shares 61 = .ok (.goto (-53), 3) := by decide +kernel
theorem dX7_shares_64 : decode cX7_shares 64 = .ok (.aload_n 0, 1) := by decide +kernel
theorem dX7_shares_65 : decode cX7_shares 65 = .ok (.getfield 97, 3) := by decide +kernel
theorem dX7_shares_68 : decode cX7_shares 68 = .ok (.iload_n 1, 1) := by decide +kernel
theorem dX7_shares_69 : decode cX7_shares 69 = .ok (.lload_n 2, 1) := by decide +kernel
theorem dX7_shares_70 : decode cX7_shares 70 = .ok (.aload_n 0, 1) := by decide +kernel
theorem dX7_shares_71 : decode cX7_shares 71 = .ok (.getfield 31, 3) := by decide +kernel
theorem dX7_shares_74 : decode cX7_shares 74 = .ok (.i2l, 1) := by decide +kernel
theorem dX7_shares_75 : decode cX7_shares 75 = .ok (.lcmp, 1) := by decide +kernel
theorem dX7_shares_76 : decode cX7_shares 76 = .ok (.ifCond .le 11, 3) := by decide +kernel
theorem dX7_shares_79 : decode cX7_shares 79 = .ok (.aload_n 0, 1) := by decide +kernel
theorem dX7_shares_80 : decode cX7_shares 80 = .ok (.getfield 31, 3) := by decide +kernel
theorem dX7_shares_83 : decode cX7_shares 83 = .ok (.i2l, 1) := by decide +kernel
theorem dX7_shares_84 : decode cX7_shares 84 = .ok (.goto 4, 3) := by decide +kernel
theorem dX7_shares_87 : decode cX7_shares 87 = .ok (.lload_n 2, 1) := by decide +kernel
theorem dX7_shares_88 : decode cX7_shares 88 = .ok (.lastore, 1) := by decide +kernel
theorem dX7_shares_89 : decode cX7_shares 89 = .ok (.aload_n 0, 1) := by decide +kernel
theorem dX7_shares_90 : decode cX7_shares 90 = .ok (.getfield 97, 3) := by decide +kernel
theorem dX7_shares_93 : decode cX7_shares 93 = .ok (.iload_n 1, 1) := by decide +kernel
theorem dX7_shares_94 : decode cX7_shares 94 = .ok (.laload, 1) := by decide +kernel
theorem dX7_shares_95 : decode cX7_shares 95 = .ok (.lstore 5, 2) := by decide +kernel
theorem dX7_shares_97 : decode cX7_shares 97 = .ok (.iconst 0, 1) := by decide +kernel
theorem dX7_shares_98 : decode cX7_shares 98 = .ok (.istore 7, 2) := by decide +kernel
theorem dX7_shares_100 : decode cX7_shares 100 = .ok (.iload 7, 2) := by decide +kernel
theorem dX7_shares_102 : decode cX7_shares 102 = .ok (.iconst 4, 1) := by decide +kernel
theorem dX7_shares_103 : decode cX7_shares 103 = .ok (.if_icmp .ge 74, 3) := by decide +kernel
theorem dX7_shares_106 : decode cX7_shares 106 = .ok (.aload_n 0, 1) := by decide +kernel
theorem dX7_shares_107 : decode cX7_shares 107 = .ok (.getfield 94, 3) := by decide +kernel
theorem dX7_shares_110 : decode cX7_shares 110 = .ok (.iconst 4, 1) := by decide +kernel
theorem dX7_shares_111 : decode cX7_shares 111 = .ok (.iload_n 1, 1) := by decide +kernel
theorem dX7_shares_112 : decode cX7_shares 112 = .ok (.imul, 1) := by decide +kernel
theorem dX7_shares_113 : decode cX7_shares 113 = .ok (.iload 7, 2) := by decide +kernel
theorem dX7_shares_115 : decode cX7_shares 115 = .ok (.iadd, 1) := by decide +kernel
theorem dX7_shares_116 : decode cX7_shares 116 = .ok (.laload, 1) := by decide +kernel
theorem dX7_shares_117 : decode cX7_shares 117 = .ok (.lstore 8, 2) := by decide +kernel
theorem dX7_shares_119 : decode cX7_shares 119 = .ok (.aload_n 0, 1) := by decide +kernel
theorem dX7_shares_120 : decode cX7_shares 120 = .ok (.getfield 100, 3) := by decide +kernel
theorem dX7_shares_123 : decode cX7_shares 123 = .ok (.iconst 4, 1) := by decide +kernel
theorem dX7_shares_124 : decode cX7_shares 124 = .ok (.iload_n 1, 1) := by decide +kernel
theorem dX7_shares_125 : decode cX7_shares 125 = .ok (.imul, 1) := by decide +kernel
theorem dX7_shares_126 : decode cX7_shares 126 = .ok (.iload 7, 2) := by decide +kernel
theorem dX7_shares_128 : decode cX7_shares 128 = .ok (.iadd, 1) := by decide +kernel
theorem dX7_shares_129 : decode cX7_shares 129 = .ok (.lload_n 2, 1) := by decide +kernel
theorem dX7_shares_130 : decode cX7_shares 130 = .ok (.aload_n 0, 1) := by decide +kernel
theorem dX7_shares_131 : decode cX7_shares 131 = .ok (.getfield 31, 3) := by decide +kernel
theorem dX7_shares_134 : decode cX7_shares 134 = .ok (.i2l, 1) := by decide +kernel
theorem dX7_shares_135 : decode cX7_shares 135 = .ok (.lcmp, 1) := by decide +kernel
theorem dX7_shares_136 : decode cX7_shares 136 = .ok (.ifCond .le 16, 3) := by decide +kernel
theorem dX7_shares_139 : decode cX7_shares 139 = .ok (.lload 8, 2) := by decide +kernel
theorem dX7_shares_141 : decode cX7_shares 141 = .ok (.aload_n 0, 1) := by decide +kernel
theorem dX7_shares_142 : decode cX7_shares 142 = .ok (.getfield 31, 3) := by decide +kernel
theorem dX7_shares_145 : decode cX7_shares 145 = .ok (.i2l, 1) := by decide +kernel
theorem dX7_shares_146 : decode cX7_shares 146 = .ok (.lmul, 1) := by decide +kernel
theorem dX7_shares_147 : decode cX7_shares 147 = .ok (.lload_n 2, 1) := by decide +kernel
theorem dX7_shares_148 : decode cX7_shares 148 = .ok (.ldiv, 1) := by decide +kernel
theorem dX7_shares_149 : decode cX7_shares 149 = .ok (.goto 5, 3) := by decide +kernel
theorem dX7_shares_152 : decode cX7_shares 152 = .ok (.lload 8, 2) := by decide +kernel
theorem dX7_shares_154 : decode cX7_shares 154 = .ok (.lastore, 1) := by decide +kernel
theorem dX7_shares_155 : decode cX7_shares 155 = .ok (.lload 5, 2) := by decide +kernel
theorem dX7_shares_157 : decode cX7_shares 157 = .ok (.aload_n 0, 1) := by decide +kernel
theorem dX7_shares_158 : decode cX7_shares 158 = .ok (.getfield 100, 3) := by decide +kernel
theorem dX7_shares_161 : decode cX7_shares 161 = .ok (.iconst 4, 1) := by decide +kernel
theorem dX7_shares_162 : decode cX7_shares 162 = .ok (.iload_n 1, 1) := by decide +kernel
theorem dX7_shares_163 : decode cX7_shares 163 = .ok (.imul, 1) := by decide +kernel
theorem dX7_shares_164 : decode cX7_shares 164 = .ok (.iload 7, 2) := by decide +kernel
theorem dX7_shares_166 : decode cX7_shares 166 = .ok (.iadd, 1) := by decide +kernel
theorem dX7_shares_167 : decode cX7_shares 167 = .ok (.laload, 1) := by decide +kernel
theorem dX7_shares_168 : decode cX7_shares 168 = .ok (.lsub, 1) := by decide +kernel
theorem dX7_shares_169 : decode cX7_shares 169 = .ok (.lstore 5, 2) := by decide +kernel
theorem dX7_shares_171 : decode cX7_shares 171 = .ok (.iinc 7 1, 3) := by decide +kernel
theorem dX7_shares_174 : decode cX7_shares 174 = .ok (.goto (-74), 3) := by decide +kernel
theorem dX7_shares_177 : decode cX7_shares 177 = .ok (.aload_n 0, 1) := by decide +kernel
theorem dX7_shares_178 : decode cX7_shares 178 = .ok (.getfield 100, 3) := by decide +kernel
theorem dX7_shares_181 : decode cX7_shares 181 = .ok (.iconst 4, 1) := by decide +kernel
theorem dX7_shares_182 : decode cX7_shares 182 = .ok (.iload_n 1, 1) := by decide +kernel
theorem dX7_shares_183 : decode cX7_shares 183 = .ok (.imul, 1) := by decide +kernel
theorem dX7_shares_184 : decode cX7_shares 184 = .ok (.iload 4, 2) := by decide +kernel
theorem dX7_shares_186 : decode cX7_shares 186 = .ok (.iadd, 1) := by decide +kernel
theorem dX7_shares_187 : decode cX7_shares 187 = .ok (.dup2, 1) := by decide +kernel
theorem dX7_shares_188 : decode cX7_shares 188 = .ok (.laload, 1) := by decide +kernel
theorem dX7_shares_189 : decode cX7_shares 189 = .ok (.lload 5, 2) := by decide +kernel
theorem dX7_shares_191 : decode cX7_shares 191 = .ok (.ladd, 1) := by decide +kernel
theorem dX7_shares_192 : decode cX7_shares 192 = .ok (.lastore, 1) := by decide +kernel
theorem dX7_shares_193 : decode cX7_shares 193 = .ok (.return_, 1) := by decide +kernel
theorem dX7_goes_0 : decode cX7_goes 0 = .ok (.aload_n 0, 1) := by decide +kernel
theorem dX7_goes_1 : decode cX7_goes 1 = .ok (.iconst 0, 1) := by decide +kernel
theorem dX7_goes_2 : decode cX7_goes 2 = .ok (.putfield 159, 3) := by decide +kernel
theorem dX7_goes_5 : decode cX7_goes 5 = .ok (.iconst 0, 1) := by decide +kernel
theorem dX7_goes_6 : decode cX7_goes 6 = .ok (.istore_n 2, 1) := by decide +kernel
theorem dX7_goes_7 : decode cX7_goes 7 = .ok (.iload_n 2, 1) := by decide +kernel
theorem dX7_goes_8 : decode cX7_goes 8 = .ok (.aload_n 0, 1) := by decide +kernel
theorem dX7_goes_9 : decode cX7_goes 9 = .ok (.getfield 113, 3) := by decide +kernel
theorem dX7_goes_12 : decode cX7_goes 12 = .ok (.if_icmp .ge 40, 3) := by decide +kernel
theorem dX7_goes_15 : decode cX7_goes 15 = .ok (.aload_n 0, 1) := by decide +kernel
theorem dX7_goes_16 : decode cX7_goes 16 = .ok (.getfield 82, 3) := by decide +kernel
theorem dX7_goes_19 : decode cX7_goes 19 = .ok (.iload_n 2, 1) := by decide +kernel
theorem dX7_goes_20 : decode cX7_goes 20 = .ok (.iconst 0, 1) := by decide +kernel
theorem dX7_goes_21 : decode cX7_goes 21 = .ok (.bastore, 1) := by decide +kernel
theorem dX7_goes_22 : decode cX7_goes 22 = .ok (.aload_n 0, 1) := by decide +kernel
theorem dX7_goes_23 : decode cX7_goes 23 = .ok (.getfield 66, 3) := by decide +kernel
theorem dX7_goes_26 : decode cX7_goes 26 = .ok (.iload_n 2, 1) := by decide +kernel
theorem dX7_goes_27 : decode cX7_goes 27 = .ok (.iaload, 1) := by decide +kernel
theorem dX7_goes_28 : decode cX7_goes 28 = .ok (.iload_n 1, 1) := by decide +kernel
theorem dX7_goes_29 : decode cX7_goes 29 = .ok (.if_icmp .ne 17, 3) := by decide +kernel
theorem dX7_goes_32 : decode cX7_goes 32 = .ok (.aload_n 0, 1) := by decide +kernel
theorem dX7_goes_33 : decode cX7_goes 33 = .ok (.getfield 76, 3) := by decide +kernel
theorem dX7_goes_36 : decode cX7_goes 36 = .ok (.iload_n 2, 1) := by decide +kernel
theorem dX7_goes_37 : decode cX7_goes 37 = .ok (.iconst 0, 1) := by decide +kernel
theorem dX7_goes_38 : decode cX7_goes 38 = .ok (.bastore, 1) := by decide +kernel
theorem dX7_goes_39 : decode cX7_goes 39 = .ok (.aload_n 0, 1) := by decide +kernel
theorem dX7_goes_40 : decode cX7_goes 40 = .ok (.getfield 79, 3) := by decide +kernel
theorem dX7_goes_43 : decode cX7_goes 43 = .ok (.iload_n 2, 1) := by decide +kernel
theorem dX7_goes_44 : decode cX7_goes 44 = .ok (.iconst (-1), 1) := by decide +kernel
theorem dX7_goes_45 : decode cX7_goes 45 = .ok (.iastore, 1) := by decide +kernel
theorem dX7_goes_46 : decode cX7_goes 46 = .ok (.iinc 2 1, 3) := by decide +kernel
theorem dX7_goes_49 : decode cX7_goes 49 = .ok (.goto (-42), 3) := by decide +kernel
theorem dX7_goes_52 : decode cX7_goes 52 = .ok (.iconst (-1), 1) := by decide +kernel
theorem dX7_goes_53 : decode cX7_goes 53 = .ok (.istore_n 2, 1) := by decide +kernel
theorem dX7_goes_54 : decode cX7_goes 54 = .ok (.aload_n 0, 1) := by decide +kernel
theorem dX7_goes_55 : decode cX7_goes 55 = .ok (.iload_n 1, 1) := by decide +kernel
theorem dX7_goes_56 : decode cX7_goes 56 = .ok (.invokevirtual 162, 3) := by decide +kernel
theorem dX7_goes_59 : decode cX7_goes 59 = .ok (.istore_n 3, 1) := by decide +kernel
theorem dX7_goes_60 : decode cX7_goes 60 = .ok (.iload_n 3, 1) := by decide +kernel
theorem dX7_goes_61 : decode cX7_goes 61 = .ok (.iconst (-1), 1) := by decide +kernel
theorem dX7_goes_62 : decode cX7_goes 62 = .ok (.if_icmp .eq 225, 3) := by decide +kernel
theorem dX7_goes_65 : decode cX7_goes 65 = .ok (.aload_n 0, 1) := by decide +kernel
theorem dX7_goes_66 : decode cX7_goes 66 = .ok (.getfield 82, 3) := by decide +kernel
theorem dX7_goes_69 : decode cX7_goes 69 = .ok (.iload_n 3, 1) := by decide +kernel
theorem dX7_goes_70 : decode cX7_goes 70 = .ok (.iconst 1, 1) := by decide +kernel
theorem dX7_goes_71 : decode cX7_goes 71 = .ok (.bastore, 1) := by decide +kernel
theorem dX7_goes_72 : decode cX7_goes 72 = .ok (.iload_n 2, 1) := by decide +kernel
theorem dX7_goes_73 : decode cX7_goes 73 = .ok (.iconst (-1), 1) := by decide +kernel
theorem dX7_goes_74 : decode cX7_goes 74 = .ok (.if_icmp .ne 7, 3) := by decide +kernel
theorem dX7_goes_77 : decode cX7_goes 77 = .ok (.iconst 0, 1) := by decide +kernel
theorem dX7_goes_78 : decode cX7_goes 78 = .ok (.goto 16, 3) := by decide +kernel
theorem dX7_goes_81 : decode cX7_goes 81 = .ok (.aload_n 0, 1) := by decide +kernel
theorem dX7_goes_82 : decode cX7_goes 82 = .ok (.getfield 69, 3) := by decide +kernel
theorem dX7_goes_85 : decode cX7_goes 85 = .ok (.iload_n 3, 1) := by decide +kernel
theorem dX7_goes_86 : decode cX7_goes 86 = .ok (.iaload, 1) := by decide +kernel
theorem dX7_goes_87 : decode cX7_goes 87 = .ok (.aload_n 0, 1) := by decide +kernel
theorem dX7_goes_88 : decode cX7_goes 88 = .ok (.getfield 69, 3) := by decide +kernel
theorem dX7_goes_91 : decode cX7_goes 91 = .ok (.iload_n 2, 1) := by decide +kernel
theorem dX7_goes_92 : decode cX7_goes 92 = .ok (.iaload, 1) := by decide +kernel
theorem dX7_goes_93 : decode cX7_goes 93 = .ok (.isub, 1) := by decide +kernel
theorem dX7_goes_94 : decode cX7_goes 94 = .ok (.istore 4, 2) := by decide +kernel
theorem dX7_goes_96 : decode cX7_goes 96 = .ok (.iload_n 2, 1) := by decide +kernel
theorem dX7_goes_97 : decode cX7_goes 97 = .ok (.iconst (-1), 1) := by decide +kernel
theorem dX7_goes_98 : decode cX7_goes 98 = .ok (.if_icmp .ne 8, 3) := by decide +kernel
theorem dX7_goes_101 : decode cX7_goes 101 = .ok (.ldc 116, 2) := by decide +kernel
theorem dX7_goes_103 : decode cX7_goes 103 = .ok (.goto 19, 3) := by decide +kernel
theorem dX7_goes_106 : decode cX7_goes 106 = .ok (.aload_n 0, 1) := by decide +kernel
theorem dX7_goes_107 : decode cX7_goes 107 = .ok (.aload_n 0, 1) := by decide +kernel
theorem dX7_goes_108 : decode cX7_goes 108 = .ok (.getfield 63, 3) := by decide +kernel
theorem dX7_goes_111 : decode cX7_goes 111 = .ok (.iload_n 2, 1) := by decide +kernel
theorem dX7_goes_112 : decode cX7_goes 112 = .ok (.iaload, 1) := by decide +kernel
theorem dX7_goes_113 : decode cX7_goes 113 = .ok (.aload_n 0, 1) := by decide +kernel
theorem dX7_goes_114 : decode cX7_goes 114 = .ok (.getfield 63, 3) := by decide +kernel
theorem dX7_goes_117 : decode cX7_goes 117 = .ok (.iload_n 3, 1) := by decide +kernel
theorem dX7_goes_118 : decode cX7_goes 118 = .ok (.iaload, 1) := by decide +kernel
theorem dX7_goes_119 : decode cX7_goes 119 = .ok (.invokevirtual 120, 3) := by decide +kernel
theorem dX7_goes_122 : decode cX7_goes 122 = .ok (.istore 5, 2) := by decide +kernel
theorem dX7_goes_124 : decode cX7_goes 124 = .ok (.aload_n 0, 1) := by decide +kernel
theorem dX7_goes_125 : decode cX7_goes 125 = .ok (.getfield 76, 3) := by decide +kernel
theorem dX7_goes_128 : decode cX7_goes 128 = .ok (.iload_n 3, 1) := by decide +kernel
theorem dX7_goes_129 : decode cX7_goes 129 = .ok (.iload_n 2, 1) := by decide +kernel
theorem dX7_goes_130 : decode cX7_goes 130 = .ok (.iconst (-1), 1) := by decide +kernel
theorem dX7_goes_131 : decode cX7_goes 131 = .ok (.if_icmp .eq 28, 3) := by decide +kernel
theorem dX7_goes_134 : decode cX7_goes 134 = .ok (.aload_n 0, 1) := by decide +kernel
theorem dX7_goes_135 : decode cX7_goes 135 = .ok (.getfield 63, 3) := by decide +kernel
theorem dX7_goes_138 : decode cX7_goes 138 = .ok (.iload_n 2, 1) := by decide +kernel
theorem dX7_goes_139 : decode cX7_goes 139 = .ok (.iaload, 1) := by decide +kernel
theorem dX7_goes_140 : decode cX7_goes 140 = .ok (.aload_n 0, 1) := by decide +kernel
theorem dX7_goes_141 : decode cX7_goes 141 = .ok (.getfield 63, 3) := by decide +kernel
theorem dX7_goes_144 : decode cX7_goes 144 = .ok (.iload_n 3, 1) := by decide +kernel
theorem dX7_goes_145 : decode cX7_goes 145 = .ok (.iaload, 1) := by decide +kernel
theorem dX7_goes_146 : decode cX7_goes 146 = .ok (.if_icmp .ne 13, 3) := by decide +kernel
theorem dX7_goes_149 : decode cX7_goes 149 = .ok (.iload 4, 2) := by decide +kernel
theorem dX7_goes_151 : decode cX7_goes 151 = .ok (.iconst 5, 1) := by decide +kernel
theorem dX7_goes_152 : decode cX7_goes 152 = .ok (.if_icmp .gt 7, 3) := by decide +kernel
theorem dX7_goes_155 : decode cX7_goes 155 = .ok (.iconst 1, 1) := by decide +kernel
theorem dX7_goes_156 : decode cX7_goes 156 = .ok (.goto 4, 3) := by decide +kernel
theorem dX7_goes_159 : decode cX7_goes 159 = .ok (.iconst 0, 1) := by decide +kernel
theorem dX7_goes_160 : decode cX7_goes 160 = .ok (.bastore, 1) := by decide +kernel
theorem dX7_goes_161 : decode cX7_goes 161 = .ok (.aload_n 0, 1) := by decide +kernel
theorem dX7_goes_162 : decode cX7_goes 162 = .ok (.getfield 76, 3) := by decide +kernel
theorem dX7_goes_165 : decode cX7_goes 165 = .ok (.iload_n 3, 1) := by decide +kernel
theorem dX7_goes_166 : decode cX7_goes 166 = .ok (.baload, 1) := by decide +kernel
theorem dX7_goes_167 : decode cX7_goes 167 = .ok (.ifCond .ne 99, 3) := by decide +kernel
theorem dX7_goes_170 : decode cX7_goes 170 = .ok (.iload_n 2, 1) := by decide +kernel
theorem dX7_goes_171 : decode cX7_goes 171 = .ok (.iconst (-1), 1) := by decide +kernel
theorem dX7_goes_172 : decode cX7_goes 172 = .ok (.if_icmp .eq 31, 3) := by decide +kernel
theorem dX7_goes_175 : decode cX7_goes 175 = .ok (.iload 5, 2) := by decide +kernel
theorem dX7_goes_177 : decode cX7_goes 177 = .ok (.ldc 116, 2) := by decide +kernel
theorem dX7_goes_179 : decode cX7_goes 179 = .ok (.if_icmp .ge 24, 3) := by decide +kernel
theorem dX7_goes_182 : decode cX7_goes 182 = .ok (.iload 4, 2) := by decide +kernel
theorem dX7_goes_184 : decode cX7_goes 184 = .ok (.iload 5, 2) := by decide +kernel
theorem dX7_goes_186 : decode cX7_goes 186 = .ok (.iconst 3, 1) := by decide +kernel
theorem dX7_goes_187 : decode cX7_goes 187 = .ok (.iload 5, 2) := by decide +kernel
theorem dX7_goes_189 : decode cX7_goes 189 = .ok (.imul, 1) := by decide +kernel
theorem dX7_goes_190 : decode cX7_goes 190 = .ok (.bipush 10, 2) := by decide +kernel
theorem dX7_goes_192 : decode cX7_goes 192 = .ok (.iadd, 1) := by decide +kernel
theorem dX7_goes_193 : decode cX7_goes 193 = .ok (.invokestatic 109, 3) := by decide +kernel
theorem dX7_goes_196 : decode cX7_goes 196 = .ok (.ifCond .eq 7, 3) := by decide +kernel
theorem dX7_goes_199 : decode cX7_goes 199 = .ok (.iconst 1, 1) := by decide +kernel
theorem dX7_goes_200 : decode cX7_goes 200 = .ok (.goto 4, 3) := by decide +kernel
theorem dX7_goes_203 : decode cX7_goes 203 = .ok (.iconst 0, 1) := by decide +kernel
theorem dX7_goes_204 : decode cX7_goes 204 = .ok (.istore 6, 2) := by decide +kernel
theorem dX7_goes_206 : decode cX7_goes 206 = .ok (.iload 6, 2) := by decide +kernel
theorem dX7_goes_208 : decode cX7_goes 208 = .ok (.ifCond .eq 19, 3) := by decide +kernel
theorem dX7_goes_211 : decode cX7_goes 211 = .ok (.aload_n 0, 1) := by decide +kernel
theorem dX7_goes_212 : decode cX7_goes 212 = .ok (.aload_n 0, 1) := by decide +kernel
theorem dX7_goes_213 : decode cX7_goes 213 = .ok (.getfield 159, 3) := by decide +kernel
theorem dX7_goes_216 : decode cX7_goes 216 = .ok (.iconst 1, 1) := by decide +kernel
theorem dX7_goes_217 : decode cX7_goes 217 = .ok (.isub, 1) := by decide +kernel
theorem dX7_goes_218 : decode cX7_goes 218 = .ok (.iload_n 1, 1) := by decide +kernel
theorem dX7_goes_219 : decode cX7_goes 219 = .ok (.iload_n 2, 1) := by decide +kernel
theorem dX7_goes_220 : decode cX7_goes 220 = .ok (.iload_n 3, 1) := by decide +kernel
theorem dX7_goes_221 : decode cX7_goes 221 = .ok (.invokevirtual 166, 3) := by decide +kernel
theorem dX7_goes_224 : decode cX7_goes 224 = .ok (.goto 8, 3) := by decide +kernel
theorem dX7_goes_227 : decode cX7_goes 227 = .ok (.aload_n 0, 1) := by decide +kernel
theorem dX7_goes_228 : decode cX7_goes 228 = .ok (.iload_n 3, 1) := by decide +kernel
theorem dX7_goes_229 : decode cX7_goes 229 = .ok (.invokevirtual 170, 3) := by decide +kernel
theorem dX7_goes_232 : decode cX7_goes 232 = .ok (.aload_n 0, 1) := by decide +kernel
theorem dX7_goes_233 : decode cX7_goes 233 = .ok (.getfield 88, 3) := by decide +kernel
theorem dX7_goes_236 : decode cX7_goes 236 = .ok (.aload_n 0, 1) := by decide +kernel
theorem dX7_goes_237 : decode cX7_goes 237 = .ok (.getfield 159, 3) := by decide +kernel
theorem dX7_goes_240 : decode cX7_goes 240 = .ok (.iconst 1, 1) := by decide +kernel
theorem dX7_goes_241 : decode cX7_goes 241 = .ok (.isub, 1) := by decide +kernel
theorem dX7_goes_242 : decode cX7_goes 242 = .ok (.aload_n 0, 1) := by decide +kernel
theorem dX7_goes_243 : decode cX7_goes 243 = .ok (.getfield 69, 3) := by decide +kernel
theorem dX7_goes_246 : decode cX7_goes 246 = .ok (.iload_n 3, 1) := by decide +kernel
theorem dX7_goes_247 : decode cX7_goes 247 = .ok (.iaload, 1) := by decide +kernel
theorem dX7_goes_248 : decode cX7_goes 248 = .ok (.iastore, 1) := by decide +kernel
theorem dX7_goes_249 : decode cX7_goes 249 = .ok (.aload_n 0, 1) := by decide +kernel
theorem dX7_goes_250 : decode cX7_goes 250 = .ok (.getfield 91, 3) := by decide +kernel
theorem dX7_goes_253 : decode cX7_goes 253 = .ok (.aload_n 0, 1) := by decide +kernel
theorem dX7_goes_254 : decode cX7_goes 254 = .ok (.getfield 159, 3) := by decide +kernel
theorem dX7_goes_257 : decode cX7_goes 257 = .ok (.iconst 1, 1) := by decide +kernel
theorem dX7_goes_258 : decode cX7_goes 258 = .ok (.isub, 1) := by decide +kernel
theorem dX7_goes_259 : decode cX7_goes 259 = .ok (.dup2, 1) := by decide +kernel
theorem dX7_goes_260 : decode cX7_goes 260 = .ok (.iaload, 1) := by decide +kernel
theorem dX7_goes_261 : decode cX7_goes 261 = .ok (.iconst 1, 1) := by decide +kernel
theorem dX7_goes_262 : decode cX7_goes 262 = .ok (.iadd, 1) := by decide +kernel
theorem dX7_goes_263 : decode cX7_goes 263 = .ok (.iastore, 1) := by decide +kernel
theorem dX7_goes_264 : decode cX7_goes 264 = .ok (.iload_n 3, 1) := by decide +kernel
theorem dX7_goes_265 : decode cX7_goes 265 = .ok (.istore_n 2, 1) := by decide +kernel
theorem dX7_goes_266 : decode cX7_goes 266 = .ok (.aload_n 0, 1) := by decide +kernel
theorem dX7_goes_267 : decode cX7_goes 267 = .ok (.getfield 79, 3) := by decide +kernel
theorem dX7_goes_270 : decode cX7_goes 270 = .ok (.iload_n 3, 1) := by decide +kernel
theorem dX7_goes_271 : decode cX7_goes 271 = .ok (.aload_n 0, 1) := by decide +kernel
theorem dX7_goes_272 : decode cX7_goes 272 = .ok (.getfield 159, 3) := by decide +kernel
theorem dX7_goes_275 : decode cX7_goes 275 = .ok (.iconst 1, 1) := by decide +kernel
theorem dX7_goes_276 : decode cX7_goes 276 = .ok (.isub, 1) := by decide +kernel
theorem dX7_goes_277 : decode cX7_goes 277 = .ok (.iastore, 1) := by decide +kernel
theorem dX7_goes_278 : decode cX7_goes 278 = .ok (.aload_n 0, 1) := by decide +kernel
theorem dX7_goes_279 : decode cX7_goes 279 = .ok (.iload_n 1, 1) := by decide +kernel
theorem dX7_goes_280 : decode cX7_goes 280 = .ok (.invokevirtual 162, 3) := by decide +kernel
theorem dX7_goes_283 : decode cX7_goes 283 = .ok (.istore_n 3, 1) := by decide +kernel
theorem dX7_goes_284 : decode cX7_goes 284 = .ok (.goto (-224), 3) := by decide +kernel
theorem dX7_goes_287 : decode cX7_goes 287 = .ok (.iconst 0, 1) := by decide +kernel
theorem dX7_goes_288 : decode cX7_goes 288 = .ok (.istore 4, 2) := by decide +kernel
theorem dX7_goes_290 : decode cX7_goes 290 = .ok (.iload 4, 2) := by decide +kernel
theorem dX7_goes_292 : decode cX7_goes 292 = .ok (.aload_n 0, 1) := by decide +kernel
theorem dX7_goes_293 : decode cX7_goes 293 = .ok (.getfield 159, 3) := by decide +kernel
theorem dX7_goes_296 : decode cX7_goes 296 = .ok (.if_icmp .ge 15, 3) := by decide +kernel
theorem dX7_goes_299 : decode cX7_goes 299 = .ok (.aload_n 0, 1) := by decide +kernel
theorem dX7_goes_300 : decode cX7_goes 300 = .ok (.iload 4, 2) := by decide +kernel
theorem dX7_goes_302 : decode cX7_goes 302 = .ok (.invokevirtual 174, 3) := by decide +kernel
theorem dX7_goes_305 : decode cX7_goes 305 = .ok (.iinc 4 1, 3) := by decide +kernel
theorem dX7_goes_308 : decode cX7_goes 308 = .ok (.goto (-18), 3) := by decide +kernel
theorem dX7_goes_311 : decode cX7_goes 311 = .ok (.return_, 1) := by decide +kernel
theorem dX7_isOver_0 : decode cX7_isOver 0 = .ok (.aload_n 0, 1) := by decide +kernel
theorem dX7_isOver_1 : decode cX7_isOver 1 = .ok (.getfield 141, 3) := by decide +kernel
theorem dX7_isOver_4 : decode cX7_isOver 4 = .ok (.aload_n 0, 1) := by decide +kernel
theorem dX7_isOver_5 : decode cX7_isOver 5 = .ok (.getfield 88, 3) := by decide +kernel
theorem dX7_isOver_8 : decode cX7_isOver 8 = .ok (.iload_n 1, 1) := by decide +kernel
theorem dX7_isOver_9 : decode cX7_isOver 9 = .ok (.iaload, 1) := by decide +kernel
theorem dX7_isOver_10 : decode cX7_isOver 10 = .ok (.isub, 1) := by decide +kernel
theorem dX7_isOver_11 : decode cX7_isOver 11 = .ok (.bipush 60, 2) := by decide +kernel
theorem dX7_isOver_13 : decode cX7_isOver 13 = .ok (.if_icmp .lt 7, 3) := by decide +kernel
theorem dX7_isOver_16 : decode cX7_isOver 16 = .ok (.iconst 1, 1) := by decide +kernel
theorem dX7_isOver_17 : decode cX7_isOver 17 = .ok (.goto 4, 3) := by decide +kernel
theorem dX7_isOver_20 : decode cX7_isOver 20 = .ok (.iconst 0, 1) := by decide +kernel
theorem dX7_isOver_21 : decode cX7_isOver 21 = .ok (.ireturn, 1) := by decide +kernel
theorem dX7_dueOf_0 : decode cX7_dueOf 0 = .ok (.aload_n 0, 1) := by decide +kernel
theorem dX7_dueOf_1 : decode cX7_dueOf 1 = .ok (.iload_n 1, 1) := by decide +kernel
theorem dX7_dueOf_2 : decode cX7_dueOf 2 = .ok (.invokevirtual 176, 3) := by decide +kernel
theorem dX7_dueOf_5 : decode cX7_dueOf 5 = .ok (.lconst 0, 1) := by decide +kernel
theorem dX7_dueOf_6 : decode cX7_dueOf 6 = .ok (.lstore_n 2, 1) := by decide +kernel
theorem dX7_dueOf_7 : decode cX7_dueOf 7 = .ok (.iconst 0, 1) := by decide +kernel
theorem dX7_dueOf_8 : decode cX7_dueOf 8 = .ok (.istore 4, 2) := by decide +kernel
theorem dX7_dueOf_10 : decode cX7_dueOf 10 = .ok (.iload 4, 2) := by decide +kernel
theorem dX7_dueOf_12 : decode cX7_dueOf 12 = .ok (.aload_n 0, 1) := by decide +kernel
theorem dX7_dueOf_13 : decode cX7_dueOf 13 = .ok (.getfield 159, 3) := by decide +kernel
theorem dX7_dueOf_16 : decode cX7_dueOf 16 = .ok (.if_icmp .ge 32, 3) := by decide +kernel
theorem dX7_dueOf_19 : decode cX7_dueOf 19 = .ok (.lload_n 2, 1) := by decide +kernel
theorem dX7_dueOf_20 : decode cX7_dueOf 20 = .ok (.aload_n 0, 1) := by decide +kernel
theorem dX7_dueOf_21 : decode cX7_dueOf 21 = .ok (.iload 4, 2) := by decide +kernel
theorem dX7_dueOf_23 : decode cX7_dueOf 23 = .ok (.invokevirtual 179, 3) := by decide +kernel
theorem dX7_dueOf_26 : decode cX7_dueOf 26 = .ok (.ifCond .eq 13, 3) := by decide +kernel
theorem dX7_dueOf_29 : decode cX7_dueOf 29 = .ok (.aload_n 0, 1) := by decide +kernel
theorem dX7_dueOf_30 : decode cX7_dueOf 30 = .ok (.getfield 97, 3) := by decide +kernel
theorem dX7_dueOf_33 : decode cX7_dueOf 33 = .ok (.iload 4, 2) := by decide +kernel
theorem dX7_dueOf_35 : decode cX7_dueOf 35 = .ok (.laload, 1) := by decide +kernel
theorem dX7_dueOf_36 : decode cX7_dueOf 36 = .ok (.goto 4, 3) := by decide +kernel
theorem dX7_dueOf_39 : decode cX7_dueOf 39 = .ok (.lconst 0, 1) := by decide +kernel
theorem dX7_dueOf_40 : decode cX7_dueOf 40 = .ok (.ladd, 1) := by decide +kernel
theorem dX7_dueOf_41 : decode cX7_dueOf 41 = .ok (.lstore_n 2, 1) := by decide +kernel
theorem dX7_dueOf_42 : decode cX7_dueOf 42 = .ok (.iinc 4 1, 3) := by decide +kernel
theorem dX7_dueOf_45 : decode cX7_dueOf 45 = .ok (.goto (-35), 3) := by decide +kernel
theorem dX7_dueOf_48 : decode cX7_dueOf 48 = .ok (.lload_n 2, 1) := by decide +kernel
theorem dX7_dueOf_49 : decode cX7_dueOf 49 = .ok (.lreturn, 1) := by decide +kernel
theorem dX7_dueTo_0 : decode cX7_dueTo 0 = .ok (.lconst 0, 1) := by decide +kernel
theorem dX7_dueTo_1 : decode cX7_dueTo 1 = .ok (.lstore_n 2, 1) := by decide +kernel
theorem dX7_dueTo_2 : decode cX7_dueTo 2 = .ok (.iconst 0, 1) := by decide +kernel
theorem dX7_dueTo_3 : decode cX7_dueTo 3 = .ok (.istore 4, 2) := by decide +kernel
theorem dX7_dueTo_5 : decode cX7_dueTo 5 = .ok (.iload 4, 2) := by decide +kernel
theorem dX7_dueTo_7 : decode cX7_dueTo 7 = .ok (.bipush 10, 2) := by decide +kernel
theorem dX7_dueTo_9 : decode cX7_dueTo 9 = .ok (.if_icmp .ge 60, 3) := by decide +kernel
theorem dX7_dueTo_12 : decode cX7_dueTo 12 = .ok (.aload_n 0, 1) := by decide +kernel
theorem dX7_dueTo_13 : decode cX7_dueTo 13 = .ok (.iload 4, 2) := by decide +kernel
theorem dX7_dueTo_15 : decode cX7_dueTo 15 = .ok (.invokevirtual 176, 3) := by decide +kernel
theorem dX7_dueTo_18 : decode cX7_dueTo 18 = .ok (.iconst 0, 1) := by decide +kernel
theorem dX7_dueTo_19 : decode cX7_dueTo 19 = .ok (.istore 5, 2) := by decide +kernel
theorem dX7_dueTo_21 : decode cX7_dueTo 21 = .ok (.iload 5, 2) := by decide +kernel
theorem dX7_dueTo_23 : decode cX7_dueTo 23 = .ok (.aload_n 0, 1) := by decide +kernel
theorem dX7_dueTo_24 : decode cX7_dueTo 24 = .ok (.getfield 159, 3) := by decide +kernel
theorem dX7_dueTo_27 : decode cX7_dueTo 27 = .ok (.if_icmp .ge 36, 3) := by decide +kernel
theorem dX7_dueTo_30 : decode cX7_dueTo 30 = .ok (.lload_n 2, 1) := by decide +kernel
theorem dX7_dueTo_31 : decode cX7_dueTo 31 = .ok (.aload_n 0, 1) := by decide +kernel
theorem dX7_dueTo_32 : decode cX7_dueTo 32 = .ok (.iload 5, 2) := by decide +kernel
theorem dX7_dueTo_34 : decode cX7_dueTo 34 = .ok (.invokevirtual 179, 3) := by decide +kernel
theorem dX7_dueTo_37 : decode cX7_dueTo 37 = .ok (.ifCond .eq 17, 3) := by decide +kernel
theorem dX7_dueTo_40 : decode cX7_dueTo 40 = .ok (.aload_n 0, 1) := by decide +kernel
theorem dX7_dueTo_41 : decode cX7_dueTo 41 = .ok (.getfield 100, 3) := by decide +kernel
theorem dX7_dueTo_44 : decode cX7_dueTo 44 = .ok (.iconst 4, 1) := by decide +kernel
theorem dX7_dueTo_45 : decode cX7_dueTo 45 = .ok (.iload 5, 2) := by decide +kernel
theorem dX7_dueTo_47 : decode cX7_dueTo 47 = .ok (.imul, 1) := by decide +kernel
theorem dX7_dueTo_48 : decode cX7_dueTo 48 = .ok (.iload_n 1, 1) := by decide +kernel
theorem dX7_dueTo_49 : decode cX7_dueTo 49 = .ok (.iadd, 1) := by decide +kernel
theorem dX7_dueTo_50 : decode cX7_dueTo 50 = .ok (.laload, 1) := by decide +kernel
theorem dX7_dueTo_51 : decode cX7_dueTo 51 = .ok (.goto 4, 3) := by decide +kernel
theorem dX7_dueTo_54 : decode cX7_dueTo 54 = .ok (.lconst 0, 1) := by decide +kernel
theorem dX7_dueTo_55 : decode cX7_dueTo 55 = .ok (.ladd, 1) := by decide +kernel
theorem dX7_dueTo_56 : decode cX7_dueTo 56 = .ok (.lstore_n 2, 1) := by decide +kernel
theorem dX7_dueTo_57 : decode cX7_dueTo 57 = .ok (.iinc 5 1, 3) := by decide +kernel
theorem dX7_dueTo_60 : decode cX7_dueTo 60 = .ok (.goto (-39), 3) := by decide +kernel
theorem dX7_dueTo_63 : decode cX7_dueTo 63 = .ok (.iinc 4 1, 3) := by decide +kernel
theorem dX7_dueTo_66 : decode cX7_dueTo 66 = .ok (.goto (-61), 3) := by decide +kernel
theorem dX7_dueTo_69 : decode cX7_dueTo 69 = .ok (.lload_n 2, 1) := by decide +kernel
theorem dX7_dueTo_70 : decode cX7_dueTo 70 = .ok (.lreturn, 1) := by decide +kernel
theorem dX7_bill_0 : decode cX7_bill 0 = .ok (.aload_n 0, 1) := by decide +kernel
theorem dX7_bill_1 : decode cX7_bill 1 = .ok (.iconst 0, 1) := by decide +kernel
theorem dX7_bill_2 : decode cX7_bill 2 = .ok (.putfield 103, 3) := by decide +kernel
theorem dX7_bill_5 : decode cX7_bill 5 = .ok (.lconst 0, 1) := by decide +kernel
theorem dX7_bill_6 : decode cX7_bill 6 = .ok (.lstore_n 1, 1) := by decide +kernel
theorem dX7_bill_7 : decode cX7_bill 7 = .ok (.iconst 0, 1) := by decide +kernel
theorem dX7_bill_8 : decode cX7_bill 8 = .ok (.istore_n 3, 1) := by decide +kernel
theorem dX7_bill_9 : decode cX7_bill 9 = .ok (.iload_n 3, 1) := by decide +kernel
theorem dX7_bill_10 : decode cX7_bill 10 = .ok (.bipush 10, 2) := by decide +kernel
theorem dX7_bill_12 : decode cX7_bill 12 = .ok (.if_icmp .ge 80, 3) := by decide +kernel
theorem dX7_bill_15 : decode cX7_bill 15 = .ok (.aload_n 0, 1) := by decide +kernel
theorem dX7_bill_16 : decode cX7_bill 16 = .ok (.iload_n 3, 1) := by decide +kernel
theorem dX7_bill_17 : decode cX7_bill 17 = .ok (.invokevirtual 182, 3) := by decide +kernel
theorem dX7_bill_20 : decode cX7_bill 20 = .ok (.lstore 4, 2) := by decide +kernel
theorem dX7_bill_22 : decode cX7_bill 22 = .ok (.lload 4, 2) := by decide +kernel
theorem dX7_bill_24 : decode cX7_bill 24 = .ok (.aload_n 0, 1) := by decide +kernel
theorem dX7_bill_25 : decode cX7_bill 25 = .ok (.getfield 41, 3) := by decide +kernel
theorem dX7_bill_28 : decode cX7_bill 28 = .ok (.iload_n 3, 1) := by decide +kernel
theorem dX7_bill_29 : decode cX7_bill 29 = .ok (.laload, 1) := by decide +kernel
theorem dX7_bill_30 : decode cX7_bill 30 = .ok (.lsub, 1) := by decide +kernel
theorem dX7_bill_31 : decode cX7_bill 31 = .ok (.lstore 6, 2) := by decide +kernel
theorem dX7_bill_33 : decode cX7_bill 33 = .ok (.aload_n 0, 1) := by decide +kernel
theorem dX7_bill_34 : decode cX7_bill 34 = .ok (.getfield 38, 3) := by decide +kernel
theorem dX7_bill_37 : decode cX7_bill 37 = .ok (.iload_n 3, 1) := by decide +kernel
theorem dX7_bill_38 : decode cX7_bill 38 = .ok (.iaload, 1) := by decide +kernel
theorem dX7_bill_39 : decode cX7_bill 39 = .ok (.iconst (-1), 1) := by decide +kernel
theorem dX7_bill_40 : decode cX7_bill 40 = .ok (.if_icmp .ne 17, 3) := by decide +kernel
theorem dX7_bill_43 : decode cX7_bill 43 = .ok (.aload_n 0, 1) := by decide +kernel
theorem dX7_bill_44 : decode cX7_bill 44 = .ok (.getfield 45, 3) := by decide +kernel
theorem dX7_bill_47 : decode cX7_bill 47 = .ok (.iload_n 3, 1) := by decide +kernel
theorem dX7_bill_48 : decode cX7_bill 48 = .ok (.dup2, 1) := by decide +kernel
theorem dX7_bill_49 : decode cX7_bill 49 = .ok (.laload, 1) := by decide +kernel
theorem dX7_bill_50 : decode cX7_bill 50 = .ok (.lload 6, 2) := by decide +kernel
theorem dX7_bill_52 : decode cX7_bill 52 = .ok (.lsub, 1) := by decide +kernel
theorem dX7_bill_53 : decode cX7_bill 53 = .ok (.lastore, 1) := by decide +kernel
theorem dX7_bill_54 : decode cX7_bill 54 = .ok (.goto 19, 3) := by decide +kernel
theorem dX7_bill_57 : decode cX7_bill 57 = .ok (.aload_n 0, 1) := by decide +kernel
theorem dX7_bill_58 : decode cX7_bill 58 = .ok (.getfield 48, 3) := by decide +kernel
theorem dX7_bill_61 : decode cX7_bill 61 = .ok (.aload_n 0, 1) := by decide +kernel
theorem dX7_bill_62 : decode cX7_bill 62 = .ok (.getfield 38, 3) := by decide +kernel
theorem dX7_bill_65 : decode cX7_bill 65 = .ok (.iload_n 3, 1) := by decide +kernel
theorem dX7_bill_66 : decode cX7_bill 66 = .ok (.iaload, 1) := by decide +kernel
theorem dX7_bill_67 : decode cX7_bill 67 = .ok (.dup2, 1) := by decide +kernel
theorem dX7_bill_68 : decode cX7_bill 68 = .ok (.laload, 1) := by decide +kernel
theorem dX7_bill_69 : decode cX7_bill 69 = .ok (.lload 6, 2) := by decide +kernel
theorem dX7_bill_71 : decode cX7_bill 71 = .ok (.lsub, 1) := by decide +kernel
theorem dX7_bill_72 : decode cX7_bill 72 = .ok (.lastore, 1) := by decide +kernel
theorem dX7_bill_73 : decode cX7_bill 73 = .ok (.aload_n 0, 1) := by decide +kernel
theorem dX7_bill_74 : decode cX7_bill 74 = .ok (.getfield 41, 3) := by decide +kernel
theorem dX7_bill_77 : decode cX7_bill 77 = .ok (.iload_n 3, 1) := by decide +kernel
theorem dX7_bill_78 : decode cX7_bill 78 = .ok (.lload 4, 2) := by decide +kernel
theorem dX7_bill_80 : decode cX7_bill 80 = .ok (.lastore, 1) := by decide +kernel
theorem dX7_bill_81 : decode cX7_bill 81 = .ok (.lload_n 1, 1) := by decide +kernel
theorem dX7_bill_82 : decode cX7_bill 82 = .ok (.lload 6, 2) := by decide +kernel
theorem dX7_bill_84 : decode cX7_bill 84 = .ok (.ladd, 1) := by decide +kernel
theorem dX7_bill_85 : decode cX7_bill 85 = .ok (.lstore_n 1, 1) := by decide +kernel
theorem dX7_bill_86 : decode cX7_bill 86 = .ok (.iinc 3 1, 3) := by decide +kernel
theorem dX7_bill_89 : decode cX7_bill 89 = .ok (.goto (-80), 3) := by decide +kernel
theorem dX7_bill_92 : decode cX7_bill 92 = .ok (.iconst 0, 1) := by decide +kernel
theorem dX7_bill_93 : decode cX7_bill 93 = .ok (.istore_n 3, 1) := by decide +kernel
theorem dX7_bill_94 : decode cX7_bill 94 = .ok (.iload_n 3, 1) := by decide +kernel
theorem dX7_bill_95 : decode cX7_bill 95 = .ok (.iconst 4, 1) := by decide +kernel
theorem dX7_bill_96 : decode cX7_bill 96 = .ok (.if_icmp .ge 20, 3) := by decide +kernel
theorem dX7_bill_99 : decode cX7_bill 99 = .ok (.aload_n 0, 1) := by decide +kernel
theorem dX7_bill_100 : decode cX7_bill 100 = .ok (.getfield 51, 3) := by decide +kernel
theorem dX7_bill_103 : decode cX7_bill 103 = .ok (.iload_n 3, 1) := by decide +kernel
theorem dX7_bill_104 : decode cX7_bill 104 = .ok (.aload_n 0, 1) := by decide +kernel
theorem dX7_bill_105 : decode cX7_bill 105 = .ok (.iload_n 3, 1) := by decide +kernel
theorem dX7_bill_106 : decode cX7_bill 106 = .ok (.invokevirtual 186, 3) := by decide +kernel
theorem dX7_bill_109 : decode cX7_bill 109 = .ok (.lastore, 1) := by decide +kernel
theorem dX7_bill_110 : decode cX7_bill 110 = .ok (.iinc 3 1, 3) := by decide +kernel
theorem dX7_bill_113 : decode cX7_bill 113 = .ok (.goto (-19), 3) := by decide +kernel
theorem dX7_bill_116 : decode cX7_bill 116 = .ok (.lload_n 1, 1) := by decide +kernel
theorem dX7_bill_117 : decode cX7_bill 117 = .ok (.lreturn, 1) := by decide +kernel
theorem dX7_distance_0 : decode cX7_distance 0 = .ok (.aload_n 0, 1) := by decide +kernel
theorem dX7_distance_1 : decode cX7_distance 1 = .ok (.aload_n 0, 1) := by decide +kernel
theorem dX7_distance_2 : decode cX7_distance 2 = .ok (.iload_n 1, 1) := by decide +kernel
theorem dX7_distance_3 : decode cX7_distance 3 = .ok (.invokevirtual 127, 3) := by decide +kernel
theorem dX7_distance_6 : decode cX7_distance 6 = .ok (.ifCond .eq 15, 3) := by decide +kernel
theorem dX7_distance_9 : decode cX7_distance 9 = .ok (.aload_n 0, 1) := by decide +kernel
theorem dX7_distance_10 : decode cX7_distance 10 = .ok (.iload_n 2, 1) := by decide +kernel
theorem dX7_distance_11 : decode cX7_distance 11 = .ok (.invokevirtual 127, 3) := by decide +kernel
theorem dX7_distance_14 : decode cX7_distance 14 = .ok (.ifCond .eq 7, 3) := by decide +kernel
theorem dX7_distance_17 : decode cX7_distance 17 = .ok (.iconst 0, 1) := by decide +kernel
theorem dX7_distance_18 : decode cX7_distance 18 = .ok (.goto 4, 3) := by decide +kernel
theorem dX7_distance_21 : decode cX7_distance 21 = .ok (.iconst 1, 1) := by decide +kernel
theorem dX7_distance_22 : decode cX7_distance 22 = .ok (.putfield 103, 3) := by decide +kernel
theorem dX7_distance_25 : decode cX7_distance 25 = .ok (.aload_n 0, 1) := by decide +kernel
theorem dX7_distance_26 : decode cX7_distance 26 = .ok (.getfield 103, 3) := by decide +kernel
theorem dX7_distance_29 : decode cX7_distance 29 = .ok (.ifCond .le 5, 3) := by decide +kernel
theorem dX7_distance_32 : decode cX7_distance 32 = .ok (.iconst 0, 1) := by decide +kernel
theorem dX7_distance_33 : decode cX7_distance 33 = .ok (.ireturn, 1) := by decide +kernel
theorem dX7_distance_34 : decode cX7_distance 34 = .ok (.aload_n 0, 1) := by decide +kernel
theorem dX7_distance_35 : decode cX7_distance 35 = .ok (.iload_n 1, 1) := by decide +kernel
theorem dX7_distance_36 : decode cX7_distance 36 = .ok (.iload_n 2, 1) := by decide +kernel
theorem dX7_distance_37 : decode cX7_distance 37 = .ok (.invokevirtual 120, 3) := by decide +kernel
theorem dX7_distance_40 : decode cX7_distance 40 = .ok (.ldc 116, 2) := by decide +kernel
theorem dX7_distance_42 : decode cX7_distance 42 = .ok (.if_icmp .ge 12, 3) := by decide +kernel
theorem dX7_distance_45 : decode cX7_distance 45 = .ok (.aload_n 0, 1) := by decide +kernel
theorem dX7_distance_46 : decode cX7_distance 46 = .ok (.iload_n 1, 1) := by decide +kernel
theorem dX7_distance_47 : decode cX7_distance 47 = .ok (.iload_n 2, 1) := by decide +kernel
theorem dX7_distance_48 : decode cX7_distance 48 = .ok (.invokevirtual 120, 3) := by decide +kernel
theorem dX7_distance_51 : decode cX7_distance 51 = .ok (.goto 4, 3) := by decide +kernel
theorem dX7_distance_54 : decode cX7_distance 54 = .ok (.iconst (-1), 1) := by decide +kernel
theorem dX7_distance_55 : decode cX7_distance 55 = .ok (.ireturn, 1) := by decide +kernel
theorem dX7_way_0 : decode cX7_way 0 = .ok (.aload_n 0, 1) := by decide +kernel
theorem dX7_way_1 : decode cX7_way 1 = .ok (.aload_n 0, 1) := by decide +kernel
theorem dX7_way_2 : decode cX7_way 2 = .ok (.iload_n 1, 1) := by decide +kernel
theorem dX7_way_3 : decode cX7_way 3 = .ok (.invokevirtual 127, 3) := by decide +kernel
theorem dX7_way_6 : decode cX7_way 6 = .ok (.ifCond .eq 19, 3) := by decide +kernel
theorem dX7_way_9 : decode cX7_way 9 = .ok (.aload_n 0, 1) := by decide +kernel
theorem dX7_way_10 : decode cX7_way 10 = .ok (.iload_n 2, 1) := by decide +kernel
theorem dX7_way_11 : decode cX7_way 11 = .ok (.invokevirtual 127, 3) := by decide +kernel
theorem dX7_way_14 : decode cX7_way 14 = .ok (.ifCond .eq 11, 3) := by decide +kernel
theorem dX7_way_17 : decode cX7_way 17 = .ok (.iload_n 3, 1) := by decide +kernel
theorem dX7_way_18 : decode cX7_way 18 = .ok (.ifCond .lt 7, 3) := by decide +kernel
theorem dX7_way_21 : decode cX7_way 21 = .ok (.iconst 0, 1) := by decide +kernel
theorem dX7_way_22 : decode cX7_way 22 = .ok (.goto 4, 3) := by decide +kernel
theorem dX7_way_25 : decode cX7_way 25 = .ok (.iconst 1, 1) := by decide +kernel
theorem dX7_way_26 : decode cX7_way 26 = .ok (.putfield 103, 3) := by decide +kernel
theorem dX7_way_29 : decode cX7_way 29 = .ok (.aload_n 0, 1) := by decide +kernel
theorem dX7_way_30 : decode cX7_way 30 = .ok (.getfield 103, 3) := by decide +kernel
theorem dX7_way_33 : decode cX7_way 33 = .ok (.ifCond .le 5, 3) := by decide +kernel
theorem dX7_way_36 : decode cX7_way 36 = .ok (.iconst 0, 1) := by decide +kernel
theorem dX7_way_37 : decode cX7_way 37 = .ok (.ireturn, 1) := by decide +kernel
theorem dX7_way_38 : decode cX7_way 38 = .ok (.iload_n 1, 1) := by decide +kernel
theorem dX7_way_39 : decode cX7_way 39 = .ok (.istore 4, 2) := by decide +kernel
theorem dX7_way_41 : decode cX7_way 41 = .ok (.iload_n 3, 1) := by decide +kernel
theorem dX7_way_42 : decode cX7_way 42 = .ok (.istore 5, 2) := by decide +kernel
theorem dX7_way_44 : decode cX7_way 44 = .ok (.aload_n 0, 1) := by decide +kernel
theorem dX7_way_45 : decode cX7_way 45 = .ok (.iload_n 1, 1) := by decide +kernel
theorem dX7_way_46 : decode cX7_way 46 = .ok (.iload_n 2, 1) := by decide +kernel
theorem dX7_way_47 : decode cX7_way 47 = .ok (.invokevirtual 120, 3) := by decide +kernel
theorem dX7_way_50 : decode cX7_way 50 = .ok (.ldc 116, 2) := by decide +kernel
theorem dX7_way_52 : decode cX7_way 52 = .ok (.if_icmp .ge 13, 3) := by decide +kernel
theorem dX7_way_55 : decode cX7_way 55 = .ok (.aload_n 0, 1) := by decide +kernel
theorem dX7_way_56 : decode cX7_way 56 = .ok (.iload 4, 2) := by decide +kernel
theorem dX7_way_58 : decode cX7_way 58 = .ok (.iload_n 2, 1) := by decide +kernel
theorem dX7_way_59 : decode cX7_way 59 = .ok (.invokevirtual 151, 3) := by decide +kernel
theorem dX7_way_62 : decode cX7_way 62 = .ok (.goto 4, 3) := by decide +kernel
theorem dX7_way_65 : decode cX7_way 65 = .ok (.iconst (-1), 1) := by decide +kernel
theorem dX7_way_66 : decode cX7_way 66 = .ok (.istore 6, 2) := by decide +kernel
theorem dX7_way_68 : decode cX7_way 68 = .ok (.iload 6, 2) := by decide +kernel
theorem dX7_way_70 : decode cX7_way 70 = .ok (.iconst (-1), 1) := by decide +kernel
theorem dX7_way_71 : decode cX7_way 71 = .ok (.if_icmp .eq 33, 3) := by decide +kernel
theorem dX7_way_74 : decode cX7_way 74 = .ok (.iload 5, 2) := by decide +kernel
theorem dX7_way_76 : decode cX7_way 76 = .ok (.ifCond .le 28, 3) := by decide +kernel
theorem dX7_way_79 : decode cX7_way 79 = .ok (.aload_n 0, 1) := by decide +kernel
theorem dX7_way_80 : decode cX7_way 80 = .ok (.iload 6, 2) := by decide +kernel
theorem dX7_way_82 : decode cX7_way 82 = .ok (.iload 4, 2) := by decide +kernel
theorem dX7_way_84 : decode cX7_way 84 = .ok (.invokevirtual 156, 3) := by decide +kernel
theorem dX7_way_87 : decode cX7_way 87 = .ok (.istore 4, 2) := by decide +kernel
theorem dX7_way_89 : decode cX7_way 89 = .ok (.aload_n 0, 1) := by decide +kernel
theorem dX7_way_90 : decode cX7_way 90 = .ok (.iload 4, 2) := by decide +kernel
theorem dX7_way_92 : decode cX7_way 92 = .ok (.iload_n 2, 1) := by decide +kernel
theorem dX7_way_93 : decode cX7_way 93 = .ok (.invokevirtual 151, 3) := by decide +kernel
theorem dX7_way_96 : decode cX7_way 96 = .ok (.istore 6, 2) := by decide +kernel
theorem dX7_way_98 : decode cX7_way 98 = .ok (.iinc 5 (-1), 3) := by decide +kernel
theorem dX7_way_101 : decode cX7_way 101 = .ok (.goto (-33), 3) := by decide +kernel
theorem dX7_way_104 : decode cX7_way 104 = .ok (.iload 6, 2) := by decide +kernel
theorem dX7_way_106 : decode cX7_way 106 = .ok (.ireturn, 1) := by decide +kernel
theorem dX7_journeys_0 : decode cX7_journeys 0 = .ok (.aload_n 0, 1) := by decide +kernel
theorem dX7_journeys_1 : decode cX7_journeys 1 = .ok (.iload_n 1, 1) := by decide +kernel
theorem dX7_journeys_2 : decode cX7_journeys 2 = .ok (.invokestatic 132, 3) := by decide +kernel
theorem dX7_journeys_5 : decode cX7_journeys 5 = .ok (.ifCond .eq 7, 3) := by decide +kernel
theorem dX7_journeys_8 : decode cX7_journeys 8 = .ok (.iconst 0, 1) := by decide +kernel
theorem dX7_journeys_9 : decode cX7_journeys 9 = .ok (.goto 4, 3) := by decide +kernel
theorem dX7_journeys_12 : decode cX7_journeys 12 = .ok (.iconst 1, 1) := by decide +kernel
theorem dX7_journeys_13 : decode cX7_journeys 13 = .ok (.putfield 103, 3) := by decide +kernel
theorem dX7_journeys_16 : decode cX7_journeys 16 = .ok (.aload_n 0, 1) := by decide +kernel
theorem dX7_journeys_17 : decode cX7_journeys 17 = .ok (.getfield 103, 3) := by decide +kernel
theorem dX7_journeys_20 : decode cX7_journeys 20 = .ok (.ifCond .le 5, 3) := by decide +kernel
theorem dX7_journeys_23 : decode cX7_journeys 23 = .ok (.iconst 0, 1) := by decide +kernel
theorem dX7_journeys_24 : decode cX7_journeys 24 = .ok (.ireturn, 1) := by decide +kernel
theorem dX7_journeys_25 : decode cX7_journeys 25 = .ok (.aload_n 0, 1) := by decide +kernel
theorem dX7_journeys_26 : decode cX7_journeys 26 = .ok (.iload_n 1, 1) := by decide +kernel
theorem dX7_journeys_27 : decode cX7_journeys 27 = .ok (.invokevirtual 176, 3) := by decide +kernel
theorem dX7_journeys_30 : decode cX7_journeys 30 = .ok (.aload_n 0, 1) := by decide +kernel
theorem dX7_journeys_31 : decode cX7_journeys 31 = .ok (.getfield 159, 3) := by decide +kernel
theorem dX7_journeys_34 : decode cX7_journeys 34 = .ok (.ireturn, 1) := by decide +kernel
theorem dX7_journey_0 : decode cX7_journey 0 = .ok (.aload_n 0, 1) := by decide +kernel
theorem dX7_journey_1 : decode cX7_journey 1 = .ok (.iload_n 1, 1) := by decide +kernel
theorem dX7_journey_2 : decode cX7_journey 2 = .ok (.invokestatic 132, 3) := by decide +kernel
theorem dX7_journey_5 : decode cX7_journey 5 = .ok (.ifCond .eq 7, 3) := by decide +kernel
theorem dX7_journey_8 : decode cX7_journey 8 = .ok (.iconst 0, 1) := by decide +kernel
theorem dX7_journey_9 : decode cX7_journey 9 = .ok (.goto 4, 3) := by decide +kernel
theorem dX7_journey_12 : decode cX7_journey 12 = .ok (.iconst 1, 1) := by decide +kernel
theorem dX7_journey_13 : decode cX7_journey 13 = .ok (.putfield 103, 3) := by decide +kernel
theorem dX7_journey_16 : decode cX7_journey 16 = .ok (.aload_n 0, 1) := by decide +kernel
theorem dX7_journey_17 : decode cX7_journey 17 = .ok (.getfield 103, 3) := by decide +kernel
theorem dX7_journey_20 : decode cX7_journey 20 = .ok (.ifCond .le 5, 3) := by decide +kernel
theorem dX7_journey_23 : decode cX7_journey 23 = .ok (.iconst 0, 1) := by decide +kernel
theorem dX7_journey_24 : decode cX7_journey 24 = .ok (.ireturn, 1) := by decide +kernel
theorem dX7_journey_25 : decode cX7_journey 25 = .ok (.aload_n 0, 1) := by decide +kernel
theorem dX7_journey_26 : decode cX7_journey 26 = .ok (.iload_n 1, 1) := by decide +kernel
theorem dX7_journey_27 : decode cX7_journey 27 = .ok (.invokevirtual 176, 3) := by decide +kernel
theorem dX7_journey_30 : decode cX7_journey 30 = .ok (.aload_n 0, 1) := by decide +kernel
theorem dX7_journey_31 : decode cX7_journey 31 = .ok (.iload_n 2, 1) := by decide +kernel
theorem dX7_journey_32 : decode cX7_journey 32 = .ok (.iconst 0, 1) := by decide +kernel
theorem dX7_journey_33 : decode cX7_journey 33 = .ok (.aload_n 0, 1) := by decide +kernel
theorem dX7_journey_34 : decode cX7_journey 34 = .ok (.getfield 159, 3) := by decide +kernel
theorem dX7_journey_37 : decode cX7_journey 37 = .ok (.iconst 1, 1) := by decide +kernel
theorem dX7_journey_38 : decode cX7_journey 38 = .ok (.isub, 1) := by decide +kernel
theorem dX7_journey_39 : decode cX7_journey 39 = .ok (.invokestatic 109, 3) := by decide +kernel
theorem dX7_journey_42 : decode cX7_journey 42 = .ok (.ifCond .ne 7, 3) := by decide +kernel
theorem dX7_journey_45 : decode cX7_journey 45 = .ok (.iconst 1, 1) := by decide +kernel
theorem dX7_journey_46 : decode cX7_journey 46 = .ok (.goto 18, 3) := by decide +kernel
theorem dX7_journey_49 : decode cX7_journey 49 = .ok (.iload_n 3, 1) := by decide +kernel
theorem dX7_journey_50 : decode cX7_journey 50 = .ok (.iconst 0, 1) := by decide +kernel
theorem dX7_journey_51 : decode cX7_journey 51 = .ok (.bipush 8, 2) := by decide +kernel
theorem dX7_journey_53 : decode cX7_journey 53 = .ok (.invokestatic 109, 3) := by decide +kernel
theorem dX7_journey_56 : decode cX7_journey 56 = .ok (.ifCond .eq 7, 3) := by decide +kernel
theorem dX7_journey_59 : decode cX7_journey 59 = .ok (.iconst 0, 1) := by decide +kernel
theorem dX7_journey_60 : decode cX7_journey 60 = .ok (.goto 4, 3) := by decide +kernel
theorem dX7_journey_63 : decode cX7_journey 63 = .ok (.iconst 2, 1) := by decide +kernel
theorem dX7_journey_64 : decode cX7_journey 64 = .ok (.putfield 103, 3) := by decide +kernel
theorem dX7_journey_67 : decode cX7_journey 67 = .ok (.aload_n 0, 1) := by decide +kernel
theorem dX7_journey_68 : decode cX7_journey 68 = .ok (.getfield 103, 3) := by decide +kernel
theorem dX7_journey_71 : decode cX7_journey 71 = .ok (.ifCond .le 5, 3) := by decide +kernel
theorem dX7_journey_74 : decode cX7_journey 74 = .ok (.iconst 0, 1) := by decide +kernel
theorem dX7_journey_75 : decode cX7_journey 75 = .ok (.ireturn, 1) := by decide +kernel
theorem dX7_journey_76 : decode cX7_journey 76 = .ok (.iload_n 3, 1) := by decide +kernel
theorem dX7_journey_77 : decode cX7_journey 77 = .ok (.iconst 4, 1) := by decide +kernel
theorem dX7_journey_78 : decode cX7_journey 78 = .ok (.if_icmp .le 17, 3) := by decide +kernel
theorem dX7_journey_81 : decode cX7_journey 81 = .ok (.aload_n 0, 1) := by decide +kernel
theorem dX7_journey_82 : decode cX7_journey 82 = .ok (.getfield 100, 3) := by decide +kernel
theorem dX7_journey_85 : decode cX7_journey 85 = .ok (.iconst 4, 1) := by decide +kernel
theorem dX7_journey_86 : decode cX7_journey 86 = .ok (.iload_n 2, 1) := by decide +kernel
theorem dX7_journey_87 : decode cX7_journey 87 = .ok (.imul, 1) := by decide +kernel
theorem dX7_journey_88 : decode cX7_journey 88 = .ok (.iload_n 3, 1) := by decide +kernel
theorem dX7_journey_89 : decode cX7_journey 89 = .ok (.iadd, 1) := by decide +kernel
theorem dX7_journey_90 : decode cX7_journey 90 = .ok (.iconst 5, 1) := by decide +kernel
theorem dX7_journey_91 : decode cX7_journey 91 = .ok (.isub, 1) := by decide +kernel
theorem dX7_journey_92 : decode cX7_journey 92 = .ok (.laload, 1) := by decide +kernel
theorem dX7_journey_93 : decode cX7_journey 93 = .ok (.l2i, 1) := by decide +kernel
theorem dX7_journey_94 : decode cX7_journey 94 = .ok (.ireturn, 1) := by decide +kernel
theorem dX7_journey_95 : decode cX7_journey 95 = .ok (.iload_n 3, 1) := by decide +kernel
theorem dX7_journey_96 : decode cX7_journey 96 = .ok (.ifCond .ne 12, 3) := by decide +kernel
theorem dX7_journey_99 : decode cX7_journey 99 = .ok (.aload_n 0, 1) := by decide +kernel
theorem dX7_journey_100 : decode cX7_journey 100 = .ok (.getfield 85, 3) := by decide +kernel
theorem dX7_journey_103 : decode cX7_journey 103 = .ok (.iload_n 2, 1) := by decide +kernel
theorem dX7_journey_104 : decode cX7_journey 104 = .ok (.iaload, 1) := by decide +kernel
theorem dX7_journey_105 : decode cX7_journey 105 = .ok (.goto 59, 3) := by decide +kernel
theorem dX7_journey_108 : decode cX7_journey 108 = .ok (.iload_n 3, 1) := by decide +kernel
theorem dX7_journey_109 : decode cX7_journey 109 = .ok (.iconst 1, 1) := by decide +kernel
theorem dX7_journey_110 : decode cX7_journey 110 = .ok (.if_icmp .ne 12, 3) := by decide +kernel
theorem dX7_journey_113 : decode cX7_journey 113 = .ok (.aload_n 0, 1) := by decide +kernel
theorem dX7_journey_114 : decode cX7_journey 114 = .ok (.getfield 88, 3) := by decide +kernel
theorem dX7_journey_117 : decode cX7_journey 117 = .ok (.iload_n 2, 1) := by decide +kernel
theorem dX7_journey_118 : decode cX7_journey 118 = .ok (.iaload, 1) := by decide +kernel
theorem dX7_journey_119 : decode cX7_journey 119 = .ok (.goto 45, 3) := by decide +kernel
theorem dX7_journey_122 : decode cX7_journey 122 = .ok (.iload_n 3, 1) := by decide +kernel
theorem dX7_journey_123 : decode cX7_journey 123 = .ok (.iconst 2, 1) := by decide +kernel
theorem dX7_journey_124 : decode cX7_journey 124 = .ok (.if_icmp .ne 12, 3) := by decide +kernel
theorem dX7_journey_127 : decode cX7_journey 127 = .ok (.aload_n 0, 1) := by decide +kernel
theorem dX7_journey_128 : decode cX7_journey 128 = .ok (.getfield 91, 3) := by decide +kernel
theorem dX7_journey_131 : decode cX7_journey 131 = .ok (.iload_n 2, 1) := by decide +kernel
theorem dX7_journey_132 : decode cX7_journey 132 = .ok (.iaload, 1) := by decide +kernel
theorem dX7_journey_133 : decode cX7_journey 133 = .ok (.goto 31, 3) := by decide +kernel
theorem dX7_journey_136 : decode cX7_journey 136 = .ok (.iload_n 3, 1) := by decide +kernel
theorem dX7_journey_137 : decode cX7_journey 137 = .ok (.iconst 3, 1) := by decide +kernel
theorem dX7_journey_138 : decode cX7_journey 138 = .ok (.if_icmp .ne 13, 3) := by decide +kernel
theorem dX7_journey_141 : decode cX7_journey 141 = .ok (.aload_n 0, 1) := by decide +kernel
theorem dX7_journey_142 : decode cX7_journey 142 = .ok (.getfield 97, 3) := by decide +kernel
theorem dX7_journey_145 : decode cX7_journey 145 = .ok (.iload_n 2, 1) := by decide +kernel
theorem dX7_journey_146 : decode cX7_journey 146 = .ok (.laload, 1) := by decide +kernel
theorem dX7_journey_147 : decode cX7_journey 147 = .ok (.l2i, 1) := by decide +kernel
theorem dX7_journey_148 : decode cX7_journey 148 = .ok (.goto 16, 3) := by decide +kernel
theorem dX7_journey_151 : decode cX7_journey 151 = .ok (.aload_n 0, 1) := by decide +kernel
theorem dX7_journey_152 : decode cX7_journey 152 = .ok (.iload_n 2, 1) := by decide +kernel
theorem dX7_journey_153 : decode cX7_journey 153 = .ok (.invokevirtual 179, 3) := by decide +kernel
theorem dX7_journey_156 : decode cX7_journey 156 = .ok (.ifCond .eq 7, 3) := by decide +kernel
theorem dX7_journey_159 : decode cX7_journey 159 = .ok (.iconst 1, 1) := by decide +kernel
theorem dX7_journey_160 : decode cX7_journey 160 = .ok (.goto 4, 3) := by decide +kernel
theorem dX7_journey_163 : decode cX7_journey 163 = .ok (.iconst 0, 1) := by decide +kernel
theorem dX7_journey_164 : decode cX7_journey 164 = .ok (.ireturn, 1) := by decide +kernel
theorem dX7_ofReading_0 : decode cX7_ofReading 0 = .ok (.aload_n 0, 1) := by decide +kernel
theorem dX7_ofReading_1 : decode cX7_ofReading 1 = .ok (.aload_n 0, 1) := by decide +kernel
theorem dX7_ofReading_2 : decode cX7_ofReading 2 = .ok (.iload_n 1, 1) := by decide +kernel
theorem dX7_ofReading_3 : decode cX7_ofReading 3 = .ok (.invokevirtual 144, 3) := by decide +kernel
theorem dX7_ofReading_6 : decode cX7_ofReading 6 = .ok (.ifCond .ne 7, 3) := by decide +kernel
theorem dX7_ofReading_9 : decode cX7_ofReading 9 = .ok (.iconst 1, 1) := by decide +kernel
theorem dX7_ofReading_10 : decode cX7_ofReading 10 = .ok (.goto 17, 3) := by decide +kernel
theorem dX7_ofReading_13 : decode cX7_ofReading 13 = .ok (.iload_n 2, 1) := by decide +kernel
theorem dX7_ofReading_14 : decode cX7_ofReading 14 = .ok (.iconst 0, 1) := by decide +kernel
theorem dX7_ofReading_15 : decode cX7_ofReading 15 = .ok (.iconst 5, 1) := by decide +kernel
theorem dX7_ofReading_16 : decode cX7_ofReading 16 = .ok (.invokestatic 109, 3) := by decide +kernel
theorem dX7_ofReading_19 : decode cX7_ofReading 19 = .ok (.ifCond .eq 7, 3) := by decide +kernel
theorem dX7_ofReading_22 : decode cX7_ofReading 22 = .ok (.iconst 0, 1) := by decide +kernel
theorem dX7_ofReading_23 : decode cX7_ofReading 23 = .ok (.goto 4, 3) := by decide +kernel
theorem dX7_ofReading_26 : decode cX7_ofReading 26 = .ok (.iconst 2, 1) := by decide +kernel
theorem dX7_ofReading_27 : decode cX7_ofReading 27 = .ok (.putfield 103, 3) := by decide +kernel
theorem dX7_ofReading_30 : decode cX7_ofReading 30 = .ok (.aload_n 0, 1) := by decide +kernel
theorem dX7_ofReading_31 : decode cX7_ofReading 31 = .ok (.getfield 103, 3) := by decide +kernel
theorem dX7_ofReading_34 : decode cX7_ofReading 34 = .ok (.ifCond .le 5, 3) := by decide +kernel
theorem dX7_ofReading_37 : decode cX7_ofReading 37 = .ok (.iconst 0, 1) := by decide +kernel
theorem dX7_ofReading_38 : decode cX7_ofReading 38 = .ok (.ireturn, 1) := by decide +kernel
theorem dX7_ofReading_39 : decode cX7_ofReading 39 = .ok (.iload_n 2, 1) := by decide +kernel
theorem dX7_ofReading_40 : decode cX7_ofReading 40 = .ok (.iconst 4, 1) := by decide +kernel
theorem dX7_ofReading_41 : decode cX7_ofReading 41 = .ok (.if_icmp .ge 59, 3) := by decide +kernel
theorem dX7_ofReading_44 : decode cX7_ofReading 44 = .ok (.iload_n 2, 1) := by decide +kernel
theorem dX7_ofReading_45 : decode cX7_ofReading 45 = .ok (.ifCond .ne 12, 3) := by decide +kernel
theorem dX7_ofReading_48 : decode cX7_ofReading 48 = .ok (.aload_n 0, 1) := by decide +kernel
theorem dX7_ofReading_49 : decode cX7_ofReading 49 = .ok (.getfield 63, 3) := by decide +kernel
theorem dX7_ofReading_52 : decode cX7_ofReading 52 = .ok (.iload_n 1, 1) := by decide +kernel
theorem dX7_ofReading_53 : decode cX7_ofReading 53 = .ok (.iaload, 1) := by decide +kernel
theorem dX7_ofReading_54 : decode cX7_ofReading 54 = .ok (.goto 45, 3) := by decide +kernel
theorem dX7_ofReading_57 : decode cX7_ofReading 57 = .ok (.iload_n 2, 1) := by decide +kernel
theorem dX7_ofReading_58 : decode cX7_ofReading 58 = .ok (.iconst 1, 1) := by decide +kernel
theorem dX7_ofReading_59 : decode cX7_ofReading 59 = .ok (.if_icmp .ne 12, 3) := by decide +kernel
theorem dX7_ofReading_62 : decode cX7_ofReading 62 = .ok (.aload_n 0, 1) := by decide +kernel
theorem dX7_ofReading_63 : decode cX7_ofReading 63 = .ok (.getfield 66, 3) := by decide +kernel
theorem dX7_ofReading_66 : decode cX7_ofReading 66 = .ok (.iload_n 1, 1) := by decide +kernel
theorem dX7_ofReading_67 : decode cX7_ofReading 67 = .ok (.iaload, 1) := by decide +kernel
theorem dX7_ofReading_68 : decode cX7_ofReading 68 = .ok (.goto 31, 3) := by decide +kernel
theorem dX7_ofReading_71 : decode cX7_ofReading 71 = .ok (.iload_n 2, 1) := by decide +kernel
theorem dX7_ofReading_72 : decode cX7_ofReading 72 = .ok (.iconst 2, 1) := by decide +kernel
theorem dX7_ofReading_73 : decode cX7_ofReading 73 = .ok (.if_icmp .ne 12, 3) := by decide +kernel
theorem dX7_ofReading_76 : decode cX7_ofReading 76 = .ok (.aload_n 0, 1) := by decide +kernel
theorem dX7_ofReading_77 : decode cX7_ofReading 77 = .ok (.getfield 69, 3) := by decide +kernel
theorem dX7_ofReading_80 : decode cX7_ofReading 80 = .ok (.iload_n 1, 1) := by decide +kernel
theorem dX7_ofReading_81 : decode cX7_ofReading 81 = .ok (.iaload, 1) := by decide +kernel
theorem dX7_ofReading_82 : decode cX7_ofReading 82 = .ok (.goto 17, 3) := by decide +kernel
theorem dX7_ofReading_85 : decode cX7_ofReading 85 = .ok (.aload_n 0, 1) := by decide +kernel
theorem dX7_ofReading_86 : decode cX7_ofReading 86 = .ok (.getfield 72, 3) := by decide +kernel
theorem dX7_ofReading_89 : decode cX7_ofReading 89 = .ok (.iload_n 1, 1) := by decide +kernel
theorem dX7_ofReading_90 : decode cX7_ofReading 90 = .ok (.baload, 1) := by decide +kernel
theorem dX7_ofReading_91 : decode cX7_ofReading 91 = .ok (.ifCond .eq 7, 3) := by decide +kernel
theorem dX7_ofReading_94 : decode cX7_ofReading 94 = .ok (.iconst 1, 1) := by decide +kernel
theorem dX7_ofReading_95 : decode cX7_ofReading 95 = .ok (.goto 4, 3) := by decide +kernel
theorem dX7_ofReading_98 : decode cX7_ofReading 98 = .ok (.iconst 0, 1) := by decide +kernel
theorem dX7_ofReading_99 : decode cX7_ofReading 99 = .ok (.ireturn, 1) := by decide +kernel
theorem dX7_ofReading_100 : decode cX7_ofReading 100 = .ok (.aload_n 0, 1) := by decide +kernel
theorem dX7_ofReading_101 : decode cX7_ofReading 101 = .ok (.aload_n 0, 1) := by decide +kernel
theorem dX7_ofReading_102 : decode cX7_ofReading 102 = .ok (.getfield 66, 3) := by decide +kernel
theorem dX7_ofReading_105 : decode cX7_ofReading 105 = .ok (.iload_n 1, 1) := by decide +kernel
theorem dX7_ofReading_106 : decode cX7_ofReading 106 = .ok (.iaload, 1) := by decide +kernel
theorem dX7_ofReading_107 : decode cX7_ofReading 107 = .ok (.invokevirtual 176, 3) := by decide +kernel
theorem dX7_ofReading_110 : decode cX7_ofReading 110 = .ok (.iload_n 2, 1) := by decide +kernel
theorem dX7_ofReading_111 : decode cX7_ofReading 111 = .ok (.iconst 5, 1) := by decide +kernel
theorem dX7_ofReading_112 : decode cX7_ofReading 112 = .ok (.if_icmp .ne 12, 3) := by decide +kernel
theorem dX7_ofReading_115 : decode cX7_ofReading 115 = .ok (.aload_n 0, 1) := by decide +kernel
theorem dX7_ofReading_116 : decode cX7_ofReading 116 = .ok (.getfield 79, 3) := by decide +kernel
theorem dX7_ofReading_119 : decode cX7_ofReading 119 = .ok (.iload_n 1, 1) := by decide +kernel
theorem dX7_ofReading_120 : decode cX7_ofReading 120 = .ok (.iaload, 1) := by decide +kernel
theorem dX7_ofReading_121 : decode cX7_ofReading 121 = .ok (.goto 17, 3) := by decide +kernel
theorem dX7_ofReading_124 : decode cX7_ofReading 124 = .ok (.aload_n 0, 1) := by decide +kernel
theorem dX7_ofReading_125 : decode cX7_ofReading 125 = .ok (.getfield 76, 3) := by decide +kernel
theorem dX7_ofReading_128 : decode cX7_ofReading 128 = .ok (.iload_n 1, 1) := by decide +kernel
theorem dX7_ofReading_129 : decode cX7_ofReading 129 = .ok (.baload, 1) := by decide +kernel
theorem dX7_ofReading_130 : decode cX7_ofReading 130 = .ok (.ifCond .eq 7, 3) := by decide +kernel
theorem dX7_ofReading_133 : decode cX7_ofReading 133 = .ok (.iconst 1, 1) := by decide +kernel
theorem dX7_ofReading_134 : decode cX7_ofReading 134 = .ok (.goto 4, 3) := by decide +kernel
theorem dX7_ofReading_137 : decode cX7_ofReading 137 = .ok (.iconst 0, 1) := by decide +kernel
theorem dX7_ofReading_138 : decode cX7_ofReading 138 = .ok (.ireturn, 1) := by decide +kernel
theorem dX7_due_0 : decode cX7_due 0 = .ok (.aload_n 0, 1) := by decide +kernel
theorem dX7_due_1 : decode cX7_due 1 = .ok (.iload_n 1, 1) := by decide +kernel
theorem dX7_due_2 : decode cX7_due 2 = .ok (.invokestatic 132, 3) := by decide +kernel
theorem dX7_due_5 : decode cX7_due 5 = .ok (.ifCond .eq 7, 3) := by decide +kernel
theorem dX7_due_8 : decode cX7_due 8 = .ok (.iconst 0, 1) := by decide +kernel
theorem dX7_due_9 : decode cX7_due 9 = .ok (.goto 4, 3) := by decide +kernel
theorem dX7_due_12 : decode cX7_due 12 = .ok (.iconst 1, 1) := by decide +kernel
theorem dX7_due_13 : decode cX7_due 13 = .ok (.putfield 103, 3) := by decide +kernel
theorem dX7_due_16 : decode cX7_due 16 = .ok (.aload_n 0, 1) := by decide +kernel
theorem dX7_due_17 : decode cX7_due 17 = .ok (.getfield 103, 3) := by decide +kernel
theorem dX7_due_20 : decode cX7_due 20 = .ok (.ifCond .le 7, 3) := by decide +kernel
theorem dX7_due_23 : decode cX7_due 23 = .ok (.lconst 0, 1) := by decide +kernel
theorem dX7_due_24 : decode cX7_due 24 = .ok (.goto 8, 3) := by decide +kernel
theorem dX7_due_27 : decode cX7_due 27 = .ok (.aload_n 0, 1) := by decide +kernel
theorem dX7_due_28 : decode cX7_due 28 = .ok (.iload_n 1, 1) := by decide +kernel
theorem dX7_due_29 : decode cX7_due 29 = .ok (.invokevirtual 182, 3) := by decide +kernel
theorem dX7_due_32 : decode cX7_due 32 = .ok (.lreturn, 1) := by decide +kernel
theorem dX7_billed_0 : decode cX7_billed 0 = .ok (.aload_n 0, 1) := by decide +kernel
theorem dX7_billed_1 : decode cX7_billed 1 = .ok (.iload_n 1, 1) := by decide +kernel
theorem dX7_billed_2 : decode cX7_billed 2 = .ok (.invokestatic 132, 3) := by decide +kernel
theorem dX7_billed_5 : decode cX7_billed 5 = .ok (.ifCond .eq 7, 3) := by decide +kernel
theorem dX7_billed_8 : decode cX7_billed 8 = .ok (.iconst 0, 1) := by decide +kernel
theorem dX7_billed_9 : decode cX7_billed 9 = .ok (.goto 4, 3) := by decide +kernel
theorem dX7_billed_12 : decode cX7_billed 12 = .ok (.iconst 1, 1) := by decide +kernel
theorem dX7_billed_13 : decode cX7_billed 13 = .ok (.putfield 103, 3) := by decide +kernel
theorem dX7_billed_16 : decode cX7_billed 16 = .ok (.aload_n 0, 1) := by decide +kernel
theorem dX7_billed_17 : decode cX7_billed 17 = .ok (.getfield 103, 3) := by decide +kernel
theorem dX7_billed_20 : decode cX7_billed 20 = .ok (.ifCond .le 7, 3) := by decide +kernel
theorem dX7_billed_23 : decode cX7_billed 23 = .ok (.lconst 0, 1) := by decide +kernel
theorem dX7_billed_24 : decode cX7_billed 24 = .ok (.goto 9, 3) := by decide +kernel
theorem dX7_billed_27 : decode cX7_billed 27 = .ok (.aload_n 0, 1) := by decide +kernel
theorem dX7_billed_28 : decode cX7_billed 28 = .ok (.getfield 41, 3) := by decide +kernel
theorem dX7_billed_31 : decode cX7_billed 31 = .ok (.iload_n 1, 1) := by decide +kernel
theorem dX7_billed_32 : decode cX7_billed 32 = .ok (.laload, 1) := by decide +kernel
theorem dX7_billed_33 : decode cX7_billed 33 = .ok (.lreturn, 1) := by decide +kernel
theorem dX7_wallet_0 : decode cX7_wallet 0 = .ok (.aload_n 0, 1) := by decide +kernel
theorem dX7_wallet_1 : decode cX7_wallet 1 = .ok (.iload_n 1, 1) := by decide +kernel
theorem dX7_wallet_2 : decode cX7_wallet 2 = .ok (.invokestatic 135, 3) := by decide +kernel
theorem dX7_wallet_5 : decode cX7_wallet 5 = .ok (.ifCond .eq 7, 3) := by decide +kernel
theorem dX7_wallet_8 : decode cX7_wallet 8 = .ok (.iconst 0, 1) := by decide +kernel
theorem dX7_wallet_9 : decode cX7_wallet 9 = .ok (.goto 4, 3) := by decide +kernel
theorem dX7_wallet_12 : decode cX7_wallet 12 = .ok (.iconst 1, 1) := by decide +kernel
theorem dX7_wallet_13 : decode cX7_wallet 13 = .ok (.putfield 103, 3) := by decide +kernel
theorem dX7_wallet_16 : decode cX7_wallet 16 = .ok (.aload_n 0, 1) := by decide +kernel
theorem dX7_wallet_17 : decode cX7_wallet 17 = .ok (.getfield 103, 3) := by decide +kernel
theorem dX7_wallet_20 : decode cX7_wallet 20 = .ok (.ifCond .le 7, 3) := by decide +kernel
theorem dX7_wallet_23 : decode cX7_wallet 23 = .ok (.lconst 0, 1) := by decide +kernel
theorem dX7_wallet_24 : decode cX7_wallet 24 = .ok (.goto 9, 3) := by decide +kernel
theorem dX7_wallet_27 : decode cX7_wallet 27 = .ok (.aload_n 0, 1) := by decide +kernel
theorem dX7_wallet_28 : decode cX7_wallet 28 = .ok (.getfield 48, 3) := by decide +kernel
theorem dX7_wallet_31 : decode cX7_wallet 31 = .ok (.iload_n 1, 1) := by decide +kernel
theorem dX7_wallet_32 : decode cX7_wallet 32 = .ok (.laload, 1) := by decide +kernel
theorem dX7_wallet_33 : decode cX7_wallet 33 = .ok (.lreturn, 1) := by decide +kernel
theorem dX7_own_0 : decode cX7_own 0 = .ok (.aload_n 0, 1) := by decide +kernel
theorem dX7_own_1 : decode cX7_own 1 = .ok (.iload_n 1, 1) := by decide +kernel
theorem dX7_own_2 : decode cX7_own 2 = .ok (.invokestatic 132, 3) := by decide +kernel
theorem dX7_own_5 : decode cX7_own 5 = .ok (.ifCond .eq 7, 3) := by decide +kernel
theorem dX7_own_8 : decode cX7_own 8 = .ok (.iconst 0, 1) := by decide +kernel
theorem dX7_own_9 : decode cX7_own 9 = .ok (.goto 4, 3) := by decide +kernel
theorem dX7_own_12 : decode cX7_own 12 = .ok (.iconst 1, 1) := by decide +kernel
theorem dX7_own_13 : decode cX7_own 13 = .ok (.putfield 103, 3) := by decide +kernel
theorem dX7_own_16 : decode cX7_own 16 = .ok (.aload_n 0, 1) := by decide +kernel
theorem dX7_own_17 : decode cX7_own 17 = .ok (.getfield 103, 3) := by decide +kernel
theorem dX7_own_20 : decode cX7_own 20 = .ok (.ifCond .le 7, 3) := by decide +kernel
theorem dX7_own_23 : decode cX7_own 23 = .ok (.lconst 0, 1) := by decide +kernel
theorem dX7_own_24 : decode cX7_own 24 = .ok (.goto 9, 3) := by decide +kernel
theorem dX7_own_27 : decode cX7_own 27 = .ok (.aload_n 0, 1) := by decide +kernel
theorem dX7_own_28 : decode cX7_own 28 = .ok (.getfield 45, 3) := by decide +kernel
theorem dX7_own_31 : decode cX7_own 31 = .ok (.iload_n 1, 1) := by decide +kernel
theorem dX7_own_32 : decode cX7_own 32 = .ok (.laload, 1) := by decide +kernel
theorem dX7_own_33 : decode cX7_own 33 = .ok (.lreturn, 1) := by decide +kernel
theorem dX7_share_0 : decode cX7_share 0 = .ok (.aload_n 0, 1) := by decide +kernel
theorem dX7_share_1 : decode cX7_share 1 = .ok (.iload_n 1, 1) := by decide +kernel
theorem dX7_share_2 : decode cX7_share 2 = .ok (.iconst 0, 1) := by decide +kernel
theorem dX7_share_3 : decode cX7_share 3 = .ok (.iconst 3, 1) := by decide +kernel
theorem dX7_share_4 : decode cX7_share 4 = .ok (.invokestatic 109, 3) := by decide +kernel
theorem dX7_share_7 : decode cX7_share 7 = .ok (.ifCond .eq 7, 3) := by decide +kernel
theorem dX7_share_10 : decode cX7_share 10 = .ok (.iconst 0, 1) := by decide +kernel
theorem dX7_share_11 : decode cX7_share 11 = .ok (.goto 4, 3) := by decide +kernel
theorem dX7_share_14 : decode cX7_share 14 = .ok (.iconst 1, 1) := by decide +kernel
theorem dX7_share_15 : decode cX7_share 15 = .ok (.putfield 103, 3) := by decide +kernel
theorem dX7_share_18 : decode cX7_share 18 = .ok (.aload_n 0, 1) := by decide +kernel
theorem dX7_share_19 : decode cX7_share 19 = .ok (.getfield 103, 3) := by decide +kernel
theorem dX7_share_22 : decode cX7_share 22 = .ok (.ifCond .le 7, 3) := by decide +kernel
theorem dX7_share_25 : decode cX7_share 25 = .ok (.lconst 0, 1) := by decide +kernel
theorem dX7_share_26 : decode cX7_share 26 = .ok (.goto 21, 3) := by decide +kernel
theorem dX7_share_29 : decode cX7_share 29 = .ok (.iload_n 2, 1) := by decide +kernel
theorem dX7_share_30 : decode cX7_share 30 = .ok (.ifCond .eq 11, 3) := by decide +kernel
theorem dX7_share_33 : decode cX7_share 33 = .ok (.aload_n 0, 1) := by decide +kernel
theorem dX7_share_34 : decode cX7_share 34 = .ok (.iload_n 1, 1) := by decide +kernel
theorem dX7_share_35 : decode cX7_share 35 = .ok (.invokevirtual 186, 3) := by decide +kernel
theorem dX7_share_38 : decode cX7_share 38 = .ok (.goto 9, 3) := by decide +kernel
theorem dX7_share_41 : decode cX7_share 41 = .ok (.aload_n 0, 1) := by decide +kernel
theorem dX7_share_42 : decode cX7_share 42 = .ok (.getfield 51, 3) := by decide +kernel
theorem dX7_share_45 : decode cX7_share 45 = .ok (.iload_n 1, 1) := by decide +kernel
theorem dX7_share_46 : decode cX7_share 46 = .ok (.laload, 1) := by decide +kernel
theorem dX7_share_47 : decode cX7_share 47 = .ok (.lreturn, 1) := by decide +kernel
end
section
theorem dL_gate_0 : decode cL_gate 0 = .ok (.aload_n 1, 1) := by decide +kernel
theorem dL_gate_1 : decode cL_gate 1 = .ok (.iconst 0, 1) := by decide +kernel
theorem dL_gate_2 : decode cL_gate 2 = .ok (.aload_n 0, 1) := by decide +kernel
theorem dL_gate_3 : decode cL_gate 3 = .ok (.invokevirtual 7, 3) := by decide +kernel
theorem dL_gate_6 : decode cL_gate 6 = .ok (.i2l, 1) := by decide +kernel
theorem dL_gate_7 : decode cL_gate 7 = .ok (.lastore, 1) := by decide +kernel
theorem dL_gate_8 : decode cL_gate 8 = .ok (.goto 6, 3) := by decide +kernel
theorem dL_gate_11 : decode cL_gate 11 = .ok (.astore_n 2, 1) := by decide +kernel
theorem dL_gate_12 : decode cL_gate 12 = .ok (.iconst 1, 1) := by decide +kernel
theorem dL_gate_13 : decode cL_gate 13 = .ok (.ireturn, 1) := by decide +kernel
theorem dL_gate_14 : decode cL_gate 14 = .ok (.iconst 0, 1) := by decide +kernel
theorem dL_gate_15 : decode cL_gate 15 = .ok (.ireturn, 1) := by decide +kernel
theorem dL_road_0 : decode cL_road 0 = .ok (.aload 5, 2) := by decide +kernel
theorem dL_road_2 : decode cL_road 2 = .ok (.iconst 0, 1) := by decide +kernel
theorem dL_road_3 : decode cL_road 3 = .ok (.aload_n 0, 1) := by decide +kernel
theorem dL_road_4 : decode cL_road 4 = .ok (.iload_n 1, 1) := by decide +kernel
theorem dL_road_5 : decode cL_road 5 = .ok (.iload_n 2, 1) := by decide +kernel
theorem dL_road_6 : decode cL_road 6 = .ok (.iload_n 3, 1) := by decide +kernel
theorem dL_road_7 : decode cL_road 7 = .ok (.iload 4, 2) := by decide +kernel
theorem dL_road_9 : decode cL_road 9 = .ok (.invokevirtual 15, 3) := by decide +kernel
theorem dL_road_12 : decode cL_road 12 = .ok (.i2l, 1) := by decide +kernel
theorem dL_road_13 : decode cL_road 13 = .ok (.lastore, 1) := by decide +kernel
theorem dL_road_14 : decode cL_road 14 = .ok (.goto 15, 3) := by decide +kernel
theorem dL_road_17 : decode cL_road 17 = .ok (.astore 6, 2) := by decide +kernel
theorem dL_road_19 : decode cL_road 19 = .ok (.iconst 1, 1) := by decide +kernel
theorem dL_road_20 : decode cL_road 20 = .ok (.ireturn, 1) := by decide +kernel
theorem dL_road_21 : decode cL_road 21 = .ok (.astore 6, 2) := by decide +kernel
theorem dL_road_23 : decode cL_road 23 = .ok (.iconst 2, 1) := by decide +kernel
theorem dL_road_24 : decode cL_road 24 = .ok (.ireturn, 1) := by decide +kernel
theorem dL_road_25 : decode cL_road 25 = .ok (.astore 6, 2) := by decide +kernel
theorem dL_road_27 : decode cL_road 27 = .ok (.iconst 3, 1) := by decide +kernel
theorem dL_road_28 : decode cL_road 28 = .ok (.ireturn, 1) := by decide +kernel
theorem dL_road_29 : decode cL_road 29 = .ok (.iconst 0, 1) := by decide +kernel
theorem dL_road_30 : decode cL_road 30 = .ok (.ireturn, 1) := by decide +kernel
theorem dL_rate_0 : decode cL_rate 0 = .ok (.aload_n 0, 1) := by decide +kernel
theorem dL_rate_1 : decode cL_rate 1 = .ok (.iload_n 1, 1) := by decide +kernel
theorem dL_rate_2 : decode cL_rate 2 = .ok (.iload_n 2, 1) := by decide +kernel
theorem dL_rate_3 : decode cL_rate 3 = .ok (.iload_n 3, 1) := by decide +kernel
theorem dL_rate_4 : decode cL_rate 4 = .ok (.invokevirtual 23, 3) := by decide +kernel
theorem dL_rate_7 : decode cL_rate 7 = .ok (.goto 7, 3) := by decide +kernel
theorem dL_rate_10 : decode cL_rate 10 = .ok (.astore 4, 2) := by decide +kernel
theorem dL_rate_12 : decode cL_rate 12 = .ok (.iconst 1, 1) := by decide +kernel
theorem dL_rate_13 : decode cL_rate 13 = .ok (.ireturn, 1) := by decide +kernel
theorem dL_rate_14 : decode cL_rate 14 = .ok (.iconst 0, 1) := by decide +kernel
theorem dL_rate_15 : decode cL_rate 15 = .ok (.ireturn, 1) := by decide +kernel
theorem dL_most_0 : decode cL_most 0 = .ok (.aload_n 2, 1) := by decide +kernel
theorem dL_most_1 : decode cL_most 1 = .ok (.iconst 0, 1) := by decide +kernel
theorem dL_most_2 : decode cL_most 2 = .ok (.aload_n 0, 1) := by decide +kernel
theorem dL_most_3 : decode cL_most 3 = .ok (.iload_n 1, 1) := by decide +kernel
theorem dL_most_4 : decode cL_most 4 = .ok (.invokevirtual 27, 3) := by decide +kernel
theorem dL_most_7 : decode cL_most 7 = .ok (.i2l, 1) := by decide +kernel
theorem dL_most_8 : decode cL_most 8 = .ok (.lastore, 1) := by decide +kernel
theorem dL_most_9 : decode cL_most 9 = .ok (.goto 6, 3) := by decide +kernel
theorem dL_most_12 : decode cL_most 12 = .ok (.astore_n 3, 1) := by decide +kernel
theorem dL_most_13 : decode cL_most 13 = .ok (.iconst 1, 1) := by decide +kernel
theorem dL_most_14 : decode cL_most 14 = .ok (.ireturn, 1) := by decide +kernel
theorem dL_most_15 : decode cL_most 15 = .ok (.iconst 0, 1) := by decide +kernel
theorem dL_most_16 : decode cL_most 16 = .ok (.ireturn, 1) := by decide +kernel
theorem dL_plate_0 : decode cL_plate 0 = .ok (.aload_n 0, 1) := by decide +kernel
theorem dL_plate_1 : decode cL_plate 1 = .ok (.iload_n 1, 1) := by decide +kernel
theorem dL_plate_2 : decode cL_plate 2 = .ok (.iload_n 2, 1) := by decide +kernel
theorem dL_plate_3 : decode cL_plate 3 = .ok (.iload_n 3, 1) := by decide +kernel
theorem dL_plate_4 : decode cL_plate 4 = .ok (.invokevirtual 31, 3) := by decide +kernel
theorem dL_plate_7 : decode cL_plate 7 = .ok (.goto 11, 3) := by decide +kernel
theorem dL_plate_10 : decode cL_plate 10 = .ok (.astore 4, 2) := by decide +kernel
theorem dL_plate_12 : decode cL_plate 12 = .ok (.iconst 1, 1) := by decide +kernel
theorem dL_plate_13 : decode cL_plate 13 = .ok (.ireturn, 1) := by decide +kernel
theorem dL_plate_14 : decode cL_plate 14 = .ok (.astore 4, 2) := by decide +kernel
theorem dL_plate_16 : decode cL_plate 16 = .ok (.iconst 2, 1) := by decide +kernel
theorem dL_plate_17 : decode cL_plate 17 = .ok (.ireturn, 1) := by decide +kernel
theorem dL_plate_18 : decode cL_plate 18 = .ok (.iconst 0, 1) := by decide +kernel
theorem dL_plate_19 : decode cL_plate 19 = .ok (.ireturn, 1) := by decide +kernel
theorem dL_top_0 : decode cL_top 0 = .ok (.aload_n 3, 1) := by decide +kernel
theorem dL_top_1 : decode cL_top 1 = .ok (.iconst 0, 1) := by decide +kernel
theorem dL_top_2 : decode cL_top 2 = .ok (.aload_n 0, 1) := by decide +kernel
theorem dL_top_3 : decode cL_top 3 = .ok (.iload_n 1, 1) := by decide +kernel
theorem dL_top_4 : decode cL_top 4 = .ok (.iload_n 2, 1) := by decide +kernel
theorem dL_top_5 : decode cL_top 5 = .ok (.invokevirtual 34, 3) := by decide +kernel
theorem dL_top_8 : decode cL_top 8 = .ok (.lastore, 1) := by decide +kernel
theorem dL_top_9 : decode cL_top 9 = .ok (.goto 11, 3) := by decide +kernel
theorem dL_top_12 : decode cL_top 12 = .ok (.astore 4, 2) := by decide +kernel
theorem dL_top_14 : decode cL_top 14 = .ok (.iconst 1, 1) := by decide +kernel
theorem dL_top_15 : decode cL_top 15 = .ok (.ireturn, 1) := by decide +kernel
theorem dL_top_16 : decode cL_top 16 = .ok (.astore 4, 2) := by decide +kernel
theorem dL_top_18 : decode cL_top 18 = .ok (.iconst 2, 1) := by decide +kernel
theorem dL_top_19 : decode cL_top 19 = .ok (.ireturn, 1) := by decide +kernel
theorem dL_top_20 : decode cL_top 20 = .ok (.iconst 0, 1) := by decide +kernel
theorem dL_top_21 : decode cL_top 21 = .ok (.ireturn, 1) := by decide +kernel
theorem dL_exempt_0 : decode cL_exempt 0 = .ok (.aload 4, 2) := by decide +kernel
theorem dL_exempt_2 : decode cL_exempt 2 = .ok (.iconst 0, 1) := by decide +kernel
theorem dL_exempt_3 : decode cL_exempt 3 = .ok (.aload_n 0, 1) := by decide +kernel
theorem dL_exempt_4 : decode cL_exempt 4 = .ok (.iload_n 1, 1) := by decide +kernel
theorem dL_exempt_5 : decode cL_exempt 5 = .ok (.iload_n 2, 1) := by decide +kernel
theorem dL_exempt_6 : decode cL_exempt 6 = .ok (.iload_n 3, 1) := by decide +kernel
theorem dL_exempt_7 : decode cL_exempt 7 = .ok (.invokevirtual 38, 3) := by decide +kernel
theorem dL_exempt_10 : decode cL_exempt 10 = .ok (.i2l, 1) := by decide +kernel
theorem dL_exempt_11 : decode cL_exempt 11 = .ok (.lastore, 1) := by decide +kernel
theorem dL_exempt_12 : decode cL_exempt 12 = .ok (.goto 15, 3) := by decide +kernel
theorem dL_exempt_15 : decode cL_exempt 15 = .ok (.astore 5, 2) := by decide +kernel
theorem dL_exempt_17 : decode cL_exempt 17 = .ok (.iconst 1, 1) := by decide +kernel
theorem dL_exempt_18 : decode cL_exempt 18 = .ok (.ireturn, 1) := by decide +kernel
theorem dL_exempt_19 : decode cL_exempt 19 = .ok (.astore 5, 2) := by decide +kernel
theorem dL_exempt_21 : decode cL_exempt 21 = .ok (.iconst 2, 1) := by decide +kernel
theorem dL_exempt_22 : decode cL_exempt 22 = .ok (.ireturn, 1) := by decide +kernel
theorem dL_exempt_23 : decode cL_exempt 23 = .ok (.astore 5, 2) := by decide +kernel
theorem dL_exempt_25 : decode cL_exempt 25 = .ok (.iconst 3, 1) := by decide +kernel
theorem dL_exempt_26 : decode cL_exempt 26 = .ok (.ireturn, 1) := by decide +kernel
theorem dL_exempt_27 : decode cL_exempt 27 = .ok (.iconst 0, 1) := by decide +kernel
theorem dL_exempt_28 : decode cL_exempt 28 = .ok (.ireturn, 1) := by decide +kernel
theorem dL_read_0 : decode cL_read 0 = .ok (.aload 4, 2) := by decide +kernel
theorem dL_read_2 : decode cL_read 2 = .ok (.iconst 0, 1) := by decide +kernel
theorem dL_read_3 : decode cL_read 3 = .ok (.aload_n 0, 1) := by decide +kernel
theorem dL_read_4 : decode cL_read 4 = .ok (.iload_n 1, 1) := by decide +kernel
theorem dL_read_5 : decode cL_read 5 = .ok (.iload_n 2, 1) := by decide +kernel
theorem dL_read_6 : decode cL_read 6 = .ok (.iload_n 3, 1) := by decide +kernel
theorem dL_read_7 : decode cL_read 7 = .ok (.invokevirtual 42, 3) := by decide +kernel
theorem dL_read_10 : decode cL_read 10 = .ok (.i2l, 1) := by decide +kernel
theorem dL_read_11 : decode cL_read 11 = .ok (.lastore, 1) := by decide +kernel
theorem dL_read_12 : decode cL_read 12 = .ok (.goto 15, 3) := by decide +kernel
theorem dL_read_15 : decode cL_read 15 = .ok (.astore 5, 2) := by decide +kernel
theorem dL_read_17 : decode cL_read 17 = .ok (.iconst 1, 1) := by decide +kernel
theorem dL_read_18 : decode cL_read 18 = .ok (.ireturn, 1) := by decide +kernel
theorem dL_read_19 : decode cL_read 19 = .ok (.astore 5, 2) := by decide +kernel
theorem dL_read_21 : decode cL_read 21 = .ok (.iconst 2, 1) := by decide +kernel
theorem dL_read_22 : decode cL_read 22 = .ok (.ireturn, 1) := by decide +kernel
theorem dL_read_23 : decode cL_read 23 = .ok (.astore 5, 2) := by decide +kernel
theorem dL_read_25 : decode cL_read 25 = .ok (.iconst 3, 1) := by decide +kernel
theorem dL_read_26 : decode cL_read 26 = .ok (.ireturn, 1) := by decide +kernel
theorem dL_read_27 : decode cL_read 27 = .ok (.iconst 0, 1) := by decide +kernel
theorem dL_read_28 : decode cL_read 28 = .ok (.ireturn, 1) := by decide +kernel
theorem dL_strike_0 : decode cL_strike 0 = .ok (.aload_n 0, 1) := by decide +kernel
theorem dL_strike_1 : decode cL_strike 1 = .ok (.iload_n 1, 1) := by decide +kernel
theorem dL_strike_2 : decode cL_strike 2 = .ok (.invokevirtual 45, 3) := by decide +kernel
theorem dL_strike_5 : decode cL_strike 5 = .ok (.goto 9, 3) := by decide +kernel
theorem dL_strike_8 : decode cL_strike 8 = .ok (.astore_n 2, 1) := by decide +kernel
theorem dL_strike_9 : decode cL_strike 9 = .ok (.iconst 1, 1) := by decide +kernel
theorem dL_strike_10 : decode cL_strike 10 = .ok (.ireturn, 1) := by decide +kernel
theorem dL_strike_11 : decode cL_strike 11 = .ok (.astore_n 2, 1) := by decide +kernel
theorem dL_strike_12 : decode cL_strike 12 = .ok (.iconst 2, 1) := by decide +kernel
theorem dL_strike_13 : decode cL_strike 13 = .ok (.ireturn, 1) := by decide +kernel
theorem dL_strike_14 : decode cL_strike 14 = .ok (.iconst 0, 1) := by decide +kernel
theorem dL_strike_15 : decode cL_strike 15 = .ok (.ireturn, 1) := by decide +kernel
theorem dL_pass_0 : decode cL_pass 0 = .ok (.aload_n 2, 1) := by decide +kernel
theorem dL_pass_1 : decode cL_pass 1 = .ok (.iconst 0, 1) := by decide +kernel
theorem dL_pass_2 : decode cL_pass 2 = .ok (.aload_n 0, 1) := by decide +kernel
theorem dL_pass_3 : decode cL_pass 3 = .ok (.iload_n 1, 1) := by decide +kernel
theorem dL_pass_4 : decode cL_pass 4 = .ok (.invokevirtual 49, 3) := by decide +kernel
theorem dL_pass_7 : decode cL_pass 7 = .ok (.i2l, 1) := by decide +kernel
theorem dL_pass_8 : decode cL_pass 8 = .ok (.lastore, 1) := by decide +kernel
theorem dL_pass_9 : decode cL_pass 9 = .ok (.goto 9, 3) := by decide +kernel
theorem dL_pass_12 : decode cL_pass 12 = .ok (.astore_n 3, 1) := by decide +kernel
theorem dL_pass_13 : decode cL_pass 13 = .ok (.iconst 1, 1) := by decide +kernel
theorem dL_pass_14 : decode cL_pass 14 = .ok (.ireturn, 1) := by decide +kernel
theorem dL_pass_15 : decode cL_pass 15 = .ok (.astore_n 3, 1) := by decide +kernel
theorem dL_pass_16 : decode cL_pass 16 = .ok (.iconst 2, 1) := by decide +kernel
theorem dL_pass_17 : decode cL_pass 17 = .ok (.ireturn, 1) := by decide +kernel
theorem dL_pass_18 : decode cL_pass 18 = .ok (.iconst 0, 1) := by decide +kernel
theorem dL_pass_19 : decode cL_pass 19 = .ok (.ireturn, 1) := by decide +kernel
theorem dL_distance_0 : decode cL_distance 0 = .ok (.aload_n 3, 1) := by decide +kernel
theorem dL_distance_1 : decode cL_distance 1 = .ok (.iconst 0, 1) := by decide +kernel
theorem dL_distance_2 : decode cL_distance 2 = .ok (.aload_n 0, 1) := by decide +kernel
theorem dL_distance_3 : decode cL_distance 3 = .ok (.iload_n 1, 1) := by decide +kernel
theorem dL_distance_4 : decode cL_distance 4 = .ok (.iload_n 2, 1) := by decide +kernel
theorem dL_distance_5 : decode cL_distance 5 = .ok (.invokevirtual 52, 3) := by decide +kernel
theorem dL_distance_8 : decode cL_distance 8 = .ok (.i2l, 1) := by decide +kernel
theorem dL_distance_9 : decode cL_distance 9 = .ok (.lastore, 1) := by decide +kernel
theorem dL_distance_10 : decode cL_distance 10 = .ok (.goto 7, 3) := by decide +kernel
theorem dL_distance_13 : decode cL_distance 13 = .ok (.astore 4, 2) := by decide +kernel
theorem dL_distance_15 : decode cL_distance 15 = .ok (.iconst 1, 1) := by decide +kernel
theorem dL_distance_16 : decode cL_distance 16 = .ok (.ireturn, 1) := by decide +kernel
theorem dL_distance_17 : decode cL_distance 17 = .ok (.iconst 0, 1) := by decide +kernel
theorem dL_distance_18 : decode cL_distance 18 = .ok (.ireturn, 1) := by decide +kernel
theorem dL_way_0 : decode cL_way 0 = .ok (.aload 4, 2) := by decide +kernel
theorem dL_way_2 : decode cL_way 2 = .ok (.iconst 0, 1) := by decide +kernel
theorem dL_way_3 : decode cL_way 3 = .ok (.aload_n 0, 1) := by decide +kernel
theorem dL_way_4 : decode cL_way 4 = .ok (.iload_n 1, 1) := by decide +kernel
theorem dL_way_5 : decode cL_way 5 = .ok (.iload_n 2, 1) := by decide +kernel
theorem dL_way_6 : decode cL_way 6 = .ok (.iload_n 3, 1) := by decide +kernel
theorem dL_way_7 : decode cL_way 7 = .ok (.invokevirtual 56, 3) := by decide +kernel
theorem dL_way_10 : decode cL_way 10 = .ok (.i2l, 1) := by decide +kernel
theorem dL_way_11 : decode cL_way 11 = .ok (.lastore, 1) := by decide +kernel
theorem dL_way_12 : decode cL_way 12 = .ok (.goto 7, 3) := by decide +kernel
theorem dL_way_15 : decode cL_way 15 = .ok (.astore 5, 2) := by decide +kernel
theorem dL_way_17 : decode cL_way 17 = .ok (.iconst 1, 1) := by decide +kernel
theorem dL_way_18 : decode cL_way 18 = .ok (.ireturn, 1) := by decide +kernel
theorem dL_way_19 : decode cL_way 19 = .ok (.iconst 0, 1) := by decide +kernel
theorem dL_way_20 : decode cL_way 20 = .ok (.ireturn, 1) := by decide +kernel
theorem dL_journeys_0 : decode cL_journeys 0 = .ok (.aload_n 2, 1) := by decide +kernel
theorem dL_journeys_1 : decode cL_journeys 1 = .ok (.iconst 0, 1) := by decide +kernel
theorem dL_journeys_2 : decode cL_journeys 2 = .ok (.aload_n 0, 1) := by decide +kernel
theorem dL_journeys_3 : decode cL_journeys 3 = .ok (.iload_n 1, 1) := by decide +kernel
theorem dL_journeys_4 : decode cL_journeys 4 = .ok (.invokevirtual 59, 3) := by decide +kernel
theorem dL_journeys_7 : decode cL_journeys 7 = .ok (.i2l, 1) := by decide +kernel
theorem dL_journeys_8 : decode cL_journeys 8 = .ok (.lastore, 1) := by decide +kernel
theorem dL_journeys_9 : decode cL_journeys 9 = .ok (.goto 6, 3) := by decide +kernel
theorem dL_journeys_12 : decode cL_journeys 12 = .ok (.astore_n 3, 1) := by decide +kernel
theorem dL_journeys_13 : decode cL_journeys 13 = .ok (.iconst 1, 1) := by decide +kernel
theorem dL_journeys_14 : decode cL_journeys 14 = .ok (.ireturn, 1) := by decide +kernel
theorem dL_journeys_15 : decode cL_journeys 15 = .ok (.iconst 0, 1) := by decide +kernel
theorem dL_journeys_16 : decode cL_journeys 16 = .ok (.ireturn, 1) := by decide +kernel
theorem dL_journey_0 : decode cL_journey 0 = .ok (.aload 4, 2) := by decide +kernel
theorem dL_journey_2 : decode cL_journey 2 = .ok (.iconst 0, 1) := by decide +kernel
theorem dL_journey_3 : decode cL_journey 3 = .ok (.aload_n 0, 1) := by decide +kernel
theorem dL_journey_4 : decode cL_journey 4 = .ok (.iload_n 1, 1) := by decide +kernel
theorem dL_journey_5 : decode cL_journey 5 = .ok (.iload_n 2, 1) := by decide +kernel
theorem dL_journey_6 : decode cL_journey 6 = .ok (.iload_n 3, 1) := by decide +kernel
theorem dL_journey_7 : decode cL_journey 7 = .ok (.invokevirtual 62, 3) := by decide +kernel
theorem dL_journey_10 : decode cL_journey 10 = .ok (.i2l, 1) := by decide +kernel
theorem dL_journey_11 : decode cL_journey 11 = .ok (.lastore, 1) := by decide +kernel
theorem dL_journey_12 : decode cL_journey 12 = .ok (.goto 11, 3) := by decide +kernel
theorem dL_journey_15 : decode cL_journey 15 = .ok (.astore 5, 2) := by decide +kernel
theorem dL_journey_17 : decode cL_journey 17 = .ok (.iconst 1, 1) := by decide +kernel
theorem dL_journey_18 : decode cL_journey 18 = .ok (.ireturn, 1) := by decide +kernel
theorem dL_journey_19 : decode cL_journey 19 = .ok (.astore 5, 2) := by decide +kernel
theorem dL_journey_21 : decode cL_journey 21 = .ok (.iconst 2, 1) := by decide +kernel
theorem dL_journey_22 : decode cL_journey 22 = .ok (.ireturn, 1) := by decide +kernel
theorem dL_journey_23 : decode cL_journey 23 = .ok (.iconst 0, 1) := by decide +kernel
theorem dL_journey_24 : decode cL_journey 24 = .ok (.ireturn, 1) := by decide +kernel
theorem dL_ofReading_0 : decode cL_ofReading 0 = .ok (.aload_n 3, 1) := by decide +kernel
theorem dL_ofReading_1 : decode cL_ofReading 1 = .ok (.iconst 0, 1) := by decide +kernel
theorem dL_ofReading_2 : decode cL_ofReading 2 = .ok (.aload_n 0, 1) := by decide +kernel
theorem dL_ofReading_3 : decode cL_ofReading 3 = .ok (.iload_n 1, 1) := by decide +kernel
theorem dL_ofReading_4 : decode cL_ofReading 4 = .ok (.iload_n 2, 1) := by decide +kernel
theorem dL_ofReading_5 : decode cL_ofReading 5 = .ok (.invokevirtual 65, 3) := by decide +kernel
theorem dL_ofReading_8 : decode cL_ofReading 8 = .ok (.i2l, 1) := by decide +kernel
theorem dL_ofReading_9 : decode cL_ofReading 9 = .ok (.lastore, 1) := by decide +kernel
theorem dL_ofReading_10 : decode cL_ofReading 10 = .ok (.goto 11, 3) := by decide +kernel
theorem dL_ofReading_13 : decode cL_ofReading 13 = .ok (.astore 4, 2) := by decide +kernel
theorem dL_ofReading_15 : decode cL_ofReading 15 = .ok (.iconst 1, 1) := by decide +kernel
theorem dL_ofReading_16 : decode cL_ofReading 16 = .ok (.ireturn, 1) := by decide +kernel
theorem dL_ofReading_17 : decode cL_ofReading 17 = .ok (.astore 4, 2) := by decide +kernel
theorem dL_ofReading_19 : decode cL_ofReading 19 = .ok (.iconst 2, 1) := by decide +kernel
theorem dL_ofReading_20 : decode cL_ofReading 20 = .ok (.ireturn, 1) := by decide +kernel
theorem dL_ofReading_21 : decode cL_ofReading 21 = .ok (.iconst 0, 1) := by decide +kernel
theorem dL_ofReading_22 : decode cL_ofReading 22 = .ok (.ireturn, 1) := by decide +kernel
theorem dL_due_0 : decode cL_due 0 = .ok (.aload_n 2, 1) := by decide +kernel
theorem dL_due_1 : decode cL_due 1 = .ok (.iconst 0, 1) := by decide +kernel
theorem dL_due_2 : decode cL_due 2 = .ok (.aload_n 0, 1) := by decide +kernel
theorem dL_due_3 : decode cL_due 3 = .ok (.iload_n 1, 1) := by decide +kernel
theorem dL_due_4 : decode cL_due 4 = .ok (.invokevirtual 68, 3) := by decide +kernel
theorem dL_due_7 : decode cL_due 7 = .ok (.lastore, 1) := by decide +kernel
theorem dL_due_8 : decode cL_due 8 = .ok (.goto 6, 3) := by decide +kernel
theorem dL_due_11 : decode cL_due 11 = .ok (.astore_n 3, 1) := by decide +kernel
theorem dL_due_12 : decode cL_due 12 = .ok (.iconst 1, 1) := by decide +kernel
theorem dL_due_13 : decode cL_due 13 = .ok (.ireturn, 1) := by decide +kernel
theorem dL_due_14 : decode cL_due 14 = .ok (.iconst 0, 1) := by decide +kernel
theorem dL_due_15 : decode cL_due 15 = .ok (.ireturn, 1) := by decide +kernel
theorem dL_billed_0 : decode cL_billed 0 = .ok (.aload_n 2, 1) := by decide +kernel
theorem dL_billed_1 : decode cL_billed 1 = .ok (.iconst 0, 1) := by decide +kernel
theorem dL_billed_2 : decode cL_billed 2 = .ok (.aload_n 0, 1) := by decide +kernel
theorem dL_billed_3 : decode cL_billed 3 = .ok (.iload_n 1, 1) := by decide +kernel
theorem dL_billed_4 : decode cL_billed 4 = .ok (.invokevirtual 72, 3) := by decide +kernel
theorem dL_billed_7 : decode cL_billed 7 = .ok (.lastore, 1) := by decide +kernel
theorem dL_billed_8 : decode cL_billed 8 = .ok (.goto 6, 3) := by decide +kernel
theorem dL_billed_11 : decode cL_billed 11 = .ok (.astore_n 3, 1) := by decide +kernel
theorem dL_billed_12 : decode cL_billed 12 = .ok (.iconst 1, 1) := by decide +kernel
theorem dL_billed_13 : decode cL_billed 13 = .ok (.ireturn, 1) := by decide +kernel
theorem dL_billed_14 : decode cL_billed 14 = .ok (.iconst 0, 1) := by decide +kernel
theorem dL_billed_15 : decode cL_billed 15 = .ok (.ireturn, 1) := by decide +kernel
theorem dL_wallet_0 : decode cL_wallet 0 = .ok (.aload_n 2, 1) := by decide +kernel
theorem dL_wallet_1 : decode cL_wallet 1 = .ok (.iconst 0, 1) := by decide +kernel
theorem dL_wallet_2 : decode cL_wallet 2 = .ok (.aload_n 0, 1) := by decide +kernel
theorem dL_wallet_3 : decode cL_wallet 3 = .ok (.iload_n 1, 1) := by decide +kernel
theorem dL_wallet_4 : decode cL_wallet 4 = .ok (.invokevirtual 75, 3) := by decide +kernel
theorem dL_wallet_7 : decode cL_wallet 7 = .ok (.lastore, 1) := by decide +kernel
theorem dL_wallet_8 : decode cL_wallet 8 = .ok (.goto 6, 3) := by decide +kernel
theorem dL_wallet_11 : decode cL_wallet 11 = .ok (.astore_n 3, 1) := by decide +kernel
theorem dL_wallet_12 : decode cL_wallet 12 = .ok (.iconst 1, 1) := by decide +kernel
theorem dL_wallet_13 : decode cL_wallet 13 = .ok (.ireturn, 1) := by decide +kernel
theorem dL_wallet_14 : decode cL_wallet 14 = .ok (.iconst 0, 1) := by decide +kernel
theorem dL_wallet_15 : decode cL_wallet 15 = .ok (.ireturn, 1) := by decide +kernel
theorem dL_own_0 : decode cL_own 0 = .ok (.aload_n 2, 1) := by decide +kernel
theorem dL_own_1 : decode cL_own 1 = .ok (.iconst 0, 1) := by decide +kernel
theorem dL_own_2 : decode cL_own 2 = .ok (.aload_n 0, 1) := by decide +kernel
theorem dL_own_3 : decode cL_own 3 = .ok (.iload_n 1, 1) := by decide +kernel
theorem dL_own_4 : decode cL_own 4 = .ok (.invokevirtual 78, 3) := by decide +kernel
theorem dL_own_7 : decode cL_own 7 = .ok (.lastore, 1) := by decide +kernel
theorem dL_own_8 : decode cL_own 8 = .ok (.goto 6, 3) := by decide +kernel
theorem dL_own_11 : decode cL_own 11 = .ok (.astore_n 3, 1) := by decide +kernel
theorem dL_own_12 : decode cL_own 12 = .ok (.iconst 1, 1) := by decide +kernel
theorem dL_own_13 : decode cL_own 13 = .ok (.ireturn, 1) := by decide +kernel
theorem dL_own_14 : decode cL_own 14 = .ok (.iconst 0, 1) := by decide +kernel
theorem dL_own_15 : decode cL_own 15 = .ok (.ireturn, 1) := by decide +kernel
theorem dL_share_0 : decode cL_share 0 = .ok (.aload_n 3, 1) := by decide +kernel
theorem dL_share_1 : decode cL_share 1 = .ok (.iconst 0, 1) := by decide +kernel
theorem dL_share_2 : decode cL_share 2 = .ok (.aload_n 0, 1) := by decide +kernel
theorem dL_share_3 : decode cL_share 3 = .ok (.iload_n 1, 1) := by decide +kernel
theorem dL_share_4 : decode cL_share 4 = .ok (.iload_n 2, 1) := by decide +kernel
theorem dL_share_5 : decode cL_share 5 = .ok (.invokevirtual 81, 3) := by decide +kernel
theorem dL_share_8 : decode cL_share 8 = .ok (.lastore, 1) := by decide +kernel
theorem dL_share_9 : decode cL_share 9 = .ok (.goto 7, 3) := by decide +kernel
theorem dL_share_12 : decode cL_share 12 = .ok (.astore 4, 2) := by decide +kernel
theorem dL_share_14 : decode cL_share 14 = .ok (.iconst 1, 1) := by decide +kernel
theorem dL_share_15 : decode cL_share 15 = .ok (.ireturn, 1) := by decide +kernel
theorem dL_share_16 : decode cL_share 16 = .ok (.iconst 0, 1) := by decide +kernel
theorem dL_share_17 : decode cL_share 17 = .ok (.ireturn, 1) := by decide +kernel
end
section
theorem dL_law_0 : decode cL_law 0 = .ok (.new 8, 3) := by decide +kernel
theorem dL_law_3 : decode cL_law 3 = .ok (.dup, 1) := by decide +kernel
theorem dL_law_4 : decode cL_law 4 = .ok (.invokespecial 85, 3) := by decide +kernel
theorem dL_law_7 : decode cL_law 7 = .ok (.astore_n 1, 1) := by decide +kernel
theorem dL_law_8 : decode cL_law 8 = .ok (.new 86, 3) := by decide +kernel
theorem dL_law_11 : decode cL_law 11 = .ok (.dup, 1) := by decide +kernel
theorem dL_law_12 : decode cL_law 12 = .ok (.invokespecial 88, 3) := by decide +kernel
theorem dL_law_15 : decode cL_law 15 = .ok (.astore_n 2, 1) := by decide +kernel
theorem dL_law_16 : decode cL_law 16 = .ok (.iconst 1, 1) := by decide +kernel
theorem dL_law_17 : decode cL_law 17 = .ok (.newarray .long, 2) := by decide +kernel
theorem dL_law_19 : decode cL_law 19 = .ok (.astore_n 3, 1) := by decide +kernel
theorem dL_law_20 : decode cL_law 20 = .ok (.iconst 0, 1) := by decide +kernel
theorem dL_law_21 : decode cL_law 21 = .ok (.istore 4, 2) := by decide +kernel
theorem dL_law_23 : decode cL_law 23 = .ok (.iload 4, 2) := by decide +kernel
theorem dL_law_25 : decode cL_law 25 = .ok (.aload_n 0, 1) := by decide +kernel
theorem dL_law_26 : decode cL_law 26 = .ok (.arraylength, 1) := by decide +kernel
theorem dL_law_27 : decode cL_law 27 = .ok (.iconst 5, 1) := by decide +kernel
theorem dL_law_28 : decode cL_law 28 = .ok (.isub, 1) := by decide +kernel
theorem dL_law_29 : decode cL_law 29 = .ok (.if_icmp .gt 1413, 3) := by decide +kernel
theorem dL_law_32 : decode cL_law 32 = .ok (.aload_n 0, 1) := by decide +kernel
theorem dL_law_33 : decode cL_law 33 = .ok (.iload 4, 2) := by decide +kernel
theorem dL_law_35 : decode cL_law 35 = .ok (.iaload, 1) := by decide +kernel
theorem dL_law_36 : decode cL_law 36 = .ok (.bipush 31, 2) := by decide +kernel
theorem dL_law_38 : decode cL_law 38 = .ok (.iand, 1) := by decide +kernel
theorem dL_law_39 : decode cL_law 39 = .ok (.tableswitch 1397 0 20 #[97, 141, 233, 293, 349, 409, 476, 556, 636, 672, 728, 742, 810, 890, 946, 1026, 1094, 1149, 1204, 1259, 1314], 97) := by decide +kernel
theorem dL_law_136 : decode cL_law 136 = .ok (.aload_n 1, 1) := by decide +kernel
theorem dL_law_137 : decode cL_law 137 = .ok (.aload_n 3, 1) := by decide +kernel
theorem dL_law_138 : decode cL_law 138 = .ok (.invokestatic 89, 3) := by decide +kernel
theorem dL_law_141 : decode cL_law 141 = .ok (.istore 5, 2) := by decide +kernel
theorem dL_law_143 : decode cL_law 143 = .ok (.aload_n 2, 1) := by decide +kernel
theorem dL_law_144 : decode cL_law 144 = .ok (.invokevirtual 94, 3) := by decide +kernel
theorem dL_law_147 : decode cL_law 147 = .ok (.istore 6, 2) := by decide +kernel
theorem dL_law_149 : decode cL_law 149 = .ok (.aload_n 2, 1) := by decide +kernel
theorem dL_law_150 : decode cL_law 150 = .ok (.invokevirtual 95, 3) := by decide +kernel
theorem dL_law_153 : decode cL_law 153 = .ok (.iload 5, 2) := by decide +kernel
theorem dL_law_155 : decode cL_law 155 = .ok (.if_icmp .eq 5, 3) := by decide +kernel
theorem dL_law_158 : decode cL_law 158 = .ok (.iconst 0, 1) := by decide +kernel
theorem dL_law_159 : decode cL_law 159 = .ok (.ireturn, 1) := by decide +kernel
theorem dL_law_160 : decode cL_law 160 = .ok (.iload 5, 2) := by decide +kernel
theorem dL_law_162 : decode cL_law 162 = .ok (.ifCond .ne 15, 3) := by decide +kernel
theorem dL_law_165 : decode cL_law 165 = .ok (.aload_n 3, 1) := by decide +kernel
theorem dL_law_166 : decode cL_law 166 = .ok (.iconst 0, 1) := by decide +kernel
theorem dL_law_167 : decode cL_law 167 = .ok (.laload, 1) := by decide +kernel
theorem dL_law_168 : decode cL_law 168 = .ok (.iload 6, 2) := by decide +kernel
theorem dL_law_170 : decode cL_law 170 = .ok (.i2l, 1) := by decide +kernel
theorem dL_law_171 : decode cL_law 171 = .ok (.lcmp, 1) := by decide +kernel
theorem dL_law_172 : decode cL_law 172 = .ok (.ifCond .eq 5, 3) := by decide +kernel
theorem dL_law_175 : decode cL_law 175 = .ok (.iconst 0, 1) := by decide +kernel
theorem dL_law_176 : decode cL_law 176 = .ok (.ireturn, 1) := by decide +kernel
theorem dL_law_177 : decode cL_law 177 = .ok (.goto 1259, 3) := by decide +kernel
theorem dL_law_180 : decode cL_law 180 = .ok (.aload_n 1, 1) := by decide +kernel
theorem dL_law_181 : decode cL_law 181 = .ok (.aload_n 0, 1) := by decide +kernel
theorem dL_law_182 : decode cL_law 182 = .ok (.iload 4, 2) := by decide +kernel
theorem dL_law_184 : decode cL_law 184 = .ok (.iconst 1, 1) := by decide +kernel
theorem dL_law_185 : decode cL_law 185 = .ok (.iadd, 1) := by decide +kernel
theorem dL_law_186 : decode cL_law 186 = .ok (.iaload, 1) := by decide +kernel
theorem dL_law_187 : decode cL_law 187 = .ok (.aload_n 0, 1) := by decide +kernel
theorem dL_law_188 : decode cL_law 188 = .ok (.iload 4, 2) := by decide +kernel
theorem dL_law_190 : decode cL_law 190 = .ok (.iconst 2, 1) := by decide +kernel
theorem dL_law_191 : decode cL_law 191 = .ok (.iadd, 1) := by decide +kernel
theorem dL_law_192 : decode cL_law 192 = .ok (.iaload, 1) := by decide +kernel
theorem dL_law_193 : decode cL_law 193 = .ok (.aload_n 0, 1) := by decide +kernel
theorem dL_law_194 : decode cL_law 194 = .ok (.iload 4, 2) := by decide +kernel
theorem dL_law_196 : decode cL_law 196 = .ok (.iconst 3, 1) := by decide +kernel
theorem dL_law_197 : decode cL_law 197 = .ok (.iadd, 1) := by decide +kernel
theorem dL_law_198 : decode cL_law 198 = .ok (.iaload, 1) := by decide +kernel
theorem dL_law_199 : decode cL_law 199 = .ok (.aload_n 0, 1) := by decide +kernel
theorem dL_law_200 : decode cL_law 200 = .ok (.iload 4, 2) := by decide +kernel
theorem dL_law_202 : decode cL_law 202 = .ok (.iconst 4, 1) := by decide +kernel
theorem dL_law_203 : decode cL_law 203 = .ok (.iadd, 1) := by decide +kernel
theorem dL_law_204 : decode cL_law 204 = .ok (.iaload, 1) := by decide +kernel
theorem dL_law_205 : decode cL_law 205 = .ok (.aload_n 3, 1) := by decide +kernel
theorem dL_law_206 : decode cL_law 206 = .ok (.invokestatic 98, 3) := by decide +kernel
theorem dL_law_209 : decode cL_law 209 = .ok (.istore 5, 2) := by decide +kernel
theorem dL_law_211 : decode cL_law 211 = .ok (.aload_n 2, 1) := by decide +kernel
theorem dL_law_212 : decode cL_law 212 = .ok (.aload_n 0, 1) := by decide +kernel
theorem dL_law_213 : decode cL_law 213 = .ok (.iload 4, 2) := by decide +kernel
theorem dL_law_215 : decode cL_law 215 = .ok (.iconst 1, 1) := by decide +kernel
theorem dL_law_216 : decode cL_law 216 = .ok (.iadd, 1) := by decide +kernel
theorem dL_law_217 : decode cL_law 217 = .ok (.iaload, 1) := by decide +kernel
theorem dL_law_218 : decode cL_law 218 = .ok (.aload_n 0, 1) := by decide +kernel
theorem dL_law_219 : decode cL_law 219 = .ok (.iload 4, 2) := by decide +kernel
theorem dL_law_221 : decode cL_law 221 = .ok (.iconst 2, 1) := by decide +kernel
theorem dL_law_222 : decode cL_law 222 = .ok (.iadd, 1) := by decide +kernel
theorem dL_law_223 : decode cL_law 223 = .ok (.iaload, 1) := by decide +kernel
theorem dL_law_224 : decode cL_law 224 = .ok (.aload_n 0, 1) := by decide +kernel
theorem dL_law_225 : decode cL_law 225 = .ok (.iload 4, 2) := by decide +kernel
theorem dL_law_227 : decode cL_law 227 = .ok (.iconst 3, 1) := by decide +kernel
theorem dL_law_228 : decode cL_law 228 = .ok (.iadd, 1) := by decide +kernel
theorem dL_law_229 : decode cL_law 229 = .ok (.iaload, 1) := by decide +kernel
theorem dL_law_230 : decode cL_law 230 = .ok (.aload_n 0, 1) := by decide +kernel
theorem dL_law_231 : decode cL_law 231 = .ok (.iload 4, 2) := by decide +kernel
theorem dL_law_233 : decode cL_law 233 = .ok (.iconst 4, 1) := by decide +kernel
theorem dL_law_234 : decode cL_law 234 = .ok (.iadd, 1) := by decide +kernel
theorem dL_law_235 : decode cL_law 235 = .ok (.iaload, 1) := by decide +kernel
theorem dL_law_236 : decode cL_law 236 = .ok (.invokevirtual 101, 3) := by decide +kernel
theorem dL_law_239 : decode cL_law 239 = .ok (.istore 6, 2) := by decide +kernel
theorem dL_law_241 : decode cL_law 241 = .ok (.aload_n 2, 1) := by decide +kernel
theorem dL_law_242 : decode cL_law 242 = .ok (.invokevirtual 95, 3) := by decide +kernel
theorem dL_law_245 : decode cL_law 245 = .ok (.iload 5, 2) := by decide +kernel
theorem dL_law_247 : decode cL_law 247 = .ok (.if_icmp .eq 5, 3) := by decide +kernel
theorem dL_law_250 : decode cL_law 250 = .ok (.iconst 0, 1) := by decide +kernel
theorem dL_law_251 : decode cL_law 251 = .ok (.ireturn, 1) := by decide +kernel
theorem dL_law_252 : decode cL_law 252 = .ok (.iload 5, 2) := by decide +kernel
theorem dL_law_254 : decode cL_law 254 = .ok (.ifCond .ne 15, 3) := by decide +kernel
theorem dL_law_257 : decode cL_law 257 = .ok (.aload_n 3, 1) := by decide +kernel
theorem dL_law_258 : decode cL_law 258 = .ok (.iconst 0, 1) := by decide +kernel
theorem dL_law_259 : decode cL_law 259 = .ok (.laload, 1) := by decide +kernel
theorem dL_law_260 : decode cL_law 260 = .ok (.iload 6, 2) := by decide +kernel
theorem dL_law_262 : decode cL_law 262 = .ok (.i2l, 1) := by decide +kernel
theorem dL_law_263 : decode cL_law 263 = .ok (.lcmp, 1) := by decide +kernel
theorem dL_law_264 : decode cL_law 264 = .ok (.ifCond .eq 5, 3) := by decide +kernel
theorem dL_law_267 : decode cL_law 267 = .ok (.iconst 0, 1) := by decide +kernel
theorem dL_law_268 : decode cL_law 268 = .ok (.ireturn, 1) := by decide +kernel
theorem dL_law_269 : decode cL_law 269 = .ok (.goto 1167, 3) := by decide +kernel
theorem dL_law_272 : decode cL_law 272 = .ok (.aload_n 1, 1) := by decide +kernel
theorem dL_law_273 : decode cL_law 273 = .ok (.aload_n 0, 1) := by decide +kernel
theorem dL_law_274 : decode cL_law 274 = .ok (.iload 4, 2) := by decide +kernel
theorem dL_law_276 : decode cL_law 276 = .ok (.iconst 1, 1) := by decide +kernel
theorem dL_law_277 : decode cL_law 277 = .ok (.iadd, 1) := by decide +kernel
theorem dL_law_278 : decode cL_law 278 = .ok (.iaload, 1) := by decide +kernel
theorem dL_law_279 : decode cL_law 279 = .ok (.aload_n 0, 1) := by decide +kernel
theorem dL_law_280 : decode cL_law 280 = .ok (.iload 4, 2) := by decide +kernel
theorem dL_law_282 : decode cL_law 282 = .ok (.iconst 2, 1) := by decide +kernel
theorem dL_law_283 : decode cL_law 283 = .ok (.iadd, 1) := by decide +kernel
theorem dL_law_284 : decode cL_law 284 = .ok (.iaload, 1) := by decide +kernel
theorem dL_law_285 : decode cL_law 285 = .ok (.aload_n 0, 1) := by decide +kernel
theorem dL_law_286 : decode cL_law 286 = .ok (.iload 4, 2) := by decide +kernel
theorem dL_law_288 : decode cL_law 288 = .ok (.iconst 3, 1) := by decide +kernel
theorem dL_law_289 : decode cL_law 289 = .ok (.iadd, 1) := by decide +kernel
theorem dL_law_290 : decode cL_law 290 = .ok (.iaload, 1) := by decide +kernel
theorem dL_law_291 : decode cL_law 291 = .ok (.invokestatic 102, 3) := by decide +kernel
theorem dL_law_294 : decode cL_law 294 = .ok (.istore 5, 2) := by decide +kernel
theorem dL_law_296 : decode cL_law 296 = .ok (.aload_n 2, 1) := by decide +kernel
theorem dL_law_297 : decode cL_law 297 = .ok (.aload_n 0, 1) := by decide +kernel
theorem dL_law_298 : decode cL_law 298 = .ok (.iload 4, 2) := by decide +kernel
theorem dL_law_300 : decode cL_law 300 = .ok (.iconst 1, 1) := by decide +kernel
theorem dL_law_301 : decode cL_law 301 = .ok (.iadd, 1) := by decide +kernel
theorem dL_law_302 : decode cL_law 302 = .ok (.iaload, 1) := by decide +kernel
theorem dL_law_303 : decode cL_law 303 = .ok (.aload_n 0, 1) := by decide +kernel
theorem dL_law_304 : decode cL_law 304 = .ok (.iload 4, 2) := by decide +kernel
theorem dL_law_306 : decode cL_law 306 = .ok (.iconst 2, 1) := by decide +kernel
theorem dL_law_307 : decode cL_law 307 = .ok (.iadd, 1) := by decide +kernel
theorem dL_law_308 : decode cL_law 308 = .ok (.iaload, 1) := by decide +kernel
theorem dL_law_309 : decode cL_law 309 = .ok (.aload_n 0, 1) := by decide +kernel
theorem dL_law_310 : decode cL_law 310 = .ok (.iload 4, 2) := by decide +kernel
theorem dL_law_312 : decode cL_law 312 = .ok (.iconst 3, 1) := by decide +kernel
theorem dL_law_313 : decode cL_law 313 = .ok (.iadd, 1) := by decide +kernel
theorem dL_law_314 : decode cL_law 314 = .ok (.iaload, 1) := by decide +kernel
theorem dL_law_315 : decode cL_law 315 = .ok (.invokevirtual 105, 3) := by decide +kernel
end
section
theorem dL_law_318 : decode cL_law 318 = .ok (.aload_n 2, 1) := by decide +kernel
theorem dL_law_319 : decode cL_law 319 = .ok (.invokevirtual 95, 3) := by decide +kernel
theorem dL_law_322 : decode cL_law 322 = .ok (.iload 5, 2) := by decide +kernel
theorem dL_law_324 : decode cL_law 324 = .ok (.if_icmp .eq 5, 3) := by decide +kernel
theorem dL_law_327 : decode cL_law 327 = .ok (.iconst 0, 1) := by decide +kernel
theorem dL_law_328 : decode cL_law 328 = .ok (.ireturn, 1) := by decide +kernel
theorem dL_law_329 : decode cL_law 329 = .ok (.goto 1107, 3) := by decide +kernel
theorem dL_law_332 : decode cL_law 332 = .ok (.aload_n 1, 1) := by decide +kernel
theorem dL_law_333 : decode cL_law 333 = .ok (.aload_n 0, 1) := by decide +kernel
theorem dL_law_334 : decode cL_law 334 = .ok (.iload 4, 2) := by decide +kernel
theorem dL_law_336 : decode cL_law 336 = .ok (.iconst 1, 1) := by decide +kernel
theorem dL_law_337 : decode cL_law 337 = .ok (.iadd, 1) := by decide +kernel
theorem dL_law_338 : decode cL_law 338 = .ok (.iaload, 1) := by decide +kernel
theorem dL_law_339 : decode cL_law 339 = .ok (.aload_n 3, 1) := by decide +kernel
theorem dL_law_340 : decode cL_law 340 = .ok (.invokestatic 106, 3) := by decide +kernel
theorem dL_law_343 : decode cL_law 343 = .ok (.istore 5, 2) := by decide +kernel
theorem dL_law_345 : decode cL_law 345 = .ok (.aload_n 2, 1) := by decide +kernel
theorem dL_law_346 : decode cL_law 346 = .ok (.aload_n 0, 1) := by decide +kernel
theorem dL_law_347 : decode cL_law 347 = .ok (.iload 4, 2) := by decide +kernel
theorem dL_law_349 : decode cL_law 349 = .ok (.iconst 1, 1) := by decide +kernel
theorem dL_law_350 : decode cL_law 350 = .ok (.iadd, 1) := by decide +kernel
theorem dL_law_351 : decode cL_law 351 = .ok (.iaload, 1) := by decide +kernel
theorem dL_law_352 : decode cL_law 352 = .ok (.invokevirtual 109, 3) := by decide +kernel
theorem dL_law_355 : decode cL_law 355 = .ok (.istore 6, 2) := by decide +kernel
theorem dL_law_357 : decode cL_law 357 = .ok (.aload_n 2, 1) := by decide +kernel
theorem dL_law_358 : decode cL_law 358 = .ok (.invokevirtual 95, 3) := by decide +kernel
theorem dL_law_361 : decode cL_law 361 = .ok (.iload 5, 2) := by decide +kernel
theorem dL_law_363 : decode cL_law 363 = .ok (.if_icmp .eq 5, 3) := by decide +kernel
theorem dL_law_366 : decode cL_law 366 = .ok (.iconst 0, 1) := by decide +kernel
theorem dL_law_367 : decode cL_law 367 = .ok (.ireturn, 1) := by decide +kernel
theorem dL_law_368 : decode cL_law 368 = .ok (.iload 5, 2) := by decide +kernel
theorem dL_law_370 : decode cL_law 370 = .ok (.ifCond .ne 15, 3) := by decide +kernel
theorem dL_law_373 : decode cL_law 373 = .ok (.aload_n 3, 1) := by decide +kernel
theorem dL_law_374 : decode cL_law 374 = .ok (.iconst 0, 1) := by decide +kernel
theorem dL_law_375 : decode cL_law 375 = .ok (.laload, 1) := by decide +kernel
theorem dL_law_376 : decode cL_law 376 = .ok (.iload 6, 2) := by decide +kernel
theorem dL_law_378 : decode cL_law 378 = .ok (.i2l, 1) := by decide +kernel
theorem dL_law_379 : decode cL_law 379 = .ok (.lcmp, 1) := by decide +kernel
theorem dL_law_380 : decode cL_law 380 = .ok (.ifCond .eq 5, 3) := by decide +kernel
theorem dL_law_383 : decode cL_law 383 = .ok (.iconst 0, 1) := by decide +kernel
theorem dL_law_384 : decode cL_law 384 = .ok (.ireturn, 1) := by decide +kernel
theorem dL_law_385 : decode cL_law 385 = .ok (.goto 1051, 3) := by decide +kernel
theorem dL_law_388 : decode cL_law 388 = .ok (.aload_n 1, 1) := by decide +kernel
theorem dL_law_389 : decode cL_law 389 = .ok (.aload_n 0, 1) := by decide +kernel
theorem dL_law_390 : decode cL_law 390 = .ok (.iload 4, 2) := by decide +kernel
theorem dL_law_392 : decode cL_law 392 = .ok (.iconst 1, 1) := by decide +kernel
theorem dL_law_393 : decode cL_law 393 = .ok (.iadd, 1) := by decide +kernel
theorem dL_law_394 : decode cL_law 394 = .ok (.iaload, 1) := by decide +kernel
theorem dL_law_395 : decode cL_law 395 = .ok (.aload_n 0, 1) := by decide +kernel
theorem dL_law_396 : decode cL_law 396 = .ok (.iload 4, 2) := by decide +kernel
theorem dL_law_398 : decode cL_law 398 = .ok (.iconst 2, 1) := by decide +kernel
theorem dL_law_399 : decode cL_law 399 = .ok (.iadd, 1) := by decide +kernel
theorem dL_law_400 : decode cL_law 400 = .ok (.iaload, 1) := by decide +kernel
theorem dL_law_401 : decode cL_law 401 = .ok (.aload_n 0, 1) := by decide +kernel
theorem dL_law_402 : decode cL_law 402 = .ok (.iload 4, 2) := by decide +kernel
theorem dL_law_404 : decode cL_law 404 = .ok (.iconst 3, 1) := by decide +kernel
theorem dL_law_405 : decode cL_law 405 = .ok (.iadd, 1) := by decide +kernel
theorem dL_law_406 : decode cL_law 406 = .ok (.iaload, 1) := by decide +kernel
theorem dL_law_407 : decode cL_law 407 = .ok (.invokestatic 110, 3) := by decide +kernel
theorem dL_law_410 : decode cL_law 410 = .ok (.istore 5, 2) := by decide +kernel
theorem dL_law_412 : decode cL_law 412 = .ok (.aload_n 2, 1) := by decide +kernel
theorem dL_law_413 : decode cL_law 413 = .ok (.aload_n 0, 1) := by decide +kernel
theorem dL_law_414 : decode cL_law 414 = .ok (.iload 4, 2) := by decide +kernel
theorem dL_law_416 : decode cL_law 416 = .ok (.iconst 1, 1) := by decide +kernel
theorem dL_law_417 : decode cL_law 417 = .ok (.iadd, 1) := by decide +kernel
theorem dL_law_418 : decode cL_law 418 = .ok (.iaload, 1) := by decide +kernel
theorem dL_law_419 : decode cL_law 419 = .ok (.aload_n 0, 1) := by decide +kernel
theorem dL_law_420 : decode cL_law 420 = .ok (.iload 4, 2) := by decide +kernel
theorem dL_law_422 : decode cL_law 422 = .ok (.iconst 2, 1) := by decide +kernel
theorem dL_law_423 : decode cL_law 423 = .ok (.iadd, 1) := by decide +kernel
theorem dL_law_424 : decode cL_law 424 = .ok (.iaload, 1) := by decide +kernel
theorem dL_law_425 : decode cL_law 425 = .ok (.aload_n 0, 1) := by decide +kernel
theorem dL_law_426 : decode cL_law 426 = .ok (.iload 4, 2) := by decide +kernel
theorem dL_law_428 : decode cL_law 428 = .ok (.iconst 3, 1) := by decide +kernel
theorem dL_law_429 : decode cL_law 429 = .ok (.iadd, 1) := by decide +kernel
theorem dL_law_430 : decode cL_law 430 = .ok (.iaload, 1) := by decide +kernel
theorem dL_law_431 : decode cL_law 431 = .ok (.invokevirtual 112, 3) := by decide +kernel
theorem dL_law_434 : decode cL_law 434 = .ok (.aload_n 2, 1) := by decide +kernel
theorem dL_law_435 : decode cL_law 435 = .ok (.invokevirtual 95, 3) := by decide +kernel
theorem dL_law_438 : decode cL_law 438 = .ok (.iload 5, 2) := by decide +kernel
theorem dL_law_440 : decode cL_law 440 = .ok (.if_icmp .eq 5, 3) := by decide +kernel
theorem dL_law_443 : decode cL_law 443 = .ok (.iconst 0, 1) := by decide +kernel
theorem dL_law_444 : decode cL_law 444 = .ok (.ireturn, 1) := by decide +kernel
theorem dL_law_445 : decode cL_law 445 = .ok (.goto 991, 3) := by decide +kernel
theorem dL_law_448 : decode cL_law 448 = .ok (.aload_n 1, 1) := by decide +kernel
theorem dL_law_449 : decode cL_law 449 = .ok (.aload_n 0, 1) := by decide +kernel
theorem dL_law_450 : decode cL_law 450 = .ok (.iload 4, 2) := by decide +kernel
theorem dL_law_452 : decode cL_law 452 = .ok (.iconst 1, 1) := by decide +kernel
theorem dL_law_453 : decode cL_law 453 = .ok (.iadd, 1) := by decide +kernel
theorem dL_law_454 : decode cL_law 454 = .ok (.iaload, 1) := by decide +kernel
theorem dL_law_455 : decode cL_law 455 = .ok (.aload_n 0, 1) := by decide +kernel
theorem dL_law_456 : decode cL_law 456 = .ok (.iload 4, 2) := by decide +kernel
theorem dL_law_458 : decode cL_law 458 = .ok (.iconst 2, 1) := by decide +kernel
theorem dL_law_459 : decode cL_law 459 = .ok (.iadd, 1) := by decide +kernel
theorem dL_law_460 : decode cL_law 460 = .ok (.iaload, 1) := by decide +kernel
theorem dL_law_461 : decode cL_law 461 = .ok (.aload_n 3, 1) := by decide +kernel
theorem dL_law_462 : decode cL_law 462 = .ok (.invokestatic 113, 3) := by decide +kernel
theorem dL_law_465 : decode cL_law 465 = .ok (.istore 5, 2) := by decide +kernel
theorem dL_law_467 : decode cL_law 467 = .ok (.aload_n 2, 1) := by decide +kernel
theorem dL_law_468 : decode cL_law 468 = .ok (.aload_n 0, 1) := by decide +kernel
theorem dL_law_469 : decode cL_law 469 = .ok (.iload 4, 2) := by decide +kernel
theorem dL_law_471 : decode cL_law 471 = .ok (.iconst 1, 1) := by decide +kernel
theorem dL_law_472 : decode cL_law 472 = .ok (.iadd, 1) := by decide +kernel
theorem dL_law_473 : decode cL_law 473 = .ok (.iaload, 1) := by decide +kernel
theorem dL_law_474 : decode cL_law 474 = .ok (.aload_n 0, 1) := by decide +kernel
theorem dL_law_475 : decode cL_law 475 = .ok (.iload 4, 2) := by decide +kernel
theorem dL_law_477 : decode cL_law 477 = .ok (.iconst 2, 1) := by decide +kernel
theorem dL_law_478 : decode cL_law 478 = .ok (.iadd, 1) := by decide +kernel
theorem dL_law_479 : decode cL_law 479 = .ok (.iaload, 1) := by decide +kernel
theorem dL_law_480 : decode cL_law 480 = .ok (.invokevirtual 116, 3) := by decide +kernel
theorem dL_law_483 : decode cL_law 483 = .ok (.lstore 6, 2) := by decide +kernel
theorem dL_law_485 : decode cL_law 485 = .ok (.aload_n 2, 1) := by decide +kernel
theorem dL_law_486 : decode cL_law 486 = .ok (.invokevirtual 95, 3) := by decide +kernel
theorem dL_law_489 : decode cL_law 489 = .ok (.iload 5, 2) := by decide +kernel
theorem dL_law_491 : decode cL_law 491 = .ok (.if_icmp .eq 5, 3) := by decide +kernel
theorem dL_law_494 : decode cL_law 494 = .ok (.iconst 0, 1) := by decide +kernel
theorem dL_law_495 : decode cL_law 495 = .ok (.ireturn, 1) := by decide +kernel
theorem dL_law_496 : decode cL_law 496 = .ok (.iload 5, 2) := by decide +kernel
theorem dL_law_498 : decode cL_law 498 = .ok (.ifCond .ne 14, 3) := by decide +kernel
theorem dL_law_501 : decode cL_law 501 = .ok (.aload_n 3, 1) := by decide +kernel
theorem dL_law_502 : decode cL_law 502 = .ok (.iconst 0, 1) := by decide +kernel
theorem dL_law_503 : decode cL_law 503 = .ok (.laload, 1) := by decide +kernel
theorem dL_law_504 : decode cL_law 504 = .ok (.lload 6, 2) := by decide +kernel
theorem dL_law_506 : decode cL_law 506 = .ok (.lcmp, 1) := by decide +kernel
theorem dL_law_507 : decode cL_law 507 = .ok (.ifCond .eq 5, 3) := by decide +kernel
theorem dL_law_510 : decode cL_law 510 = .ok (.iconst 0, 1) := by decide +kernel
theorem dL_law_511 : decode cL_law 511 = .ok (.ireturn, 1) := by decide +kernel
theorem dL_law_512 : decode cL_law 512 = .ok (.goto 924, 3) := by decide +kernel
theorem dL_law_515 : decode cL_law 515 = .ok (.aload_n 1, 1) := by decide +kernel
theorem dL_law_516 : decode cL_law 516 = .ok (.aload_n 0, 1) := by decide +kernel
theorem dL_law_517 : decode cL_law 517 = .ok (.iload 4, 2) := by decide +kernel
theorem dL_law_519 : decode cL_law 519 = .ok (.iconst 1, 1) := by decide +kernel
theorem dL_law_520 : decode cL_law 520 = .ok (.iadd, 1) := by decide +kernel
theorem dL_law_521 : decode cL_law 521 = .ok (.iaload, 1) := by decide +kernel
theorem dL_law_522 : decode cL_law 522 = .ok (.aload_n 0, 1) := by decide +kernel
theorem dL_law_523 : decode cL_law 523 = .ok (.iload 4, 2) := by decide +kernel
theorem dL_law_525 : decode cL_law 525 = .ok (.iconst 2, 1) := by decide +kernel
theorem dL_law_526 : decode cL_law 526 = .ok (.iadd, 1) := by decide +kernel
theorem dL_law_527 : decode cL_law 527 = .ok (.iaload, 1) := by decide +kernel
theorem dL_law_528 : decode cL_law 528 = .ok (.aload_n 0, 1) := by decide +kernel
theorem dL_law_529 : decode cL_law 529 = .ok (.iload 4, 2) := by decide +kernel
theorem dL_law_531 : decode cL_law 531 = .ok (.iconst 3, 1) := by decide +kernel
theorem dL_law_532 : decode cL_law 532 = .ok (.iadd, 1) := by decide +kernel
theorem dL_law_533 : decode cL_law 533 = .ok (.iaload, 1) := by decide +kernel
theorem dL_law_534 : decode cL_law 534 = .ok (.aload_n 3, 1) := by decide +kernel
theorem dL_law_535 : decode cL_law 535 = .ok (.invokestatic 117, 3) := by decide +kernel
theorem dL_law_538 : decode cL_law 538 = .ok (.istore 5, 2) := by decide +kernel
theorem dL_law_540 : decode cL_law 540 = .ok (.aload_n 2, 1) := by decide +kernel
theorem dL_law_541 : decode cL_law 541 = .ok (.aload_n 0, 1) := by decide +kernel
theorem dL_law_542 : decode cL_law 542 = .ok (.iload 4, 2) := by decide +kernel
end
section
theorem dL_law_544 : decode cL_law 544 = .ok (.iconst 1, 1) := by decide +kernel
theorem dL_law_545 : decode cL_law 545 = .ok (.iadd, 1) := by decide +kernel
theorem dL_law_546 : decode cL_law 546 = .ok (.iaload, 1) := by decide +kernel
theorem dL_law_547 : decode cL_law 547 = .ok (.aload_n 0, 1) := by decide +kernel
theorem dL_law_548 : decode cL_law 548 = .ok (.iload 4, 2) := by decide +kernel
theorem dL_law_550 : decode cL_law 550 = .ok (.iconst 2, 1) := by decide +kernel
theorem dL_law_551 : decode cL_law 551 = .ok (.iadd, 1) := by decide +kernel
theorem dL_law_552 : decode cL_law 552 = .ok (.iaload, 1) := by decide +kernel
theorem dL_law_553 : decode cL_law 553 = .ok (.aload_n 0, 1) := by decide +kernel
theorem dL_law_554 : decode cL_law 554 = .ok (.iload 4, 2) := by decide +kernel
theorem dL_law_556 : decode cL_law 556 = .ok (.iconst 3, 1) := by decide +kernel
theorem dL_law_557 : decode cL_law 557 = .ok (.iadd, 1) := by decide +kernel
theorem dL_law_558 : decode cL_law 558 = .ok (.iaload, 1) := by decide +kernel
theorem dL_law_559 : decode cL_law 559 = .ok (.invokevirtual 120, 3) := by decide +kernel
theorem dL_law_562 : decode cL_law 562 = .ok (.istore 6, 2) := by decide +kernel
theorem dL_law_564 : decode cL_law 564 = .ok (.aload_n 2, 1) := by decide +kernel
theorem dL_law_565 : decode cL_law 565 = .ok (.invokevirtual 95, 3) := by decide +kernel
theorem dL_law_568 : decode cL_law 568 = .ok (.iload 5, 2) := by decide +kernel
theorem dL_law_570 : decode cL_law 570 = .ok (.if_icmp .eq 5, 3) := by decide +kernel
theorem dL_law_573 : decode cL_law 573 = .ok (.iconst 0, 1) := by decide +kernel
theorem dL_law_574 : decode cL_law 574 = .ok (.ireturn, 1) := by decide +kernel
theorem dL_law_575 : decode cL_law 575 = .ok (.iload 5, 2) := by decide +kernel
theorem dL_law_577 : decode cL_law 577 = .ok (.ifCond .ne 15, 3) := by decide +kernel
theorem dL_law_580 : decode cL_law 580 = .ok (.aload_n 3, 1) := by decide +kernel
theorem dL_law_581 : decode cL_law 581 = .ok (.iconst 0, 1) := by decide +kernel
theorem dL_law_582 : decode cL_law 582 = .ok (.laload, 1) := by decide +kernel
theorem dL_law_583 : decode cL_law 583 = .ok (.iload 6, 2) := by decide +kernel
theorem dL_law_585 : decode cL_law 585 = .ok (.i2l, 1) := by decide +kernel
theorem dL_law_586 : decode cL_law 586 = .ok (.lcmp, 1) := by decide +kernel
theorem dL_law_587 : decode cL_law 587 = .ok (.ifCond .eq 5, 3) := by decide +kernel
theorem dL_law_590 : decode cL_law 590 = .ok (.iconst 0, 1) := by decide +kernel
theorem dL_law_591 : decode cL_law 591 = .ok (.ireturn, 1) := by decide +kernel
theorem dL_law_592 : decode cL_law 592 = .ok (.goto 844, 3) := by decide +kernel
theorem dL_law_595 : decode cL_law 595 = .ok (.aload_n 1, 1) := by decide +kernel
theorem dL_law_596 : decode cL_law 596 = .ok (.aload_n 0, 1) := by decide +kernel
theorem dL_law_597 : decode cL_law 597 = .ok (.iload 4, 2) := by decide +kernel
theorem dL_law_599 : decode cL_law 599 = .ok (.iconst 1, 1) := by decide +kernel
theorem dL_law_600 : decode cL_law 600 = .ok (.iadd, 1) := by decide +kernel
theorem dL_law_601 : decode cL_law 601 = .ok (.iaload, 1) := by decide +kernel
theorem dL_law_602 : decode cL_law 602 = .ok (.aload_n 0, 1) := by decide +kernel
theorem dL_law_603 : decode cL_law 603 = .ok (.iload 4, 2) := by decide +kernel
theorem dL_law_605 : decode cL_law 605 = .ok (.iconst 2, 1) := by decide +kernel
theorem dL_law_606 : decode cL_law 606 = .ok (.iadd, 1) := by decide +kernel
theorem dL_law_607 : decode cL_law 607 = .ok (.iaload, 1) := by decide +kernel
theorem dL_law_608 : decode cL_law 608 = .ok (.aload_n 0, 1) := by decide +kernel
theorem dL_law_609 : decode cL_law 609 = .ok (.iload 4, 2) := by decide +kernel
theorem dL_law_611 : decode cL_law 611 = .ok (.iconst 3, 1) := by decide +kernel
theorem dL_law_612 : decode cL_law 612 = .ok (.iadd, 1) := by decide +kernel
theorem dL_law_613 : decode cL_law 613 = .ok (.iaload, 1) := by decide +kernel
theorem dL_law_614 : decode cL_law 614 = .ok (.aload_n 3, 1) := by decide +kernel
theorem dL_law_615 : decode cL_law 615 = .ok (.invokestatic 121, 3) := by decide +kernel
theorem dL_law_618 : decode cL_law 618 = .ok (.istore 5, 2) := by decide +kernel
theorem dL_law_620 : decode cL_law 620 = .ok (.aload_n 2, 1) := by decide +kernel
theorem dL_law_621 : decode cL_law 621 = .ok (.aload_n 0, 1) := by decide +kernel
theorem dL_law_622 : decode cL_law 622 = .ok (.iload 4, 2) := by decide +kernel
theorem dL_law_624 : decode cL_law 624 = .ok (.iconst 1, 1) := by decide +kernel
theorem dL_law_625 : decode cL_law 625 = .ok (.iadd, 1) := by decide +kernel
theorem dL_law_626 : decode cL_law 626 = .ok (.iaload, 1) := by decide +kernel
theorem dL_law_627 : decode cL_law 627 = .ok (.aload_n 0, 1) := by decide +kernel
theorem dL_law_628 : decode cL_law 628 = .ok (.iload 4, 2) := by decide +kernel
theorem dL_law_630 : decode cL_law 630 = .ok (.iconst 2, 1) := by decide +kernel
theorem dL_law_631 : decode cL_law 631 = .ok (.iadd, 1) := by decide +kernel
theorem dL_law_632 : decode cL_law 632 = .ok (.iaload, 1) := by decide +kernel
theorem dL_law_633 : decode cL_law 633 = .ok (.aload_n 0, 1) := by decide +kernel
theorem dL_law_634 : decode cL_law 634 = .ok (.iload 4, 2) := by decide +kernel
theorem dL_law_636 : decode cL_law 636 = .ok (.iconst 3, 1) := by decide +kernel
theorem dL_law_637 : decode cL_law 637 = .ok (.iadd, 1) := by decide +kernel
theorem dL_law_638 : decode cL_law 638 = .ok (.iaload, 1) := by decide +kernel
theorem dL_law_639 : decode cL_law 639 = .ok (.invokevirtual 123, 3) := by decide +kernel
theorem dL_law_642 : decode cL_law 642 = .ok (.istore 6, 2) := by decide +kernel
theorem dL_law_644 : decode cL_law 644 = .ok (.aload_n 2, 1) := by decide +kernel
theorem dL_law_645 : decode cL_law 645 = .ok (.invokevirtual 95, 3) := by decide +kernel
theorem dL_law_648 : decode cL_law 648 = .ok (.iload 5, 2) := by decide +kernel
theorem dL_law_650 : decode cL_law 650 = .ok (.if_icmp .eq 5, 3) := by decide +kernel
theorem dL_law_653 : decode cL_law 653 = .ok (.iconst 0, 1) := by decide +kernel
theorem dL_law_654 : decode cL_law 654 = .ok (.ireturn, 1) := by decide +kernel
theorem dL_law_655 : decode cL_law 655 = .ok (.iload 5, 2) := by decide +kernel
theorem dL_law_657 : decode cL_law 657 = .ok (.ifCond .ne 15, 3) := by decide +kernel
theorem dL_law_660 : decode cL_law 660 = .ok (.aload_n 3, 1) := by decide +kernel
theorem dL_law_661 : decode cL_law 661 = .ok (.iconst 0, 1) := by decide +kernel
theorem dL_law_662 : decode cL_law 662 = .ok (.laload, 1) := by decide +kernel
theorem dL_law_663 : decode cL_law 663 = .ok (.iload 6, 2) := by decide +kernel
theorem dL_law_665 : decode cL_law 665 = .ok (.i2l, 1) := by decide +kernel
theorem dL_law_666 : decode cL_law 666 = .ok (.lcmp, 1) := by decide +kernel
theorem dL_law_667 : decode cL_law 667 = .ok (.ifCond .eq 5, 3) := by decide +kernel
theorem dL_law_670 : decode cL_law 670 = .ok (.iconst 0, 1) := by decide +kernel
theorem dL_law_671 : decode cL_law 671 = .ok (.ireturn, 1) := by decide +kernel
theorem dL_law_672 : decode cL_law 672 = .ok (.goto 764, 3) := by decide +kernel
theorem dL_law_675 : decode cL_law 675 = .ok (.aload_n 1, 1) := by decide +kernel
theorem dL_law_676 : decode cL_law 676 = .ok (.aload_n 0, 1) := by decide +kernel
theorem dL_law_677 : decode cL_law 677 = .ok (.iload 4, 2) := by decide +kernel
theorem dL_law_679 : decode cL_law 679 = .ok (.iconst 1, 1) := by decide +kernel
theorem dL_law_680 : decode cL_law 680 = .ok (.iadd, 1) := by decide +kernel
theorem dL_law_681 : decode cL_law 681 = .ok (.iaload, 1) := by decide +kernel
theorem dL_law_682 : decode cL_law 682 = .ok (.invokestatic 124, 3) := by decide +kernel
theorem dL_law_685 : decode cL_law 685 = .ok (.istore 5, 2) := by decide +kernel
theorem dL_law_687 : decode cL_law 687 = .ok (.aload_n 2, 1) := by decide +kernel
theorem dL_law_688 : decode cL_law 688 = .ok (.aload_n 0, 1) := by decide +kernel
theorem dL_law_689 : decode cL_law 689 = .ok (.iload 4, 2) := by decide +kernel
theorem dL_law_691 : decode cL_law 691 = .ok (.iconst 1, 1) := by decide +kernel
theorem dL_law_692 : decode cL_law 692 = .ok (.iadd, 1) := by decide +kernel
theorem dL_law_693 : decode cL_law 693 = .ok (.iaload, 1) := by decide +kernel
theorem dL_law_694 : decode cL_law 694 = .ok (.invokevirtual 127, 3) := by decide +kernel
theorem dL_law_697 : decode cL_law 697 = .ok (.aload_n 2, 1) := by decide +kernel
theorem dL_law_698 : decode cL_law 698 = .ok (.invokevirtual 95, 3) := by decide +kernel
theorem dL_law_701 : decode cL_law 701 = .ok (.iload 5, 2) := by decide +kernel
theorem dL_law_703 : decode cL_law 703 = .ok (.if_icmp .eq 5, 3) := by decide +kernel
theorem dL_law_706 : decode cL_law 706 = .ok (.iconst 0, 1) := by decide +kernel
theorem dL_law_707 : decode cL_law 707 = .ok (.ireturn, 1) := by decide +kernel
theorem dL_law_708 : decode cL_law 708 = .ok (.goto 728, 3) := by decide +kernel
theorem dL_law_711 : decode cL_law 711 = .ok (.aload_n 1, 1) := by decide +kernel
theorem dL_law_712 : decode cL_law 712 = .ok (.aload_n 0, 1) := by decide +kernel
theorem dL_law_713 : decode cL_law 713 = .ok (.iload 4, 2) := by decide +kernel
theorem dL_law_715 : decode cL_law 715 = .ok (.iconst 1, 1) := by decide +kernel
theorem dL_law_716 : decode cL_law 716 = .ok (.iadd, 1) := by decide +kernel
theorem dL_law_717 : decode cL_law 717 = .ok (.iaload, 1) := by decide +kernel
theorem dL_law_718 : decode cL_law 718 = .ok (.aload_n 3, 1) := by decide +kernel
theorem dL_law_719 : decode cL_law 719 = .ok (.invokestatic 128, 3) := by decide +kernel
theorem dL_law_722 : decode cL_law 722 = .ok (.istore 5, 2) := by decide +kernel
theorem dL_law_724 : decode cL_law 724 = .ok (.aload_n 2, 1) := by decide +kernel
theorem dL_law_725 : decode cL_law 725 = .ok (.aload_n 0, 1) := by decide +kernel
theorem dL_law_726 : decode cL_law 726 = .ok (.iload 4, 2) := by decide +kernel
theorem dL_law_728 : decode cL_law 728 = .ok (.iconst 1, 1) := by decide +kernel
theorem dL_law_729 : decode cL_law 729 = .ok (.iadd, 1) := by decide +kernel
theorem dL_law_730 : decode cL_law 730 = .ok (.iaload, 1) := by decide +kernel
theorem dL_law_731 : decode cL_law 731 = .ok (.invokevirtual 130, 3) := by decide +kernel
theorem dL_law_734 : decode cL_law 734 = .ok (.istore 6, 2) := by decide +kernel
theorem dL_law_736 : decode cL_law 736 = .ok (.aload_n 2, 1) := by decide +kernel
theorem dL_law_737 : decode cL_law 737 = .ok (.invokevirtual 95, 3) := by decide +kernel
theorem dL_law_740 : decode cL_law 740 = .ok (.iload 5, 2) := by decide +kernel
theorem dL_law_742 : decode cL_law 742 = .ok (.if_icmp .eq 5, 3) := by decide +kernel
theorem dL_law_745 : decode cL_law 745 = .ok (.iconst 0, 1) := by decide +kernel
theorem dL_law_746 : decode cL_law 746 = .ok (.ireturn, 1) := by decide +kernel
theorem dL_law_747 : decode cL_law 747 = .ok (.iload 5, 2) := by decide +kernel
theorem dL_law_749 : decode cL_law 749 = .ok (.ifCond .ne 15, 3) := by decide +kernel
theorem dL_law_752 : decode cL_law 752 = .ok (.aload_n 3, 1) := by decide +kernel
theorem dL_law_753 : decode cL_law 753 = .ok (.iconst 0, 1) := by decide +kernel
theorem dL_law_754 : decode cL_law 754 = .ok (.laload, 1) := by decide +kernel
theorem dL_law_755 : decode cL_law 755 = .ok (.iload 6, 2) := by decide +kernel
theorem dL_law_757 : decode cL_law 757 = .ok (.i2l, 1) := by decide +kernel
theorem dL_law_758 : decode cL_law 758 = .ok (.lcmp, 1) := by decide +kernel
theorem dL_law_759 : decode cL_law 759 = .ok (.ifCond .eq 5, 3) := by decide +kernel
theorem dL_law_762 : decode cL_law 762 = .ok (.iconst 0, 1) := by decide +kernel
theorem dL_law_763 : decode cL_law 763 = .ok (.ireturn, 1) := by decide +kernel
theorem dL_law_764 : decode cL_law 764 = .ok (.goto 672, 3) := by decide +kernel
theorem dL_law_767 : decode cL_law 767 = .ok (.aload_n 1, 1) := by decide +kernel
theorem dL_law_768 : decode cL_law 768 = .ok (.invokevirtual 131, 3) := by decide +kernel
theorem dL_law_771 : decode cL_law 771 = .ok (.aload_n 2, 1) := by decide +kernel
theorem dL_law_772 : decode cL_law 772 = .ok (.invokevirtual 135, 3) := by decide +kernel
theorem dL_law_775 : decode cL_law 775 = .ok (.lcmp, 1) := by decide +kernel
end
section
theorem dL_law_776 : decode cL_law 776 = .ok (.ifCond .eq 660, 3) := by decide +kernel
theorem dL_law_779 : decode cL_law 779 = .ok (.iconst 0, 1) := by decide +kernel
theorem dL_law_780 : decode cL_law 780 = .ok (.ireturn, 1) := by decide +kernel
theorem dL_law_781 : decode cL_law 781 = .ok (.aload_n 1, 1) := by decide +kernel
theorem dL_law_782 : decode cL_law 782 = .ok (.aload_n 0, 1) := by decide +kernel
theorem dL_law_783 : decode cL_law 783 = .ok (.iload 4, 2) := by decide +kernel
theorem dL_law_785 : decode cL_law 785 = .ok (.iconst 1, 1) := by decide +kernel
theorem dL_law_786 : decode cL_law 786 = .ok (.iadd, 1) := by decide +kernel
theorem dL_law_787 : decode cL_law 787 = .ok (.iaload, 1) := by decide +kernel
theorem dL_law_788 : decode cL_law 788 = .ok (.aload_n 0, 1) := by decide +kernel
theorem dL_law_789 : decode cL_law 789 = .ok (.iload 4, 2) := by decide +kernel
theorem dL_law_791 : decode cL_law 791 = .ok (.iconst 2, 1) := by decide +kernel
theorem dL_law_792 : decode cL_law 792 = .ok (.iadd, 1) := by decide +kernel
theorem dL_law_793 : decode cL_law 793 = .ok (.iaload, 1) := by decide +kernel
theorem dL_law_794 : decode cL_law 794 = .ok (.aload_n 3, 1) := by decide +kernel
theorem dL_law_795 : decode cL_law 795 = .ok (.invokestatic 136, 3) := by decide +kernel
theorem dL_law_798 : decode cL_law 798 = .ok (.istore 5, 2) := by decide +kernel
theorem dL_law_800 : decode cL_law 800 = .ok (.aload_n 2, 1) := by decide +kernel
theorem dL_law_801 : decode cL_law 801 = .ok (.aload_n 0, 1) := by decide +kernel
theorem dL_law_802 : decode cL_law 802 = .ok (.iload 4, 2) := by decide +kernel
theorem dL_law_804 : decode cL_law 804 = .ok (.iconst 1, 1) := by decide +kernel
theorem dL_law_805 : decode cL_law 805 = .ok (.iadd, 1) := by decide +kernel
theorem dL_law_806 : decode cL_law 806 = .ok (.iaload, 1) := by decide +kernel
theorem dL_law_807 : decode cL_law 807 = .ok (.aload_n 0, 1) := by decide +kernel
theorem dL_law_808 : decode cL_law 808 = .ok (.iload 4, 2) := by decide +kernel
theorem dL_law_810 : decode cL_law 810 = .ok (.iconst 2, 1) := by decide +kernel
theorem dL_law_811 : decode cL_law 811 = .ok (.iadd, 1) := by decide +kernel
theorem dL_law_812 : decode cL_law 812 = .ok (.iaload, 1) := by decide +kernel
theorem dL_law_813 : decode cL_law 813 = .ok (.invokevirtual 138, 3) := by decide +kernel
theorem dL_law_816 : decode cL_law 816 = .ok (.istore 6, 2) := by decide +kernel
theorem dL_law_818 : decode cL_law 818 = .ok (.aload_n 2, 1) := by decide +kernel
theorem dL_law_819 : decode cL_law 819 = .ok (.invokevirtual 95, 3) := by decide +kernel
theorem dL_law_822 : decode cL_law 822 = .ok (.iload 5, 2) := by decide +kernel
theorem dL_law_824 : decode cL_law 824 = .ok (.if_icmp .eq 5, 3) := by decide +kernel
theorem dL_law_827 : decode cL_law 827 = .ok (.iconst 0, 1) := by decide +kernel
theorem dL_law_828 : decode cL_law 828 = .ok (.ireturn, 1) := by decide +kernel
theorem dL_law_829 : decode cL_law 829 = .ok (.iload 5, 2) := by decide +kernel
theorem dL_law_831 : decode cL_law 831 = .ok (.ifCond .ne 15, 3) := by decide +kernel
theorem dL_law_834 : decode cL_law 834 = .ok (.aload_n 3, 1) := by decide +kernel
theorem dL_law_835 : decode cL_law 835 = .ok (.iconst 0, 1) := by decide +kernel
theorem dL_law_836 : decode cL_law 836 = .ok (.laload, 1) := by decide +kernel
theorem dL_law_837 : decode cL_law 837 = .ok (.iload 6, 2) := by decide +kernel
theorem dL_law_839 : decode cL_law 839 = .ok (.i2l, 1) := by decide +kernel
theorem dL_law_840 : decode cL_law 840 = .ok (.lcmp, 1) := by decide +kernel
theorem dL_law_841 : decode cL_law 841 = .ok (.ifCond .eq 5, 3) := by decide +kernel
theorem dL_law_844 : decode cL_law 844 = .ok (.iconst 0, 1) := by decide +kernel
theorem dL_law_845 : decode cL_law 845 = .ok (.ireturn, 1) := by decide +kernel
theorem dL_law_846 : decode cL_law 846 = .ok (.goto 590, 3) := by decide +kernel
theorem dL_law_849 : decode cL_law 849 = .ok (.aload_n 1, 1) := by decide +kernel
theorem dL_law_850 : decode cL_law 850 = .ok (.aload_n 0, 1) := by decide +kernel
theorem dL_law_851 : decode cL_law 851 = .ok (.iload 4, 2) := by decide +kernel
theorem dL_law_853 : decode cL_law 853 = .ok (.iconst 1, 1) := by decide +kernel
theorem dL_law_854 : decode cL_law 854 = .ok (.iadd, 1) := by decide +kernel
theorem dL_law_855 : decode cL_law 855 = .ok (.iaload, 1) := by decide +kernel
theorem dL_law_856 : decode cL_law 856 = .ok (.aload_n 0, 1) := by decide +kernel
theorem dL_law_857 : decode cL_law 857 = .ok (.iload 4, 2) := by decide +kernel
theorem dL_law_859 : decode cL_law 859 = .ok (.iconst 2, 1) := by decide +kernel
theorem dL_law_860 : decode cL_law 860 = .ok (.iadd, 1) := by decide +kernel
theorem dL_law_861 : decode cL_law 861 = .ok (.iaload, 1) := by decide +kernel
theorem dL_law_862 : decode cL_law 862 = .ok (.aload_n 0, 1) := by decide +kernel
theorem dL_law_863 : decode cL_law 863 = .ok (.iload 4, 2) := by decide +kernel
theorem dL_law_865 : decode cL_law 865 = .ok (.iconst 3, 1) := by decide +kernel
theorem dL_law_866 : decode cL_law 866 = .ok (.iadd, 1) := by decide +kernel
theorem dL_law_867 : decode cL_law 867 = .ok (.iaload, 1) := by decide +kernel
theorem dL_law_868 : decode cL_law 868 = .ok (.aload_n 3, 1) := by decide +kernel
theorem dL_law_869 : decode cL_law 869 = .ok (.invokestatic 139, 3) := by decide +kernel
theorem dL_law_872 : decode cL_law 872 = .ok (.istore 5, 2) := by decide +kernel
theorem dL_law_874 : decode cL_law 874 = .ok (.aload_n 2, 1) := by decide +kernel
theorem dL_law_875 : decode cL_law 875 = .ok (.aload_n 0, 1) := by decide +kernel
theorem dL_law_876 : decode cL_law 876 = .ok (.iload 4, 2) := by decide +kernel
theorem dL_law_878 : decode cL_law 878 = .ok (.iconst 1, 1) := by decide +kernel
theorem dL_law_879 : decode cL_law 879 = .ok (.iadd, 1) := by decide +kernel
theorem dL_law_880 : decode cL_law 880 = .ok (.iaload, 1) := by decide +kernel
theorem dL_law_881 : decode cL_law 881 = .ok (.aload_n 0, 1) := by decide +kernel
theorem dL_law_882 : decode cL_law 882 = .ok (.iload 4, 2) := by decide +kernel
theorem dL_law_884 : decode cL_law 884 = .ok (.iconst 2, 1) := by decide +kernel
theorem dL_law_885 : decode cL_law 885 = .ok (.iadd, 1) := by decide +kernel
theorem dL_law_886 : decode cL_law 886 = .ok (.iaload, 1) := by decide +kernel
theorem dL_law_887 : decode cL_law 887 = .ok (.aload_n 0, 1) := by decide +kernel
theorem dL_law_888 : decode cL_law 888 = .ok (.iload 4, 2) := by decide +kernel
theorem dL_law_890 : decode cL_law 890 = .ok (.iconst 3, 1) := by decide +kernel
theorem dL_law_891 : decode cL_law 891 = .ok (.iadd, 1) := by decide +kernel
theorem dL_law_892 : decode cL_law 892 = .ok (.iaload, 1) := by decide +kernel
theorem dL_law_893 : decode cL_law 893 = .ok (.invokevirtual 141, 3) := by decide +kernel
theorem dL_law_896 : decode cL_law 896 = .ok (.istore 6, 2) := by decide +kernel
theorem dL_law_898 : decode cL_law 898 = .ok (.aload_n 2, 1) := by decide +kernel
theorem dL_law_899 : decode cL_law 899 = .ok (.invokevirtual 95, 3) := by decide +kernel
theorem dL_law_902 : decode cL_law 902 = .ok (.iload 5, 2) := by decide +kernel
theorem dL_law_904 : decode cL_law 904 = .ok (.if_icmp .eq 5, 3) := by decide +kernel
theorem dL_law_907 : decode cL_law 907 = .ok (.iconst 0, 1) := by decide +kernel
theorem dL_law_908 : decode cL_law 908 = .ok (.ireturn, 1) := by decide +kernel
theorem dL_law_909 : decode cL_law 909 = .ok (.iload 5, 2) := by decide +kernel
theorem dL_law_911 : decode cL_law 911 = .ok (.ifCond .ne 15, 3) := by decide +kernel
theorem dL_law_914 : decode cL_law 914 = .ok (.aload_n 3, 1) := by decide +kernel
theorem dL_law_915 : decode cL_law 915 = .ok (.iconst 0, 1) := by decide +kernel
theorem dL_law_916 : decode cL_law 916 = .ok (.laload, 1) := by decide +kernel
theorem dL_law_917 : decode cL_law 917 = .ok (.iload 6, 2) := by decide +kernel
theorem dL_law_919 : decode cL_law 919 = .ok (.i2l, 1) := by decide +kernel
theorem dL_law_920 : decode cL_law 920 = .ok (.lcmp, 1) := by decide +kernel
theorem dL_law_921 : decode cL_law 921 = .ok (.ifCond .eq 5, 3) := by decide +kernel
theorem dL_law_924 : decode cL_law 924 = .ok (.iconst 0, 1) := by decide +kernel
theorem dL_law_925 : decode cL_law 925 = .ok (.ireturn, 1) := by decide +kernel
theorem dL_law_926 : decode cL_law 926 = .ok (.goto 510, 3) := by decide +kernel
theorem dL_law_929 : decode cL_law 929 = .ok (.aload_n 1, 1) := by decide +kernel
theorem dL_law_930 : decode cL_law 930 = .ok (.aload_n 0, 1) := by decide +kernel
theorem dL_law_931 : decode cL_law 931 = .ok (.iload 4, 2) := by decide +kernel
theorem dL_law_933 : decode cL_law 933 = .ok (.iconst 1, 1) := by decide +kernel
theorem dL_law_934 : decode cL_law 934 = .ok (.iadd, 1) := by decide +kernel
theorem dL_law_935 : decode cL_law 935 = .ok (.iaload, 1) := by decide +kernel
theorem dL_law_936 : decode cL_law 936 = .ok (.aload_n 3, 1) := by decide +kernel
theorem dL_law_937 : decode cL_law 937 = .ok (.invokestatic 142, 3) := by decide +kernel
theorem dL_law_940 : decode cL_law 940 = .ok (.istore 5, 2) := by decide +kernel
theorem dL_law_942 : decode cL_law 942 = .ok (.aload_n 2, 1) := by decide +kernel
theorem dL_law_943 : decode cL_law 943 = .ok (.aload_n 0, 1) := by decide +kernel
theorem dL_law_944 : decode cL_law 944 = .ok (.iload 4, 2) := by decide +kernel
theorem dL_law_946 : decode cL_law 946 = .ok (.iconst 1, 1) := by decide +kernel
theorem dL_law_947 : decode cL_law 947 = .ok (.iadd, 1) := by decide +kernel
theorem dL_law_948 : decode cL_law 948 = .ok (.iaload, 1) := by decide +kernel
theorem dL_law_949 : decode cL_law 949 = .ok (.invokevirtual 144, 3) := by decide +kernel
theorem dL_law_952 : decode cL_law 952 = .ok (.istore 6, 2) := by decide +kernel
theorem dL_law_954 : decode cL_law 954 = .ok (.aload_n 2, 1) := by decide +kernel
theorem dL_law_955 : decode cL_law 955 = .ok (.invokevirtual 95, 3) := by decide +kernel
theorem dL_law_958 : decode cL_law 958 = .ok (.iload 5, 2) := by decide +kernel
theorem dL_law_960 : decode cL_law 960 = .ok (.if_icmp .eq 5, 3) := by decide +kernel
theorem dL_law_963 : decode cL_law 963 = .ok (.iconst 0, 1) := by decide +kernel
theorem dL_law_964 : decode cL_law 964 = .ok (.ireturn, 1) := by decide +kernel
theorem dL_law_965 : decode cL_law 965 = .ok (.iload 5, 2) := by decide +kernel
theorem dL_law_967 : decode cL_law 967 = .ok (.ifCond .ne 15, 3) := by decide +kernel
theorem dL_law_970 : decode cL_law 970 = .ok (.aload_n 3, 1) := by decide +kernel
theorem dL_law_971 : decode cL_law 971 = .ok (.iconst 0, 1) := by decide +kernel
theorem dL_law_972 : decode cL_law 972 = .ok (.laload, 1) := by decide +kernel
theorem dL_law_973 : decode cL_law 973 = .ok (.iload 6, 2) := by decide +kernel
theorem dL_law_975 : decode cL_law 975 = .ok (.i2l, 1) := by decide +kernel
theorem dL_law_976 : decode cL_law 976 = .ok (.lcmp, 1) := by decide +kernel
theorem dL_law_977 : decode cL_law 977 = .ok (.ifCond .eq 5, 3) := by decide +kernel
theorem dL_law_980 : decode cL_law 980 = .ok (.iconst 0, 1) := by decide +kernel
theorem dL_law_981 : decode cL_law 981 = .ok (.ireturn, 1) := by decide +kernel
theorem dL_law_982 : decode cL_law 982 = .ok (.goto 454, 3) := by decide +kernel
theorem dL_law_985 : decode cL_law 985 = .ok (.aload_n 1, 1) := by decide +kernel
theorem dL_law_986 : decode cL_law 986 = .ok (.aload_n 0, 1) := by decide +kernel
theorem dL_law_987 : decode cL_law 987 = .ok (.iload 4, 2) := by decide +kernel
theorem dL_law_989 : decode cL_law 989 = .ok (.iconst 1, 1) := by decide +kernel
theorem dL_law_990 : decode cL_law 990 = .ok (.iadd, 1) := by decide +kernel
theorem dL_law_991 : decode cL_law 991 = .ok (.iaload, 1) := by decide +kernel
theorem dL_law_992 : decode cL_law 992 = .ok (.aload_n 0, 1) := by decide +kernel
theorem dL_law_993 : decode cL_law 993 = .ok (.iload 4, 2) := by decide +kernel
theorem dL_law_995 : decode cL_law 995 = .ok (.iconst 2, 1) := by decide +kernel
theorem dL_law_996 : decode cL_law 996 = .ok (.iadd, 1) := by decide +kernel
theorem dL_law_997 : decode cL_law 997 = .ok (.iaload, 1) := by decide +kernel
theorem dL_law_998 : decode cL_law 998 = .ok (.aload_n 0, 1) := by decide +kernel
end
section
theorem dL_law_999 : decode cL_law 999 = .ok (.iload 4, 2) := by decide +kernel
theorem dL_law_1001 : decode cL_law 1001 = .ok (.iconst 3, 1) := by decide +kernel
theorem dL_law_1002 : decode cL_law 1002 = .ok (.iadd, 1) := by decide +kernel
theorem dL_law_1003 : decode cL_law 1003 = .ok (.iaload, 1) := by decide +kernel
theorem dL_law_1004 : decode cL_law 1004 = .ok (.aload_n 3, 1) := by decide +kernel
theorem dL_law_1005 : decode cL_law 1005 = .ok (.invokestatic 145, 3) := by decide +kernel
theorem dL_law_1008 : decode cL_law 1008 = .ok (.istore 5, 2) := by decide +kernel
theorem dL_law_1010 : decode cL_law 1010 = .ok (.aload_n 2, 1) := by decide +kernel
theorem dL_law_1011 : decode cL_law 1011 = .ok (.aload_n 0, 1) := by decide +kernel
theorem dL_law_1012 : decode cL_law 1012 = .ok (.iload 4, 2) := by decide +kernel
theorem dL_law_1014 : decode cL_law 1014 = .ok (.iconst 1, 1) := by decide +kernel
theorem dL_law_1015 : decode cL_law 1015 = .ok (.iadd, 1) := by decide +kernel
theorem dL_law_1016 : decode cL_law 1016 = .ok (.iaload, 1) := by decide +kernel
theorem dL_law_1017 : decode cL_law 1017 = .ok (.aload_n 0, 1) := by decide +kernel
theorem dL_law_1018 : decode cL_law 1018 = .ok (.iload 4, 2) := by decide +kernel
theorem dL_law_1020 : decode cL_law 1020 = .ok (.iconst 2, 1) := by decide +kernel
theorem dL_law_1021 : decode cL_law 1021 = .ok (.iadd, 1) := by decide +kernel
theorem dL_law_1022 : decode cL_law 1022 = .ok (.iaload, 1) := by decide +kernel
theorem dL_law_1023 : decode cL_law 1023 = .ok (.aload_n 0, 1) := by decide +kernel
theorem dL_law_1024 : decode cL_law 1024 = .ok (.iload 4, 2) := by decide +kernel
theorem dL_law_1026 : decode cL_law 1026 = .ok (.iconst 3, 1) := by decide +kernel
theorem dL_law_1027 : decode cL_law 1027 = .ok (.iadd, 1) := by decide +kernel
theorem dL_law_1028 : decode cL_law 1028 = .ok (.iaload, 1) := by decide +kernel
theorem dL_law_1029 : decode cL_law 1029 = .ok (.invokevirtual 147, 3) := by decide +kernel
theorem dL_law_1032 : decode cL_law 1032 = .ok (.istore 6, 2) := by decide +kernel
theorem dL_law_1034 : decode cL_law 1034 = .ok (.aload_n 2, 1) := by decide +kernel
theorem dL_law_1035 : decode cL_law 1035 = .ok (.invokevirtual 95, 3) := by decide +kernel
theorem dL_law_1038 : decode cL_law 1038 = .ok (.iload 5, 2) := by decide +kernel
theorem dL_law_1040 : decode cL_law 1040 = .ok (.if_icmp .eq 5, 3) := by decide +kernel
theorem dL_law_1043 : decode cL_law 1043 = .ok (.iconst 0, 1) := by decide +kernel
theorem dL_law_1044 : decode cL_law 1044 = .ok (.ireturn, 1) := by decide +kernel
theorem dL_law_1045 : decode cL_law 1045 = .ok (.iload 5, 2) := by decide +kernel
theorem dL_law_1047 : decode cL_law 1047 = .ok (.ifCond .ne 15, 3) := by decide +kernel
theorem dL_law_1050 : decode cL_law 1050 = .ok (.aload_n 3, 1) := by decide +kernel
theorem dL_law_1051 : decode cL_law 1051 = .ok (.iconst 0, 1) := by decide +kernel
theorem dL_law_1052 : decode cL_law 1052 = .ok (.laload, 1) := by decide +kernel
theorem dL_law_1053 : decode cL_law 1053 = .ok (.iload 6, 2) := by decide +kernel
theorem dL_law_1055 : decode cL_law 1055 = .ok (.i2l, 1) := by decide +kernel
theorem dL_law_1056 : decode cL_law 1056 = .ok (.lcmp, 1) := by decide +kernel
theorem dL_law_1057 : decode cL_law 1057 = .ok (.ifCond .eq 5, 3) := by decide +kernel
theorem dL_law_1060 : decode cL_law 1060 = .ok (.iconst 0, 1) := by decide +kernel
theorem dL_law_1061 : decode cL_law 1061 = .ok (.ireturn, 1) := by decide +kernel
theorem dL_law_1062 : decode cL_law 1062 = .ok (.goto 374, 3) := by decide +kernel
theorem dL_law_1065 : decode cL_law 1065 = .ok (.aload_n 1, 1) := by decide +kernel
theorem dL_law_1066 : decode cL_law 1066 = .ok (.aload_n 0, 1) := by decide +kernel
theorem dL_law_1067 : decode cL_law 1067 = .ok (.iload 4, 2) := by decide +kernel
theorem dL_law_1069 : decode cL_law 1069 = .ok (.iconst 1, 1) := by decide +kernel
theorem dL_law_1070 : decode cL_law 1070 = .ok (.iadd, 1) := by decide +kernel
theorem dL_law_1071 : decode cL_law 1071 = .ok (.iaload, 1) := by decide +kernel
theorem dL_law_1072 : decode cL_law 1072 = .ok (.aload_n 0, 1) := by decide +kernel
theorem dL_law_1073 : decode cL_law 1073 = .ok (.iload 4, 2) := by decide +kernel
theorem dL_law_1075 : decode cL_law 1075 = .ok (.iconst 2, 1) := by decide +kernel
theorem dL_law_1076 : decode cL_law 1076 = .ok (.iadd, 1) := by decide +kernel
theorem dL_law_1077 : decode cL_law 1077 = .ok (.iaload, 1) := by decide +kernel
theorem dL_law_1078 : decode cL_law 1078 = .ok (.aload_n 3, 1) := by decide +kernel
theorem dL_law_1079 : decode cL_law 1079 = .ok (.invokestatic 148, 3) := by decide +kernel
theorem dL_law_1082 : decode cL_law 1082 = .ok (.istore 5, 2) := by decide +kernel
theorem dL_law_1084 : decode cL_law 1084 = .ok (.aload_n 2, 1) := by decide +kernel
theorem dL_law_1085 : decode cL_law 1085 = .ok (.aload_n 0, 1) := by decide +kernel
theorem dL_law_1086 : decode cL_law 1086 = .ok (.iload 4, 2) := by decide +kernel
theorem dL_law_1088 : decode cL_law 1088 = .ok (.iconst 1, 1) := by decide +kernel
theorem dL_law_1089 : decode cL_law 1089 = .ok (.iadd, 1) := by decide +kernel
theorem dL_law_1090 : decode cL_law 1090 = .ok (.iaload, 1) := by decide +kernel
theorem dL_law_1091 : decode cL_law 1091 = .ok (.aload_n 0, 1) := by decide +kernel
theorem dL_law_1092 : decode cL_law 1092 = .ok (.iload 4, 2) := by decide +kernel
theorem dL_law_1094 : decode cL_law 1094 = .ok (.iconst 2, 1) := by decide +kernel
theorem dL_law_1095 : decode cL_law 1095 = .ok (.iadd, 1) := by decide +kernel
theorem dL_law_1096 : decode cL_law 1096 = .ok (.iaload, 1) := by decide +kernel
theorem dL_law_1097 : decode cL_law 1097 = .ok (.invokevirtual 150, 3) := by decide +kernel
theorem dL_law_1100 : decode cL_law 1100 = .ok (.istore 6, 2) := by decide +kernel
theorem dL_law_1102 : decode cL_law 1102 = .ok (.aload_n 2, 1) := by decide +kernel
theorem dL_law_1103 : decode cL_law 1103 = .ok (.invokevirtual 95, 3) := by decide +kernel
theorem dL_law_1106 : decode cL_law 1106 = .ok (.iload 5, 2) := by decide +kernel
theorem dL_law_1108 : decode cL_law 1108 = .ok (.if_icmp .eq 5, 3) := by decide +kernel
theorem dL_law_1111 : decode cL_law 1111 = .ok (.iconst 0, 1) := by decide +kernel
theorem dL_law_1112 : decode cL_law 1112 = .ok (.ireturn, 1) := by decide +kernel
theorem dL_law_1113 : decode cL_law 1113 = .ok (.iload 5, 2) := by decide +kernel
theorem dL_law_1115 : decode cL_law 1115 = .ok (.ifCond .ne 15, 3) := by decide +kernel
theorem dL_law_1118 : decode cL_law 1118 = .ok (.aload_n 3, 1) := by decide +kernel
theorem dL_law_1119 : decode cL_law 1119 = .ok (.iconst 0, 1) := by decide +kernel
theorem dL_law_1120 : decode cL_law 1120 = .ok (.laload, 1) := by decide +kernel
theorem dL_law_1121 : decode cL_law 1121 = .ok (.iload 6, 2) := by decide +kernel
theorem dL_law_1123 : decode cL_law 1123 = .ok (.i2l, 1) := by decide +kernel
theorem dL_law_1124 : decode cL_law 1124 = .ok (.lcmp, 1) := by decide +kernel
theorem dL_law_1125 : decode cL_law 1125 = .ok (.ifCond .eq 5, 3) := by decide +kernel
theorem dL_law_1128 : decode cL_law 1128 = .ok (.iconst 0, 1) := by decide +kernel
theorem dL_law_1129 : decode cL_law 1129 = .ok (.ireturn, 1) := by decide +kernel
theorem dL_law_1130 : decode cL_law 1130 = .ok (.goto 306, 3) := by decide +kernel
theorem dL_law_1133 : decode cL_law 1133 = .ok (.aload_n 1, 1) := by decide +kernel
theorem dL_law_1134 : decode cL_law 1134 = .ok (.aload_n 0, 1) := by decide +kernel
theorem dL_law_1135 : decode cL_law 1135 = .ok (.iload 4, 2) := by decide +kernel
theorem dL_law_1137 : decode cL_law 1137 = .ok (.iconst 1, 1) := by decide +kernel
theorem dL_law_1138 : decode cL_law 1138 = .ok (.iadd, 1) := by decide +kernel
theorem dL_law_1139 : decode cL_law 1139 = .ok (.iaload, 1) := by decide +kernel
theorem dL_law_1140 : decode cL_law 1140 = .ok (.aload_n 3, 1) := by decide +kernel
theorem dL_law_1141 : decode cL_law 1141 = .ok (.invokestatic 151, 3) := by decide +kernel
theorem dL_law_1144 : decode cL_law 1144 = .ok (.istore 5, 2) := by decide +kernel
theorem dL_law_1146 : decode cL_law 1146 = .ok (.aload_n 2, 1) := by decide +kernel
theorem dL_law_1147 : decode cL_law 1147 = .ok (.aload_n 0, 1) := by decide +kernel
theorem dL_law_1148 : decode cL_law 1148 = .ok (.iload 4, 2) := by decide +kernel
theorem dL_law_1150 : decode cL_law 1150 = .ok (.iconst 1, 1) := by decide +kernel
theorem dL_law_1151 : decode cL_law 1151 = .ok (.iadd, 1) := by decide +kernel
theorem dL_law_1152 : decode cL_law 1152 = .ok (.iaload, 1) := by decide +kernel
theorem dL_law_1153 : decode cL_law 1153 = .ok (.invokevirtual 153, 3) := by decide +kernel
theorem dL_law_1156 : decode cL_law 1156 = .ok (.lstore 6, 2) := by decide +kernel
theorem dL_law_1158 : decode cL_law 1158 = .ok (.aload_n 2, 1) := by decide +kernel
theorem dL_law_1159 : decode cL_law 1159 = .ok (.invokevirtual 95, 3) := by decide +kernel
theorem dL_law_1162 : decode cL_law 1162 = .ok (.iload 5, 2) := by decide +kernel
theorem dL_law_1164 : decode cL_law 1164 = .ok (.if_icmp .eq 5, 3) := by decide +kernel
theorem dL_law_1167 : decode cL_law 1167 = .ok (.iconst 0, 1) := by decide +kernel
theorem dL_law_1168 : decode cL_law 1168 = .ok (.ireturn, 1) := by decide +kernel
theorem dL_law_1169 : decode cL_law 1169 = .ok (.iload 5, 2) := by decide +kernel
theorem dL_law_1171 : decode cL_law 1171 = .ok (.ifCond .ne 14, 3) := by decide +kernel
theorem dL_law_1174 : decode cL_law 1174 = .ok (.aload_n 3, 1) := by decide +kernel
theorem dL_law_1175 : decode cL_law 1175 = .ok (.iconst 0, 1) := by decide +kernel
theorem dL_law_1176 : decode cL_law 1176 = .ok (.laload, 1) := by decide +kernel
theorem dL_law_1177 : decode cL_law 1177 = .ok (.lload 6, 2) := by decide +kernel
theorem dL_law_1179 : decode cL_law 1179 = .ok (.lcmp, 1) := by decide +kernel
theorem dL_law_1180 : decode cL_law 1180 = .ok (.ifCond .eq 5, 3) := by decide +kernel
theorem dL_law_1183 : decode cL_law 1183 = .ok (.iconst 0, 1) := by decide +kernel
theorem dL_law_1184 : decode cL_law 1184 = .ok (.ireturn, 1) := by decide +kernel
theorem dL_law_1185 : decode cL_law 1185 = .ok (.goto 251, 3) := by decide +kernel
theorem dL_law_1188 : decode cL_law 1188 = .ok (.aload_n 1, 1) := by decide +kernel
theorem dL_law_1189 : decode cL_law 1189 = .ok (.aload_n 0, 1) := by decide +kernel
theorem dL_law_1190 : decode cL_law 1190 = .ok (.iload 4, 2) := by decide +kernel
theorem dL_law_1192 : decode cL_law 1192 = .ok (.iconst 1, 1) := by decide +kernel
theorem dL_law_1193 : decode cL_law 1193 = .ok (.iadd, 1) := by decide +kernel
theorem dL_law_1194 : decode cL_law 1194 = .ok (.iaload, 1) := by decide +kernel
theorem dL_law_1195 : decode cL_law 1195 = .ok (.aload_n 3, 1) := by decide +kernel
theorem dL_law_1196 : decode cL_law 1196 = .ok (.invokestatic 154, 3) := by decide +kernel
theorem dL_law_1199 : decode cL_law 1199 = .ok (.istore 5, 2) := by decide +kernel
theorem dL_law_1201 : decode cL_law 1201 = .ok (.aload_n 2, 1) := by decide +kernel
theorem dL_law_1202 : decode cL_law 1202 = .ok (.aload_n 0, 1) := by decide +kernel
theorem dL_law_1203 : decode cL_law 1203 = .ok (.iload 4, 2) := by decide +kernel
theorem dL_law_1205 : decode cL_law 1205 = .ok (.iconst 1, 1) := by decide +kernel
theorem dL_law_1206 : decode cL_law 1206 = .ok (.iadd, 1) := by decide +kernel
theorem dL_law_1207 : decode cL_law 1207 = .ok (.iaload, 1) := by decide +kernel
theorem dL_law_1208 : decode cL_law 1208 = .ok (.invokevirtual 156, 3) := by decide +kernel
theorem dL_law_1211 : decode cL_law 1211 = .ok (.lstore 6, 2) := by decide +kernel
theorem dL_law_1213 : decode cL_law 1213 = .ok (.aload_n 2, 1) := by decide +kernel
theorem dL_law_1214 : decode cL_law 1214 = .ok (.invokevirtual 95, 3) := by decide +kernel
theorem dL_law_1217 : decode cL_law 1217 = .ok (.iload 5, 2) := by decide +kernel
theorem dL_law_1219 : decode cL_law 1219 = .ok (.if_icmp .eq 5, 3) := by decide +kernel
theorem dL_law_1222 : decode cL_law 1222 = .ok (.iconst 0, 1) := by decide +kernel
theorem dL_law_1223 : decode cL_law 1223 = .ok (.ireturn, 1) := by decide +kernel
theorem dL_law_1224 : decode cL_law 1224 = .ok (.iload 5, 2) := by decide +kernel
theorem dL_law_1226 : decode cL_law 1226 = .ok (.ifCond .ne 14, 3) := by decide +kernel
theorem dL_law_1229 : decode cL_law 1229 = .ok (.aload_n 3, 1) := by decide +kernel
theorem dL_law_1230 : decode cL_law 1230 = .ok (.iconst 0, 1) := by decide +kernel
theorem dL_law_1231 : decode cL_law 1231 = .ok (.laload, 1) := by decide +kernel
end
section
theorem dL_law_1232 : decode cL_law 1232 = .ok (.lload 6, 2) := by decide +kernel
theorem dL_law_1234 : decode cL_law 1234 = .ok (.lcmp, 1) := by decide +kernel
theorem dL_law_1235 : decode cL_law 1235 = .ok (.ifCond .eq 5, 3) := by decide +kernel
theorem dL_law_1238 : decode cL_law 1238 = .ok (.iconst 0, 1) := by decide +kernel
theorem dL_law_1239 : decode cL_law 1239 = .ok (.ireturn, 1) := by decide +kernel
theorem dL_law_1240 : decode cL_law 1240 = .ok (.goto 196, 3) := by decide +kernel
theorem dL_law_1243 : decode cL_law 1243 = .ok (.aload_n 1, 1) := by decide +kernel
theorem dL_law_1244 : decode cL_law 1244 = .ok (.aload_n 0, 1) := by decide +kernel
theorem dL_law_1245 : decode cL_law 1245 = .ok (.iload 4, 2) := by decide +kernel
theorem dL_law_1247 : decode cL_law 1247 = .ok (.iconst 1, 1) := by decide +kernel
theorem dL_law_1248 : decode cL_law 1248 = .ok (.iadd, 1) := by decide +kernel
theorem dL_law_1249 : decode cL_law 1249 = .ok (.iaload, 1) := by decide +kernel
theorem dL_law_1250 : decode cL_law 1250 = .ok (.aload_n 3, 1) := by decide +kernel
theorem dL_law_1251 : decode cL_law 1251 = .ok (.invokestatic 157, 3) := by decide +kernel
theorem dL_law_1254 : decode cL_law 1254 = .ok (.istore 5, 2) := by decide +kernel
theorem dL_law_1256 : decode cL_law 1256 = .ok (.aload_n 2, 1) := by decide +kernel
theorem dL_law_1257 : decode cL_law 1257 = .ok (.aload_n 0, 1) := by decide +kernel
theorem dL_law_1258 : decode cL_law 1258 = .ok (.iload 4, 2) := by decide +kernel
theorem dL_law_1260 : decode cL_law 1260 = .ok (.iconst 1, 1) := by decide +kernel
theorem dL_law_1261 : decode cL_law 1261 = .ok (.iadd, 1) := by decide +kernel
theorem dL_law_1262 : decode cL_law 1262 = .ok (.iaload, 1) := by decide +kernel
theorem dL_law_1263 : decode cL_law 1263 = .ok (.invokevirtual 159, 3) := by decide +kernel
theorem dL_law_1266 : decode cL_law 1266 = .ok (.lstore 6, 2) := by decide +kernel
theorem dL_law_1268 : decode cL_law 1268 = .ok (.aload_n 2, 1) := by decide +kernel
theorem dL_law_1269 : decode cL_law 1269 = .ok (.invokevirtual 95, 3) := by decide +kernel
theorem dL_law_1272 : decode cL_law 1272 = .ok (.iload 5, 2) := by decide +kernel
theorem dL_law_1274 : decode cL_law 1274 = .ok (.if_icmp .eq 5, 3) := by decide +kernel
theorem dL_law_1277 : decode cL_law 1277 = .ok (.iconst 0, 1) := by decide +kernel
theorem dL_law_1278 : decode cL_law 1278 = .ok (.ireturn, 1) := by decide +kernel
theorem dL_law_1279 : decode cL_law 1279 = .ok (.iload 5, 2) := by decide +kernel
theorem dL_law_1281 : decode cL_law 1281 = .ok (.ifCond .ne 14, 3) := by decide +kernel
theorem dL_law_1284 : decode cL_law 1284 = .ok (.aload_n 3, 1) := by decide +kernel
theorem dL_law_1285 : decode cL_law 1285 = .ok (.iconst 0, 1) := by decide +kernel
theorem dL_law_1286 : decode cL_law 1286 = .ok (.laload, 1) := by decide +kernel
theorem dL_law_1287 : decode cL_law 1287 = .ok (.lload 6, 2) := by decide +kernel
theorem dL_law_1289 : decode cL_law 1289 = .ok (.lcmp, 1) := by decide +kernel
theorem dL_law_1290 : decode cL_law 1290 = .ok (.ifCond .eq 5, 3) := by decide +kernel
theorem dL_law_1293 : decode cL_law 1293 = .ok (.iconst 0, 1) := by decide +kernel
theorem dL_law_1294 : decode cL_law 1294 = .ok (.ireturn, 1) := by decide +kernel
theorem dL_law_1295 : decode cL_law 1295 = .ok (.goto 141, 3) := by decide +kernel
theorem dL_law_1298 : decode cL_law 1298 = .ok (.aload_n 1, 1) := by decide +kernel
theorem dL_law_1299 : decode cL_law 1299 = .ok (.aload_n 0, 1) := by decide +kernel
theorem dL_law_1300 : decode cL_law 1300 = .ok (.iload 4, 2) := by decide +kernel
theorem dL_law_1302 : decode cL_law 1302 = .ok (.iconst 1, 1) := by decide +kernel
theorem dL_law_1303 : decode cL_law 1303 = .ok (.iadd, 1) := by decide +kernel
theorem dL_law_1304 : decode cL_law 1304 = .ok (.iaload, 1) := by decide +kernel
theorem dL_law_1305 : decode cL_law 1305 = .ok (.aload_n 3, 1) := by decide +kernel
theorem dL_law_1306 : decode cL_law 1306 = .ok (.invokestatic 160, 3) := by decide +kernel
theorem dL_law_1309 : decode cL_law 1309 = .ok (.istore 5, 2) := by decide +kernel
theorem dL_law_1311 : decode cL_law 1311 = .ok (.aload_n 2, 1) := by decide +kernel
theorem dL_law_1312 : decode cL_law 1312 = .ok (.aload_n 0, 1) := by decide +kernel
theorem dL_law_1313 : decode cL_law 1313 = .ok (.iload 4, 2) := by decide +kernel
theorem dL_law_1315 : decode cL_law 1315 = .ok (.iconst 1, 1) := by decide +kernel
theorem dL_law_1316 : decode cL_law 1316 = .ok (.iadd, 1) := by decide +kernel
theorem dL_law_1317 : decode cL_law 1317 = .ok (.iaload, 1) := by decide +kernel
theorem dL_law_1318 : decode cL_law 1318 = .ok (.invokevirtual 162, 3) := by decide +kernel
theorem dL_law_1321 : decode cL_law 1321 = .ok (.lstore 6, 2) := by decide +kernel
theorem dL_law_1323 : decode cL_law 1323 = .ok (.aload_n 2, 1) := by decide +kernel
theorem dL_law_1324 : decode cL_law 1324 = .ok (.invokevirtual 95, 3) := by decide +kernel
theorem dL_law_1327 : decode cL_law 1327 = .ok (.iload 5, 2) := by decide +kernel
theorem dL_law_1329 : decode cL_law 1329 = .ok (.if_icmp .eq 5, 3) := by decide +kernel
theorem dL_law_1332 : decode cL_law 1332 = .ok (.iconst 0, 1) := by decide +kernel
theorem dL_law_1333 : decode cL_law 1333 = .ok (.ireturn, 1) := by decide +kernel
theorem dL_law_1334 : decode cL_law 1334 = .ok (.iload 5, 2) := by decide +kernel
theorem dL_law_1336 : decode cL_law 1336 = .ok (.ifCond .ne 14, 3) := by decide +kernel
theorem dL_law_1339 : decode cL_law 1339 = .ok (.aload_n 3, 1) := by decide +kernel
theorem dL_law_1340 : decode cL_law 1340 = .ok (.iconst 0, 1) := by decide +kernel
theorem dL_law_1341 : decode cL_law 1341 = .ok (.laload, 1) := by decide +kernel
theorem dL_law_1342 : decode cL_law 1342 = .ok (.lload 6, 2) := by decide +kernel
theorem dL_law_1344 : decode cL_law 1344 = .ok (.lcmp, 1) := by decide +kernel
theorem dL_law_1345 : decode cL_law 1345 = .ok (.ifCond .eq 5, 3) := by decide +kernel
theorem dL_law_1348 : decode cL_law 1348 = .ok (.iconst 0, 1) := by decide +kernel
theorem dL_law_1349 : decode cL_law 1349 = .ok (.ireturn, 1) := by decide +kernel
theorem dL_law_1350 : decode cL_law 1350 = .ok (.goto 86, 3) := by decide +kernel
theorem dL_law_1353 : decode cL_law 1353 = .ok (.aload_n 1, 1) := by decide +kernel
theorem dL_law_1354 : decode cL_law 1354 = .ok (.aload_n 0, 1) := by decide +kernel
theorem dL_law_1355 : decode cL_law 1355 = .ok (.iload 4, 2) := by decide +kernel
theorem dL_law_1357 : decode cL_law 1357 = .ok (.iconst 1, 1) := by decide +kernel
theorem dL_law_1358 : decode cL_law 1358 = .ok (.iadd, 1) := by decide +kernel
theorem dL_law_1359 : decode cL_law 1359 = .ok (.iaload, 1) := by decide +kernel
theorem dL_law_1360 : decode cL_law 1360 = .ok (.aload_n 0, 1) := by decide +kernel
theorem dL_law_1361 : decode cL_law 1361 = .ok (.iload 4, 2) := by decide +kernel
theorem dL_law_1363 : decode cL_law 1363 = .ok (.iconst 2, 1) := by decide +kernel
theorem dL_law_1364 : decode cL_law 1364 = .ok (.iadd, 1) := by decide +kernel
theorem dL_law_1365 : decode cL_law 1365 = .ok (.iaload, 1) := by decide +kernel
theorem dL_law_1366 : decode cL_law 1366 = .ok (.ifCond .eq 7, 3) := by decide +kernel
theorem dL_law_1369 : decode cL_law 1369 = .ok (.iconst 1, 1) := by decide +kernel
theorem dL_law_1370 : decode cL_law 1370 = .ok (.goto 4, 3) := by decide +kernel
theorem dL_law_1373 : decode cL_law 1373 = .ok (.iconst 0, 1) := by decide +kernel
theorem dL_law_1374 : decode cL_law 1374 = .ok (.aload_n 3, 1) := by decide +kernel
theorem dL_law_1375 : decode cL_law 1375 = .ok (.invokestatic 163, 3) := by decide +kernel
theorem dL_law_1378 : decode cL_law 1378 = .ok (.istore 5, 2) := by decide +kernel
theorem dL_law_1380 : decode cL_law 1380 = .ok (.aload_n 2, 1) := by decide +kernel
theorem dL_law_1381 : decode cL_law 1381 = .ok (.aload_n 0, 1) := by decide +kernel
theorem dL_law_1382 : decode cL_law 1382 = .ok (.iload 4, 2) := by decide +kernel
theorem dL_law_1384 : decode cL_law 1384 = .ok (.iconst 1, 1) := by decide +kernel
theorem dL_law_1385 : decode cL_law 1385 = .ok (.iadd, 1) := by decide +kernel
theorem dL_law_1386 : decode cL_law 1386 = .ok (.iaload, 1) := by decide +kernel
theorem dL_law_1387 : decode cL_law 1387 = .ok (.aload_n 0, 1) := by decide +kernel
theorem dL_law_1388 : decode cL_law 1388 = .ok (.iload 4, 2) := by decide +kernel
theorem dL_law_1390 : decode cL_law 1390 = .ok (.iconst 2, 1) := by decide +kernel
theorem dL_law_1391 : decode cL_law 1391 = .ok (.iadd, 1) := by decide +kernel
theorem dL_law_1392 : decode cL_law 1392 = .ok (.iaload, 1) := by decide +kernel
theorem dL_law_1393 : decode cL_law 1393 = .ok (.ifCond .eq 7, 3) := by decide +kernel
theorem dL_law_1396 : decode cL_law 1396 = .ok (.iconst 1, 1) := by decide +kernel
theorem dL_law_1397 : decode cL_law 1397 = .ok (.goto 4, 3) := by decide +kernel
theorem dL_law_1400 : decode cL_law 1400 = .ok (.iconst 0, 1) := by decide +kernel
theorem dL_law_1401 : decode cL_law 1401 = .ok (.invokevirtual 166, 3) := by decide +kernel
theorem dL_law_1404 : decode cL_law 1404 = .ok (.lstore 6, 2) := by decide +kernel
theorem dL_law_1406 : decode cL_law 1406 = .ok (.aload_n 2, 1) := by decide +kernel
theorem dL_law_1407 : decode cL_law 1407 = .ok (.invokevirtual 95, 3) := by decide +kernel
theorem dL_law_1410 : decode cL_law 1410 = .ok (.iload 5, 2) := by decide +kernel
theorem dL_law_1412 : decode cL_law 1412 = .ok (.if_icmp .eq 5, 3) := by decide +kernel
theorem dL_law_1415 : decode cL_law 1415 = .ok (.iconst 0, 1) := by decide +kernel
theorem dL_law_1416 : decode cL_law 1416 = .ok (.ireturn, 1) := by decide +kernel
theorem dL_law_1417 : decode cL_law 1417 = .ok (.iload 5, 2) := by decide +kernel
theorem dL_law_1419 : decode cL_law 1419 = .ok (.ifCond .ne 14, 3) := by decide +kernel
theorem dL_law_1422 : decode cL_law 1422 = .ok (.aload_n 3, 1) := by decide +kernel
theorem dL_law_1423 : decode cL_law 1423 = .ok (.iconst 0, 1) := by decide +kernel
theorem dL_law_1424 : decode cL_law 1424 = .ok (.laload, 1) := by decide +kernel
theorem dL_law_1425 : decode cL_law 1425 = .ok (.lload 6, 2) := by decide +kernel
theorem dL_law_1427 : decode cL_law 1427 = .ok (.lcmp, 1) := by decide +kernel
theorem dL_law_1428 : decode cL_law 1428 = .ok (.ifCond .eq 5, 3) := by decide +kernel
theorem dL_law_1431 : decode cL_law 1431 = .ok (.iconst 0, 1) := by decide +kernel
theorem dL_law_1432 : decode cL_law 1432 = .ok (.ireturn, 1) := by decide +kernel
theorem dL_law_1433 : decode cL_law 1433 = .ok (.goto 3, 3) := by decide +kernel
theorem dL_law_1436 : decode cL_law 1436 = .ok (.iinc 4 5, 3) := by decide +kernel
theorem dL_law_1439 : decode cL_law 1439 = .ok (.goto (-1416), 3) := by decide +kernel
theorem dL_law_1442 : decode cL_law 1442 = .ok (.iconst 1, 1) := by decide +kernel
theorem dL_law_1443 : decode cL_law 1443 = .ok (.ireturn, 1) := by decide +kernel
end
section
theorem wo_0 {G : wG} {V : wV} {I : wI} {J : wJ} {x : Int32} : ∀ j, j ≠ 0 → wEnt G V I J j = wEnt G (upd V 0 x) I J j := by
  intro j hj
  rcases Nat.lt_or_ge j 8 with h | h
  · rcases (show j = 0 ∨ j = 1 ∨ j = 2 ∨ j = 3 ∨ j = 4 ∨ j = 5 ∨ j = 6 ∨ j = 7 by omega) with rfl | rfl | rfl | rfl | rfl | rfl | rfl | rfl <;> first | rfl | exact absurd rfl hj
  · rw [wEnt_arr G _ _ _ h, wEnt_arr G _ _ _ h]
theorem wo_1 {G : wG} {V : wV} {I : wI} {J : wJ} {x : Int32} : ∀ j, j ≠ 1 → wEnt G V I J j = wEnt G (upd V 1 x) I J j := by
  intro j hj
  rcases Nat.lt_or_ge j 8 with h | h
  · rcases (show j = 0 ∨ j = 1 ∨ j = 2 ∨ j = 3 ∨ j = 4 ∨ j = 5 ∨ j = 6 ∨ j = 7 by omega) with rfl | rfl | rfl | rfl | rfl | rfl | rfl | rfl <;> first | rfl | exact absurd rfl hj
  · rw [wEnt_arr G _ _ _ h, wEnt_arr G _ _ _ h]
theorem wo_2 {G : wG} {V : wV} {I : wI} {J : wJ} {x : Int32} : ∀ j, j ≠ 1 → wEnt G V I J j = wEnt G (upd V 2 x) I J j := by
  intro j hj
  rcases Nat.lt_or_ge j 8 with h | h
  · rcases (show j = 0 ∨ j = 1 ∨ j = 2 ∨ j = 3 ∨ j = 4 ∨ j = 5 ∨ j = 6 ∨ j = 7 by omega) with rfl | rfl | rfl | rfl | rfl | rfl | rfl | rfl <;> first | rfl | exact absurd rfl hj
  · rw [wEnt_arr G _ _ _ h, wEnt_arr G _ _ _ h]
theorem wo_3 {G : wG} {V : wV} {I : wI} {J : wJ} {x : Int32} : ∀ j, j ≠ 2 → wEnt G V I J j = wEnt G (upd V 3 x) I J j := by
  intro j hj
  rcases Nat.lt_or_ge j 8 with h | h
  · rcases (show j = 0 ∨ j = 1 ∨ j = 2 ∨ j = 3 ∨ j = 4 ∨ j = 5 ∨ j = 6 ∨ j = 7 by omega) with rfl | rfl | rfl | rfl | rfl | rfl | rfl | rfl <;> first | rfl | exact absurd rfl hj
  · rw [wEnt_arr G _ _ _ h, wEnt_arr G _ _ _ h]
theorem wo_4 {G : wG} {V : wV} {I : wI} {J : wJ} {x : Int32} : ∀ j, j ≠ 3 → wEnt G V I J j = wEnt G (upd V 4 x) I J j := by
  intro j hj
  rcases Nat.lt_or_ge j 8 with h | h
  · rcases (show j = 0 ∨ j = 1 ∨ j = 2 ∨ j = 3 ∨ j = 4 ∨ j = 5 ∨ j = 6 ∨ j = 7 by omega) with rfl | rfl | rfl | rfl | rfl | rfl | rfl | rfl <;> first | rfl | exact absurd rfl hj
  · rw [wEnt_arr G _ _ _ h, wEnt_arr G _ _ _ h]
theorem wo_5 {G : wG} {V : wV} {I : wI} {J : wJ} {x : Int32} : ∀ j, j ≠ 4 → wEnt G V I J j = wEnt G (upd V 5 x) I J j := by
  intro j hj
  rcases Nat.lt_or_ge j 8 with h | h
  · rcases (show j = 0 ∨ j = 1 ∨ j = 2 ∨ j = 3 ∨ j = 4 ∨ j = 5 ∨ j = 6 ∨ j = 7 by omega) with rfl | rfl | rfl | rfl | rfl | rfl | rfl | rfl <;> first | rfl | exact absurd rfl hj
  · rw [wEnt_arr G _ _ _ h, wEnt_arr G _ _ _ h]
theorem wo_6 {G : wG} {V : wV} {I : wI} {J : wJ} {x : Int32} : ∀ j, j ≠ 5 → wEnt G V I J j = wEnt G (upd V 6 x) I J j := by
  intro j hj
  rcases Nat.lt_or_ge j 8 with h | h
  · rcases (show j = 0 ∨ j = 1 ∨ j = 2 ∨ j = 3 ∨ j = 4 ∨ j = 5 ∨ j = 6 ∨ j = 7 by omega) with rfl | rfl | rfl | rfl | rfl | rfl | rfl | rfl <;> first | rfl | exact absurd rfl hj
  · rw [wEnt_arr G _ _ _ h, wEnt_arr G _ _ _ h]
theorem wo_7 {G : wG} {V : wV} {I : wI} {J : wJ} {x : Int32} : ∀ j, j ≠ 7 → wEnt G V I J j = wEnt G (upd V 7 x) I J j := by
  intro j hj
  rcases Nat.lt_or_ge j 8 with h | h
  · rcases (show j = 0 ∨ j = 1 ∨ j = 2 ∨ j = 3 ∨ j = 4 ∨ j = 5 ∨ j = 6 ∨ j = 7 by omega) with rfl | rfl | rfl | rfl | rfl | rfl | rfl | rfl <;> first | rfl | exact absurd rfl hj
  · rw [wEnt_arr G _ _ _ h, wEnt_arr G _ _ _ h]
theorem wo_8 {G : wG} {V : wV} {I : wI} {J : wJ} {x : Int32} : ∀ j, j ≠ 7 → wEnt G V I J j = wEnt G (upd V 8 x) I J j := by
  intro j hj
  rcases Nat.lt_or_ge j 8 with h | h
  · rcases (show j = 0 ∨ j = 1 ∨ j = 2 ∨ j = 3 ∨ j = 4 ∨ j = 5 ∨ j = 6 ∨ j = 7 by omega) with rfl | rfl | rfl | rfl | rfl | rfl | rfl | rfl <;> first | rfl | exact absurd rfl hj
  · rw [wEnt_arr G _ _ _ h, wEnt_arr G _ _ _ h]
theorem wo_9 {G : wG} {V : wV} {I : wI} {J : wJ} {x : Int32} : ∀ j, j ≠ 7 → wEnt G V I J j = wEnt G (upd V 9 x) I J j := by
  intro j hj
  rcases Nat.lt_or_ge j 8 with h | h
  · rcases (show j = 0 ∨ j = 1 ∨ j = 2 ∨ j = 3 ∨ j = 4 ∨ j = 5 ∨ j = 6 ∨ j = 7 by omega) with rfl | rfl | rfl | rfl | rfl | rfl | rfl | rfl <;> first | rfl | exact absurd rfl hj
  · rw [wEnt_arr G _ _ _ h, wEnt_arr G _ _ _ h]
theorem wo_10 {G : wG} {V : wV} {I : wI} {J : wJ} {x : Int32} : ∀ j, j ≠ 7 → wEnt G V I J j = wEnt G (upd V 10 x) I J j := by
  intro j hj
  rcases Nat.lt_or_ge j 8 with h | h
  · rcases (show j = 0 ∨ j = 1 ∨ j = 2 ∨ j = 3 ∨ j = 4 ∨ j = 5 ∨ j = 6 ∨ j = 7 by omega) with rfl | rfl | rfl | rfl | rfl | rfl | rfl | rfl <;> first | rfl | exact absurd rfl hj
  · rw [wEnt_arr G _ _ _ h, wEnt_arr G _ _ _ h]
theorem wo_11 {G : wG} {V : wV} {I : wI} {J : wJ} {x : Int32} : ∀ j, j ≠ 7 → wEnt G V I J j = wEnt G (upd V 11 x) I J j := by
  intro j hj
  rcases Nat.lt_or_ge j 8 with h | h
  · rcases (show j = 0 ∨ j = 1 ∨ j = 2 ∨ j = 3 ∨ j = 4 ∨ j = 5 ∨ j = 6 ∨ j = 7 by omega) with rfl | rfl | rfl | rfl | rfl | rfl | rfl | rfl <;> first | rfl | exact absurd rfl hj
  · rw [wEnt_arr G _ _ _ h, wEnt_arr G _ _ _ h]
theorem wo_12 {G : wG} {V : wV} {I : wI} {J : wJ} {x : Int32} : ∀ j, j ≠ 7 → wEnt G V I J j = wEnt G (upd V 12 x) I J j := by
  intro j hj
  rcases Nat.lt_or_ge j 8 with h | h
  · rcases (show j = 0 ∨ j = 1 ∨ j = 2 ∨ j = 3 ∨ j = 4 ∨ j = 5 ∨ j = 6 ∨ j = 7 by omega) with rfl | rfl | rfl | rfl | rfl | rfl | rfl | rfl <;> first | rfl | exact absurd rfl hj
  · rw [wEnt_arr G _ _ _ h, wEnt_arr G _ _ _ h]
theorem wo_13 {G : wG} {V : wV} {I : wI} {J : wJ} {x : Int32} : ∀ j, j ≠ 7 → wEnt G V I J j = wEnt G (upd V 13 x) I J j := by
  intro j hj
  rcases Nat.lt_or_ge j 8 with h | h
  · rcases (show j = 0 ∨ j = 1 ∨ j = 2 ∨ j = 3 ∨ j = 4 ∨ j = 5 ∨ j = 6 ∨ j = 7 by omega) with rfl | rfl | rfl | rfl | rfl | rfl | rfl | rfl <;> first | rfl | exact absurd rfl hj
  · rw [wEnt_arr G _ _ _ h, wEnt_arr G _ _ _ h]
theorem wo_14 {G : wG} {V : wV} {I : wI} {J : wJ} {x : Int32} : ∀ j, j ≠ 7 → wEnt G V I J j = wEnt G (upd V 14 x) I J j := by
  intro j hj
  rcases Nat.lt_or_ge j 8 with h | h
  · rcases (show j = 0 ∨ j = 1 ∨ j = 2 ∨ j = 3 ∨ j = 4 ∨ j = 5 ∨ j = 6 ∨ j = 7 by omega) with rfl | rfl | rfl | rfl | rfl | rfl | rfl | rfl <;> first | rfl | exact absurd rfl hj
  · rw [wEnt_arr G _ _ _ h, wEnt_arr G _ _ _ h]
section GF
variable {K : wK} {G : wG} {cells slots : Nat} {Q : State → Prop} {V : wV} {I : wI} {J : wJ} {pc : Nat} {lv : List (Nat × Value)} {st : List Value} {cc : ByteArray} {nL : Nat}

theorem gf_X4_9 (C : Cx K G RX4 cc nL) (hd : decode cc pc = .ok (.getfield 9, 3)) (k : WW K G cells slots Q V I J (pc + 3) lv (.ref (G.2.1 8) :: st)) : WW K G cells slots Q V I J (pc) lv (.ref (G.2.1 1) :: st) := g_get C 1 (by decide) rfl rfl inT4 0 (by decide) tw_63 rfl hd k
theorem gf_X4_15 (C : Cx K G RX4 cc nL) (hd : decode cc pc = .ok (.getfield 15, 3)) (k : WW K G cells slots Q V I J (pc + 3) lv (.ref (G.2.1 9) :: st)) : WW K G cells slots Q V I J (pc) lv (.ref (G.2.1 1) :: st) := g_get C 1 (by decide) rfl rfl inT4 1 (by decide) tw_64 rfl hd k
theorem gf_X4_18 (C : Cx K G RX4 cc nL) (hd : decode cc pc = .ok (.getfield 18, 3)) (k : WW K G cells slots Q V I J (pc + 3) lv (.ref (G.2.1 10) :: st)) : WW K G cells slots Q V I J (pc) lv (.ref (G.2.1 1) :: st) := g_get C 1 (by decide) rfl rfl inT4 2 (by decide) tw_65 rfl hd k
theorem gf_X4_21 (C : Cx K G RX4 cc nL) (hd : decode cc pc = .ok (.getfield 21, 3)) (k : WW K G cells slots Q V I J (pc + 3) lv (.ref (G.2.1 11) :: st)) : WW K G cells slots Q V I J (pc) lv (.ref (G.2.1 1) :: st) := g_get C 1 (by decide) rfl rfl inT4 3 (by decide) tw_67 rfl hd k
theorem gf_X4_26 (C : Cx K G RX4 cc nL) (hd : decode cc pc = .ok (.getfield 26, 3)) (k : WW K G cells slots Q V I J (pc + 3) lv (.ref (G.2.1 33) :: st)) : WW K G cells slots Q V I J (pc) lv (.ref (G.2.1 1) :: st) := g_get C 1 (by decide) rfl rfl inT4 4 (by decide) tw_69 rfl hd k
theorem gf_X4_30 (C : Cx K G RX4 cc nL) (hd : decode cc pc = .ok (.getfield 30, 3)) (k : WW K G cells slots Q V I J (pc + 3) lv (.int (V 1) :: st)) : WW K G cells slots Q V I J (pc) lv (.ref (G.2.1 1) :: st) := g_get C 1 (by decide) rfl rfl inT4 5 (by decide) tw_71 rfl hd k
theorem gp_X4_30 (C : Cx K G RX4 cc nL) {x : Int32} (hd : decode cc pc = .ok (.putfield 30, 3)) (k : WW K G cells slots Q (upd V 1 x) I J (pc + 3) lv (st)) : WW K G cells slots Q V I J (pc) lv (.int x :: .ref (G.2.1 1) :: st) := g_put C 1 (by decide) 1 tyX4 rfl rfl inT4 tyX4_ok nmX4 5 (by decide) tw_71 rfl (by decide +kernel) (Nat.le_of_ble_eq_true rfl) rfl wo_1 hd k
theorem gf_X4_34 (C : Cx K G RX4 cc nL) (hd : decode cc pc = .ok (.getfield 34, 3)) (k : WW K G cells slots Q V I J (pc + 3) lv (.int (V 2) :: st)) : WW K G cells slots Q V I J (pc) lv (.ref (G.2.1 1) :: st) := g_get C 1 (by decide) rfl rfl inT4 6 (by decide) tw_73 rfl hd k
theorem gp_X4_34 (C : Cx K G RX4 cc nL) {x : Int32} (hd : decode cc pc = .ok (.putfield 34, 3)) (k : WW K G cells slots Q (upd V 2 x) I J (pc + 3) lv (st)) : WW K G cells slots Q V I J (pc) lv (.int x :: .ref (G.2.1 1) :: st) := g_put C 1 (by decide) 2 tyX4 rfl rfl inT4 tyX4_ok nmX4 6 (by decide) tw_73 rfl (by decide +kernel) (Nat.le_of_ble_eq_true rfl) rfl wo_2 hd k
theorem gf_X5_9 (C : Cx K G RX5 cc nL) (hd : decode cc pc = .ok (.getfield 9, 3)) (k : WW K G cells slots Q V I J (pc + 3) lv (.ref (G.2.1 12) :: st)) : WW K G cells slots Q V I J (pc) lv (.ref (G.2.1 2) :: st) := g_get C 2 (by decide) rfl rfl inT5 0 (by decide) tw_97 rfl hd k
theorem gf_X5_15 (C : Cx K G RX5 cc nL) (hd : decode cc pc = .ok (.getfield 15, 3)) (k : WW K G cells slots Q V I J (pc + 3) lv (.ref (G.2.1 13) :: st)) : WW K G cells slots Q V I J (pc) lv (.ref (G.2.1 2) :: st) := g_get C 2 (by decide) rfl rfl inT5 1 (by decide) tw_99 rfl hd k
theorem gf_X5_18 (C : Cx K G RX5 cc nL) (hd : decode cc pc = .ok (.getfield 18, 3)) (k : WW K G cells slots Q V I J (pc + 3) lv (.int (V 3) :: st)) : WW K G cells slots Q V I J (pc) lv (.ref (G.2.1 2) :: st) := g_get C 2 (by decide) rfl rfl inT5 2 (by decide) tw_101 rfl hd k
theorem gp_X5_18 (C : Cx K G RX5 cc nL) {x : Int32} (hd : decode cc pc = .ok (.putfield 18, 3)) (k : WW K G cells slots Q (upd V 3 x) I J (pc + 3) lv (st)) : WW K G cells slots Q V I J (pc) lv (.int x :: .ref (G.2.1 2) :: st) := g_put C 2 (by decide) 3 tyX5 rfl rfl inT5 tyX5_ok nmX5 2 (by decide) tw_101 rfl (by decide +kernel) (Nat.le_of_ble_eq_true rfl) rfl wo_3 hd k
theorem gf_X2_9 (C : Cx K G RX2 cc nL) (hd : decode cc pc = .ok (.getfield 9, 3)) (k : WW K G cells slots Q V I J (pc + 3) lv (.ref (G.2.1 14) :: st)) : WW K G cells slots Q V I J (pc) lv (.ref (G.2.1 3) :: st) := g_get C 3 (by decide) rfl rfl inT2 0 (by decide) tw_116 rfl hd k
theorem gf_X2_15 (C : Cx K G RX2 cc nL) (hd : decode cc pc = .ok (.getfield 15, 3)) (k : WW K G cells slots Q V I J (pc + 3) lv (.ref (G.2.1 15) :: st)) : WW K G cells slots Q V I J (pc) lv (.ref (G.2.1 3) :: st) := g_get C 3 (by decide) rfl rfl inT2 1 (by decide) tw_118 rfl hd k
theorem gf_X2_18 (C : Cx K G RX2 cc nL) (hd : decode cc pc = .ok (.getfield 18, 3)) (k : WW K G cells slots Q V I J (pc + 3) lv (.ref (G.2.1 16) :: st)) : WW K G cells slots Q V I J (pc) lv (.ref (G.2.1 3) :: st) := g_get C 3 (by decide) rfl rfl inT2 2 (by decide) tw_120 rfl hd k
theorem gf_X2_21 (C : Cx K G RX2 cc nL) (hd : decode cc pc = .ok (.getfield 21, 3)) (k : WW K G cells slots Q V I J (pc + 3) lv (.ref (G.2.1 17) :: st)) : WW K G cells slots Q V I J (pc) lv (.ref (G.2.1 3) :: st) := g_get C 3 (by decide) rfl rfl inT2 3 (by decide) tw_121 rfl hd k
theorem gf_X2_24 (C : Cx K G RX2 cc nL) (hd : decode cc pc = .ok (.getfield 24, 3)) (k : WW K G cells slots Q V I J (pc + 3) lv (.ref (G.2.1 18) :: st)) : WW K G cells slots Q V I J (pc) lv (.ref (G.2.1 3) :: st) := g_get C 3 (by decide) rfl rfl inT2 4 (by decide) tw_122 rfl hd k
theorem gf_X2_27 (C : Cx K G RX2 cc nL) (hd : decode cc pc = .ok (.getfield 27, 3)) (k : WW K G cells slots Q V I J (pc + 3) lv (.int (V 4) :: st)) : WW K G cells slots Q V I J (pc) lv (.ref (G.2.1 3) :: st) := g_get C 3 (by decide) rfl rfl inT2 5 (by decide) tw_123 rfl hd k
theorem gp_X2_27 (C : Cx K G RX2 cc nL) {x : Int32} (hd : decode cc pc = .ok (.putfield 27, 3)) (k : WW K G cells slots Q (upd V 4 x) I J (pc + 3) lv (st)) : WW K G cells slots Q V I J (pc) lv (.int x :: .ref (G.2.1 3) :: st) := g_put C 3 (by decide) 4 tyX2 rfl rfl inT2 tyX2_ok nmX2 5 (by decide) tw_123 rfl (by decide +kernel) (Nat.le_of_ble_eq_true rfl) rfl wo_4 hd k
theorem gf_X3_9 (C : Cx K G RX3 cc nL) (hd : decode cc pc = .ok (.getfield 9, 3)) (k : WW K G cells slots Q V I J (pc + 3) lv (.ref (G.2.1 19) :: st)) : WW K G cells slots Q V I J (pc) lv (.ref (G.2.1 4) :: st) := g_get C 4 (by decide) rfl rfl inT3 0 (by decide) tw_144 rfl hd k
theorem gf_X3_15 (C : Cx K G RX3 cc nL) (hd : decode cc pc = .ok (.getfield 15, 3)) (k : WW K G cells slots Q V I J (pc + 3) lv (.ref (G.2.1 20) :: st)) : WW K G cells slots Q V I J (pc) lv (.ref (G.2.1 4) :: st) := g_get C 4 (by decide) rfl rfl inT3 1 (by decide) tw_146 rfl hd k
theorem gf_X3_18 (C : Cx K G RX3 cc nL) (hd : decode cc pc = .ok (.getfield 18, 3)) (k : WW K G cells slots Q V I J (pc + 3) lv (.ref (G.2.1 21) :: st)) : WW K G cells slots Q V I J (pc) lv (.ref (G.2.1 4) :: st) := g_get C 4 (by decide) rfl rfl inT3 2 (by decide) tw_148 rfl hd k
theorem gf_X3_21 (C : Cx K G RX3 cc nL) (hd : decode cc pc = .ok (.getfield 21, 3)) (k : WW K G cells slots Q V I J (pc + 3) lv (.ref (G.2.1 22) :: st)) : WW K G cells slots Q V I J (pc) lv (.ref (G.2.1 4) :: st) := g_get C 4 (by decide) rfl rfl inT3 3 (by decide) tw_150 rfl hd k
theorem gf_X3_25 (C : Cx K G RX3 cc nL) (hd : decode cc pc = .ok (.getfield 25, 3)) (k : WW K G cells slots Q V I J (pc + 3) lv (.ref (G.2.1 23) :: st)) : WW K G cells slots Q V I J (pc) lv (.ref (G.2.1 4) :: st) := g_get C 4 (by decide) rfl rfl inT3 4 (by decide) tw_152 rfl hd k
theorem gf_X3_28 (C : Cx K G RX3 cc nL) (hd : decode cc pc = .ok (.getfield 28, 3)) (k : WW K G cells slots Q V I J (pc + 3) lv (.int (V 5) :: st)) : WW K G cells slots Q V I J (pc) lv (.ref (G.2.1 4) :: st) := g_get C 4 (by decide) rfl rfl inT3 5 (by decide) tw_154 rfl hd k
theorem gp_X3_28 (C : Cx K G RX3 cc nL) {x : Int32} (hd : decode cc pc = .ok (.putfield 28, 3)) (k : WW K G cells slots Q (upd V 5 x) I J (pc + 3) lv (st)) : WW K G cells slots Q V I J (pc) lv (.int x :: .ref (G.2.1 4) :: st) := g_put C 4 (by decide) 5 tyX3 rfl rfl inT3 tyX3_ok nmX3 5 (by decide) tw_154 rfl (by decide +kernel) (Nat.le_of_ble_eq_true rfl) rfl wo_5 hd k
theorem gf_X1_9 (C : Cx K G RX1 cc nL) (hd : decode cc pc = .ok (.getfield 9, 3)) (k : WW K G cells slots Q V I J (pc + 3) lv (.ref (G.2.1 24) :: st)) : WW K G cells slots Q V I J (pc) lv (.ref (G.2.1 5) :: st) := g_get C 5 (by decide) rfl rfl inT1 0 (by decide) tw_177 rfl hd k
theorem gf_X1_15 (C : Cx K G RX1 cc nL) (hd : decode cc pc = .ok (.getfield 15, 3)) (k : WW K G cells slots Q V I J (pc + 3) lv (.ref (G.2.1 25) :: st)) : WW K G cells slots Q V I J (pc) lv (.ref (G.2.1 5) :: st) := g_get C 5 (by decide) rfl rfl inT1 1 (by decide) tw_179 rfl hd k
theorem gf_X1_18 (C : Cx K G RX1 cc nL) (hd : decode cc pc = .ok (.getfield 18, 3)) (k : WW K G cells slots Q V I J (pc + 3) lv (.ref (G.2.1 26) :: st)) : WW K G cells slots Q V I J (pc) lv (.ref (G.2.1 5) :: st) := g_get C 5 (by decide) rfl rfl inT1 2 (by decide) tw_181 rfl hd k
theorem gf_X1_23 (C : Cx K G RX1 cc nL) (hd : decode cc pc = .ok (.getfield 23, 3)) (k : WW K G cells slots Q V I J (pc + 3) lv (.ref (G.2.1 34) :: st)) : WW K G cells slots Q V I J (pc) lv (.ref (G.2.1 5) :: st) := g_get C 5 (by decide) rfl rfl inT1 3 (by decide) tw_183 rfl hd k
theorem gf_X1_26 (C : Cx K G RX1 cc nL) (hd : decode cc pc = .ok (.getfield 26, 3)) (k : WW K G cells slots Q V I J (pc + 3) lv (.ref (G.2.1 27) :: st)) : WW K G cells slots Q V I J (pc) lv (.ref (G.2.1 5) :: st) := g_get C 5 (by decide) rfl rfl inT1 4 (by decide) tw_184 rfl hd k
theorem gf_X1_29 (C : Cx K G RX1 cc nL) (hd : decode cc pc = .ok (.getfield 29, 3)) (k : WW K G cells slots Q V I J (pc + 3) lv (.ref (G.2.1 28) :: st)) : WW K G cells slots Q V I J (pc) lv (.ref (G.2.1 5) :: st) := g_get C 5 (by decide) rfl rfl inT1 5 (by decide) tw_186 rfl hd k
theorem gf_X1_33 (C : Cx K G RX1 cc nL) (hd : decode cc pc = .ok (.getfield 33, 3)) (k : WW K G cells slots Q V I J (pc + 3) lv (.int (V 6) :: st)) : WW K G cells slots Q V I J (pc) lv (.ref (G.2.1 5) :: st) := g_get C 5 (by decide) rfl rfl inT1 6 (by decide) tw_188 rfl hd k
theorem gp_X1_33 (C : Cx K G RX1 cc nL) {x : Int32} (hd : decode cc pc = .ok (.putfield 33, 3)) (k : WW K G cells slots Q (upd V 6 x) I J (pc + 3) lv (st)) : WW K G cells slots Q V I J (pc) lv (.int x :: .ref (G.2.1 5) :: st) := g_put C 5 (by decide) 6 tyX1 rfl rfl inT1 tyX1_ok nmX1 6 (by decide) tw_188 rfl (by decide +kernel) (Nat.le_of_ble_eq_true rfl) rfl wo_6 hd k
theorem gf_X0_9 (C : Cx K G RX0 cc nL) (hd : decode cc pc = .ok (.getfield 9, 3)) (k : WW K G cells slots Q V I J (pc + 3) lv (.ref (G.2.1 29) :: st)) : WW K G cells slots Q V I J (pc) lv (.ref (G.2.1 6) :: st) := g_get C 6 (by decide) rfl rfl inT0 0 (by decide) tw_211 rfl hd k
theorem gf_X0_15 (C : Cx K G RX0 cc nL) (hd : decode cc pc = .ok (.getfield 15, 3)) (k : WW K G cells slots Q V I J (pc + 3) lv (.ref (G.2.1 30) :: st)) : WW K G cells slots Q V I J (pc) lv (.ref (G.2.1 6) :: st) := g_get C 6 (by decide) rfl rfl inT0 1 (by decide) tw_213 rfl hd k
theorem gf_X0_18 (C : Cx K G RX0 cc nL) (hd : decode cc pc = .ok (.getfield 18, 3)) (k : WW K G cells slots Q V I J (pc + 3) lv (.ref (G.2.1 31) :: st)) : WW K G cells slots Q V I J (pc) lv (.ref (G.2.1 6) :: st) := g_get C 6 (by decide) rfl rfl inT0 2 (by decide) tw_215 rfl hd k
theorem gf_X0_21 (C : Cx K G RX0 cc nL) (hd : decode cc pc = .ok (.getfield 21, 3)) (k : WW K G cells slots Q V I J (pc + 3) lv (.ref (G.2.1 32) :: st)) : WW K G cells slots Q V I J (pc) lv (.ref (G.2.1 6) :: st) := g_get C 6 (by decide) rfl rfl inT0 3 (by decide) tw_217 rfl hd k
theorem gf_X6_10 (C : Cx K G RX6 cc nL) (hd : decode cc pc = .ok (.getfield 10, 3)) (k : WW K G cells slots Q V I J (pc + 3) lv (.ref (G.2.1 1) :: st)) : WW K G cells slots Q V I J (pc) lv (.ref (G.2.1 0) :: st) := g_get C 0 (by decide) rfl rfl inT6 0 (by decide) tw_229 rfl hd k
theorem gf_X6_19 (C : Cx K G RX6 cc nL) (hd : decode cc pc = .ok (.getfield 19, 3)) (k : WW K G cells slots Q V I J (pc + 3) lv (.ref (G.2.1 2) :: st)) : WW K G cells slots Q V I J (pc) lv (.ref (G.2.1 0) :: st) := g_get C 0 (by decide) rfl rfl inT6 1 (by decide) tw_230 rfl hd k
theorem gf_X6_26 (C : Cx K G RX6 cc nL) (hd : decode cc pc = .ok (.getfield 26, 3)) (k : WW K G cells slots Q V I J (pc + 3) lv (.ref (G.2.1 3) :: st)) : WW K G cells slots Q V I J (pc) lv (.ref (G.2.1 0) :: st) := g_get C 0 (by decide) rfl rfl inT6 2 (by decide) tw_231 rfl hd k
theorem gf_X6_33 (C : Cx K G RX6 cc nL) (hd : decode cc pc = .ok (.getfield 33, 3)) (k : WW K G cells slots Q V I J (pc + 3) lv (.ref (G.2.1 4) :: st)) : WW K G cells slots Q V I J (pc) lv (.ref (G.2.1 0) :: st) := g_get C 0 (by decide) rfl rfl inT6 3 (by decide) tw_232 rfl hd k
theorem gf_X6_40 (C : Cx K G RX6 cc nL) (hd : decode cc pc = .ok (.getfield 40, 3)) (k : WW K G cells slots Q V I J (pc + 3) lv (.ref (G.2.1 5) :: st)) : WW K G cells slots Q V I J (pc) lv (.ref (G.2.1 0) :: st) := g_get C 0 (by decide) rfl rfl inT6 4 (by decide) tw_233 rfl hd k
theorem gf_X6_47 (C : Cx K G RX6 cc nL) (hd : decode cc pc = .ok (.getfield 47, 3)) (k : WW K G cells slots Q V I J (pc + 3) lv (.ref (G.2.1 6) :: st)) : WW K G cells slots Q V I J (pc) lv (.ref (G.2.1 0) :: st) := g_get C 0 (by decide) rfl rfl inT6 5 (by decide) tw_234 rfl hd k
theorem gf_X6_51 (C : Cx K G RX6 cc nL) (hd : decode cc pc = .ok (.getfield 51, 3)) (k : WW K G cells slots Q V I J (pc + 3) lv (.int (V 0) :: st)) : WW K G cells slots Q V I J (pc) lv (.ref (G.2.1 0) :: st) := g_get C 0 (by decide) rfl rfl inT6 6 (by decide) tw_235 rfl hd k
theorem gp_X6_51 (C : Cx K G RX6 cc nL) {x : Int32} (hd : decode cc pc = .ok (.putfield 51, 3)) (k : WW K G cells slots Q (upd V 0 x) I J (pc + 3) lv (st)) : WW K G cells slots Q V I J (pc) lv (.int x :: .ref (G.2.1 0) :: st) := g_put C 0 (by decide) 0 tyX6 rfl rfl inT6 tyX6_ok nmX6 6 (by decide) tw_235 rfl (by decide +kernel) (Nat.le_of_ble_eq_true rfl) rfl wo_0 hd k
theorem gf_X7_103 (C : Cx K G RX7 cc nL) (hd : decode cc pc = .ok (.getfield 103, 3)) (k : WW K G cells slots Q V I J (pc + 3) lv (.int (V 7) :: st)) : WW K G cells slots Q V I J (pc) lv (.ref (G.2.1 7) :: st) := g_get C 7 (by decide) rfl rfl inT7 0 (by decide) tw_686 rfl hd k
theorem gp_X7_103 (C : Cx K G RX7 cc nL) {x : Int32} (hd : decode cc pc = .ok (.putfield 103, 3)) (k : WW K G cells slots Q (upd V 7 x) I J (pc + 3) lv (st)) : WW K G cells slots Q V I J (pc) lv (.int x :: .ref (G.2.1 7) :: st) := g_put C 7 (by decide) 7 tyX7 rfl rfl inT7 tyX7_ok nmX7 0 (by decide) tw_686 rfl (by decide +kernel) (Nat.le_of_ble_eq_true rfl) rfl wo_7 hd k
theorem gf_X7_141 (C : Cx K G RX7 cc nL) (hd : decode cc pc = .ok (.getfield 141, 3)) (k : WW K G cells slots Q V I J (pc + 3) lv (.int (V 8) :: st)) : WW K G cells slots Q V I J (pc) lv (.ref (G.2.1 7) :: st) := g_get C 7 (by decide) rfl rfl inT7 1 (by decide) tw_687 rfl hd k
theorem gp_X7_141 (C : Cx K G RX7 cc nL) {x : Int32} (hd : decode cc pc = .ok (.putfield 141, 3)) (k : WW K G cells slots Q (upd V 8 x) I J (pc + 3) lv (st)) : WW K G cells slots Q V I J (pc) lv (.int x :: .ref (G.2.1 7) :: st) := g_put C 7 (by decide) 8 tyX7 rfl rfl inT7 tyX7_ok nmX7 1 (by decide) tw_687 rfl (by decide +kernel) (Nat.le_of_ble_eq_true rfl) rfl wo_8 hd k
theorem gf_X7_106 (C : Cx K G RX7 cc nL) (hd : decode cc pc = .ok (.getfield 106, 3)) (k : WW K G cells slots Q V I J (pc + 3) lv (.int (V 9) :: st)) : WW K G cells slots Q V I J (pc) lv (.ref (G.2.1 7) :: st) := g_get C 7 (by decide) rfl rfl inT7 2 (by decide) tw_688 rfl hd k
theorem gp_X7_106 (C : Cx K G RX7 cc nL) {x : Int32} (hd : decode cc pc = .ok (.putfield 106, 3)) (k : WW K G cells slots Q (upd V 9 x) I J (pc + 3) lv (st)) : WW K G cells slots Q V I J (pc) lv (.int x :: .ref (G.2.1 7) :: st) := g_put C 7 (by decide) 9 tyX7 rfl rfl inT7 tyX7_ok nmX7 2 (by decide) tw_688 rfl (by decide +kernel) (Nat.le_of_ble_eq_true rfl) rfl wo_9 hd k
theorem gf_X7_117 (C : Cx K G RX7 cc nL) (hd : decode cc pc = .ok (.getfield 117, 3)) (k : WW K G cells slots Q V I J (pc + 3) lv (.int (V 10) :: st)) : WW K G cells slots Q V I J (pc) lv (.ref (G.2.1 7) :: st) := g_get C 7 (by decide) rfl rfl inT7 3 (by decide) tw_689 rfl hd k
theorem gp_X7_117 (C : Cx K G RX7 cc nL) {x : Int32} (hd : decode cc pc = .ok (.putfield 117, 3)) (k : WW K G cells slots Q (upd V 10 x) I J (pc + 3) lv (st)) : WW K G cells slots Q V I J (pc) lv (.int x :: .ref (G.2.1 7) :: st) := g_put C 7 (by decide) 10 tyX7 rfl rfl inT7 tyX7_ok nmX7 3 (by decide) tw_689 rfl (by decide +kernel) (Nat.le_of_ble_eq_true rfl) rfl wo_10 hd k
theorem gf_X7_7 (C : Cx K G RX7 cc nL) (hd : decode cc pc = .ok (.getfield 7, 3)) (k : WW K G cells slots Q V I J (pc + 3) lv (.ref (G.2.1 51) :: st)) : WW K G cells slots Q V I J (pc) lv (.ref (G.2.1 7) :: st) := g_get C 7 (by decide) rfl rfl inT7 4 (by decide) tw_690 rfl hd k
theorem gf_X7_13 (C : Cx K G RX7 cc nL) (hd : decode cc pc = .ok (.getfield 13, 3)) (k : WW K G cells slots Q V I J (pc + 3) lv (.ref (G.2.1 52) :: st)) : WW K G cells slots Q V I J (pc) lv (.ref (G.2.1 7) :: st) := g_get C 7 (by decide) rfl rfl inT7 5 (by decide) tw_691 rfl hd k
theorem gf_X7_16 (C : Cx K G RX7 cc nL) (hd : decode cc pc = .ok (.getfield 16, 3)) (k : WW K G cells slots Q V I J (pc + 3) lv (.ref (G.2.1 53) :: st)) : WW K G cells slots Q V I J (pc) lv (.ref (G.2.1 7) :: st) := g_get C 7 (by decide) rfl rfl inT7 6 (by decide) tw_692 rfl hd k
theorem gf_X7_19 (C : Cx K G RX7 cc nL) (hd : decode cc pc = .ok (.getfield 19, 3)) (k : WW K G cells slots Q V I J (pc + 3) lv (.ref (G.2.1 54) :: st)) : WW K G cells slots Q V I J (pc) lv (.ref (G.2.1 7) :: st) := g_get C 7 (by decide) rfl rfl inT7 7 (by decide) tw_693 rfl hd k
theorem gf_X7_22 (C : Cx K G RX7 cc nL) (hd : decode cc pc = .ok (.getfield 22, 3)) (k : WW K G cells slots Q V I J (pc + 3) lv (.ref (G.2.1 55) :: st)) : WW K G cells slots Q V I J (pc) lv (.ref (G.2.1 7) :: st) := g_get C 7 (by decide) rfl rfl inT7 8 (by decide) tw_694 rfl hd k
theorem gf_X7_25 (C : Cx K G RX7 cc nL) (hd : decode cc pc = .ok (.getfield 25, 3)) (k : WW K G cells slots Q V I J (pc + 3) lv (.ref (G.2.1 56) :: st)) : WW K G cells slots Q V I J (pc) lv (.ref (G.2.1 7) :: st) := g_get C 7 (by decide) rfl rfl inT7 9 (by decide) tw_695 rfl hd k
theorem gf_X7_28 (C : Cx K G RX7 cc nL) (hd : decode cc pc = .ok (.getfield 28, 3)) (k : WW K G cells slots Q V I J (pc + 3) lv (.ref (G.2.1 57) :: st)) : WW K G cells slots Q V I J (pc) lv (.ref (G.2.1 7) :: st) := g_get C 7 (by decide) rfl rfl inT7 10 (by decide) tw_696 rfl hd k
theorem gf_X7_31 (C : Cx K G RX7 cc nL) (hd : decode cc pc = .ok (.getfield 31, 3)) (k : WW K G cells slots Q V I J (pc + 3) lv (.int (V 11) :: st)) : WW K G cells slots Q V I J (pc) lv (.ref (G.2.1 7) :: st) := g_get C 7 (by decide) rfl rfl inT7 11 (by decide) tw_697 rfl hd k
theorem gp_X7_31 (C : Cx K G RX7 cc nL) {x : Int32} (hd : decode cc pc = .ok (.putfield 31, 3)) (k : WW K G cells slots Q (upd V 11 x) I J (pc + 3) lv (st)) : WW K G cells slots Q V I J (pc) lv (.int x :: .ref (G.2.1 7) :: st) := g_put C 7 (by decide) 11 tyX7 rfl rfl inT7 tyX7_ok nmX7 11 (by decide) tw_697 rfl (by decide +kernel) (Nat.le_of_ble_eq_true rfl) rfl wo_11 hd k
theorem gf_X7_35 (C : Cx K G RX7 cc nL) (hd : decode cc pc = .ok (.getfield 35, 3)) (k : WW K G cells slots Q V I J (pc + 3) lv (.ref (G.2.1 58) :: st)) : WW K G cells slots Q V I J (pc) lv (.ref (G.2.1 7) :: st) := g_get C 7 (by decide) rfl rfl inT7 12 (by decide) tw_698 rfl hd k
theorem gf_X7_38 (C : Cx K G RX7 cc nL) (hd : decode cc pc = .ok (.getfield 38, 3)) (k : WW K G cells slots Q V I J (pc + 3) lv (.ref (G.2.1 59) :: st)) : WW K G cells slots Q V I J (pc) lv (.ref (G.2.1 7) :: st) := g_get C 7 (by decide) rfl rfl inT7 13 (by decide) tw_699 rfl hd k
theorem gf_X7_41 (C : Cx K G RX7 cc nL) (hd : decode cc pc = .ok (.getfield 41, 3)) (k : WW K G cells slots Q V I J (pc + 3) lv (.ref (G.2.1 60) :: st)) : WW K G cells slots Q V I J (pc) lv (.ref (G.2.1 7) :: st) := g_get C 7 (by decide) rfl rfl inT7 14 (by decide) tw_700 rfl hd k
theorem gf_X7_45 (C : Cx K G RX7 cc nL) (hd : decode cc pc = .ok (.getfield 45, 3)) (k : WW K G cells slots Q V I J (pc + 3) lv (.ref (G.2.1 61) :: st)) : WW K G cells slots Q V I J (pc) lv (.ref (G.2.1 7) :: st) := g_get C 7 (by decide) rfl rfl inT7 15 (by decide) tw_701 rfl hd k
theorem gf_X7_48 (C : Cx K G RX7 cc nL) (hd : decode cc pc = .ok (.getfield 48, 3)) (k : WW K G cells slots Q V I J (pc + 3) lv (.ref (G.2.1 62) :: st)) : WW K G cells slots Q V I J (pc) lv (.ref (G.2.1 7) :: st) := g_get C 7 (by decide) rfl rfl inT7 16 (by decide) tw_702 rfl hd k
theorem gf_X7_51 (C : Cx K G RX7 cc nL) (hd : decode cc pc = .ok (.getfield 51, 3)) (k : WW K G cells slots Q V I J (pc + 3) lv (.ref (G.2.1 63) :: st)) : WW K G cells slots Q V I J (pc) lv (.ref (G.2.1 7) :: st) := g_get C 7 (by decide) rfl rfl inT7 17 (by decide) tw_703 rfl hd k
theorem gf_X7_138 (C : Cx K G RX7 cc nL) (hd : decode cc pc = .ok (.getfield 138, 3)) (k : WW K G cells slots Q V I J (pc + 3) lv (.int (V 12) :: st)) : WW K G cells slots Q V I J (pc) lv (.ref (G.2.1 7) :: st) := g_get C 7 (by decide) rfl rfl inT7 18 (by decide) tw_704 rfl hd k
theorem gp_X7_138 (C : Cx K G RX7 cc nL) {x : Int32} (hd : decode cc pc = .ok (.putfield 138, 3)) (k : WW K G cells slots Q (upd V 12 x) I J (pc + 3) lv (st)) : WW K G cells slots Q V I J (pc) lv (.int x :: .ref (G.2.1 7) :: st) := g_put C 7 (by decide) 12 tyX7 rfl rfl inT7 tyX7_ok nmX7 18 (by decide) tw_704 rfl (by decide +kernel) (Nat.le_of_ble_eq_true rfl) rfl wo_12 hd k
theorem gf_X7_54 (C : Cx K G RX7 cc nL) (hd : decode cc pc = .ok (.getfield 54, 3)) (k : WW K G cells slots Q V I J (pc + 3) lv (.ref (G.2.1 64) :: st)) : WW K G cells slots Q V I J (pc) lv (.ref (G.2.1 7) :: st) := g_get C 7 (by decide) rfl rfl inT7 19 (by decide) tw_705 rfl hd k
theorem gf_X7_57 (C : Cx K G RX7 cc nL) (hd : decode cc pc = .ok (.getfield 57, 3)) (k : WW K G cells slots Q V I J (pc + 3) lv (.ref (G.2.1 65) :: st)) : WW K G cells slots Q V I J (pc) lv (.ref (G.2.1 7) :: st) := g_get C 7 (by decide) rfl rfl inT7 20 (by decide) tw_706 rfl hd k
theorem gf_X7_60 (C : Cx K G RX7 cc nL) (hd : decode cc pc = .ok (.getfield 60, 3)) (k : WW K G cells slots Q V I J (pc + 3) lv (.ref (G.2.1 66) :: st)) : WW K G cells slots Q V I J (pc) lv (.ref (G.2.1 7) :: st) := g_get C 7 (by decide) rfl rfl inT7 21 (by decide) tw_707 rfl hd k
theorem gf_X7_113 (C : Cx K G RX7 cc nL) (hd : decode cc pc = .ok (.getfield 113, 3)) (k : WW K G cells slots Q V I J (pc + 3) lv (.int (V 13) :: st)) : WW K G cells slots Q V I J (pc) lv (.ref (G.2.1 7) :: st) := g_get C 7 (by decide) rfl rfl inT7 22 (by decide) tw_708 rfl hd k
theorem gp_X7_113 (C : Cx K G RX7 cc nL) {x : Int32} (hd : decode cc pc = .ok (.putfield 113, 3)) (k : WW K G cells slots Q (upd V 13 x) I J (pc + 3) lv (st)) : WW K G cells slots Q V I J (pc) lv (.int x :: .ref (G.2.1 7) :: st) := g_put C 7 (by decide) 13 tyX7 rfl rfl inT7 tyX7_ok nmX7 22 (by decide) tw_708 rfl (by decide +kernel) (Nat.le_of_ble_eq_true rfl) rfl wo_13 hd k
theorem gf_X7_63 (C : Cx K G RX7 cc nL) (hd : decode cc pc = .ok (.getfield 63, 3)) (k : WW K G cells slots Q V I J (pc + 3) lv (.ref (G.2.1 67) :: st)) : WW K G cells slots Q V I J (pc) lv (.ref (G.2.1 7) :: st) := g_get C 7 (by decide) rfl rfl inT7 23 (by decide) tw_709 rfl hd k
theorem gf_X7_66 (C : Cx K G RX7 cc nL) (hd : decode cc pc = .ok (.getfield 66, 3)) (k : WW K G cells slots Q V I J (pc + 3) lv (.ref (G.2.1 68) :: st)) : WW K G cells slots Q V I J (pc) lv (.ref (G.2.1 7) :: st) := g_get C 7 (by decide) rfl rfl inT7 24 (by decide) tw_710 rfl hd k
theorem gf_X7_69 (C : Cx K G RX7 cc nL) (hd : decode cc pc = .ok (.getfield 69, 3)) (k : WW K G cells slots Q V I J (pc + 3) lv (.ref (G.2.1 69) :: st)) : WW K G cells slots Q V I J (pc) lv (.ref (G.2.1 7) :: st) := g_get C 7 (by decide) rfl rfl inT7 25 (by decide) tw_711 rfl hd k
theorem gf_X7_72 (C : Cx K G RX7 cc nL) (hd : decode cc pc = .ok (.getfield 72, 3)) (k : WW K G cells slots Q V I J (pc + 3) lv (.ref (G.2.1 70) :: st)) : WW K G cells slots Q V I J (pc) lv (.ref (G.2.1 7) :: st) := g_get C 7 (by decide) rfl rfl inT7 26 (by decide) tw_712 rfl hd k
theorem gf_X7_76 (C : Cx K G RX7 cc nL) (hd : decode cc pc = .ok (.getfield 76, 3)) (k : WW K G cells slots Q V I J (pc + 3) lv (.ref (G.2.1 71) :: st)) : WW K G cells slots Q V I J (pc) lv (.ref (G.2.1 7) :: st) := g_get C 7 (by decide) rfl rfl inT7 27 (by decide) tw_713 rfl hd k
theorem gf_X7_79 (C : Cx K G RX7 cc nL) (hd : decode cc pc = .ok (.getfield 79, 3)) (k : WW K G cells slots Q V I J (pc + 3) lv (.ref (G.2.1 72) :: st)) : WW K G cells slots Q V I J (pc) lv (.ref (G.2.1 7) :: st) := g_get C 7 (by decide) rfl rfl inT7 28 (by decide) tw_714 rfl hd k
theorem gf_X7_82 (C : Cx K G RX7 cc nL) (hd : decode cc pc = .ok (.getfield 82, 3)) (k : WW K G cells slots Q V I J (pc + 3) lv (.ref (G.2.1 73) :: st)) : WW K G cells slots Q V I J (pc) lv (.ref (G.2.1 7) :: st) := g_get C 7 (by decide) rfl rfl inT7 29 (by decide) tw_715 rfl hd k
theorem gf_X7_159 (C : Cx K G RX7 cc nL) (hd : decode cc pc = .ok (.getfield 159, 3)) (k : WW K G cells slots Q V I J (pc + 3) lv (.int (V 14) :: st)) : WW K G cells slots Q V I J (pc) lv (.ref (G.2.1 7) :: st) := g_get C 7 (by decide) rfl rfl inT7 30 (by decide) tw_716 rfl hd k
theorem gp_X7_159 (C : Cx K G RX7 cc nL) {x : Int32} (hd : decode cc pc = .ok (.putfield 159, 3)) (k : WW K G cells slots Q (upd V 14 x) I J (pc + 3) lv (st)) : WW K G cells slots Q V I J (pc) lv (.int x :: .ref (G.2.1 7) :: st) := g_put C 7 (by decide) 14 tyX7 rfl rfl inT7 tyX7_ok nmX7 30 (by decide) tw_716 rfl (by decide +kernel) (Nat.le_of_ble_eq_true rfl) rfl wo_14 hd k
theorem gf_X7_85 (C : Cx K G RX7 cc nL) (hd : decode cc pc = .ok (.getfield 85, 3)) (k : WW K G cells slots Q V I J (pc + 3) lv (.ref (G.2.1 74) :: st)) : WW K G cells slots Q V I J (pc) lv (.ref (G.2.1 7) :: st) := g_get C 7 (by decide) rfl rfl inT7 31 (by decide) tw_717 rfl hd k
theorem gf_X7_88 (C : Cx K G RX7 cc nL) (hd : decode cc pc = .ok (.getfield 88, 3)) (k : WW K G cells slots Q V I J (pc + 3) lv (.ref (G.2.1 75) :: st)) : WW K G cells slots Q V I J (pc) lv (.ref (G.2.1 7) :: st) := g_get C 7 (by decide) rfl rfl inT7 32 (by decide) tw_718 rfl hd k
theorem gf_X7_91 (C : Cx K G RX7 cc nL) (hd : decode cc pc = .ok (.getfield 91, 3)) (k : WW K G cells slots Q V I J (pc + 3) lv (.ref (G.2.1 76) :: st)) : WW K G cells slots Q V I J (pc) lv (.ref (G.2.1 7) :: st) := g_get C 7 (by decide) rfl rfl inT7 33 (by decide) tw_719 rfl hd k
theorem gf_X7_94 (C : Cx K G RX7 cc nL) (hd : decode cc pc = .ok (.getfield 94, 3)) (k : WW K G cells slots Q V I J (pc + 3) lv (.ref (G.2.1 77) :: st)) : WW K G cells slots Q V I J (pc) lv (.ref (G.2.1 7) :: st) := g_get C 7 (by decide) rfl rfl inT7 34 (by decide) tw_720 rfl hd k
theorem gf_X7_97 (C : Cx K G RX7 cc nL) (hd : decode cc pc = .ok (.getfield 97, 3)) (k : WW K G cells slots Q V I J (pc + 3) lv (.ref (G.2.1 78) :: st)) : WW K G cells slots Q V I J (pc) lv (.ref (G.2.1 7) :: st) := g_get C 7 (by decide) rfl rfl inT7 35 (by decide) tw_721 rfl hd k
theorem gf_X7_100 (C : Cx K G RX7 cc nL) (hd : decode cc pc = .ok (.getfield 100, 3)) (k : WW K G cells slots Q V I J (pc + 3) lv (.ref (G.2.1 79) :: st)) : WW K G cells slots Q V I J (pc) lv (.ref (G.2.1 7) :: st) := g_get C 7 (by decide) rfl rfl inT7 36 (by decide) tw_722 rfl hd k
theorem gf_X6_284 (C : Cx K G RX6 cc nL) (hd : decode cc pc = .ok (.getfield 284, 3)) (k : WW K G cells slots Q V I J (pc + 3) lv (.ref (G.2.1 10) :: st)) : WW K G cells slots Q V I J (pc) lv (.ref (G.2.1 1) :: st) := g_getN C 1 (by decide) rfl rfl inT4 2 (by decide) (List.mem_of_getElem? (i := 0) rfl) rfl hd k
theorem gf_X6_290 (C : Cx K G RX6 cc nL) (hd : decode cc pc = .ok (.getfield 290, 3)) (k : WW K G cells slots Q V I J (pc + 3) lv (.ref (G.2.1 11) :: st)) : WW K G cells slots Q V I J (pc) lv (.ref (G.2.1 1) :: st) := g_getN C 1 (by decide) rfl rfl inT4 3 (by decide) (List.mem_of_getElem? (i := 1) rfl) rfl hd k
theorem gf_X6_171 (C : Cx K G RX6 cc nL) (hd : decode cc pc = .ok (.getfield 171, 3)) (k : WW K G cells slots Q V I J (pc + 3) lv (.ref (G.2.1 33) :: st)) : WW K G cells slots Q V I J (pc) lv (.ref (G.2.1 1) :: st) := g_getN C 1 (by decide) rfl rfl inT4 4 (by decide) (List.mem_of_getElem? (i := 2) rfl) rfl hd k
theorem gf_X6_55 (C : Cx K G RX6 cc nL) (hd : decode cc pc = .ok (.getfield 55, 3)) (k : WW K G cells slots Q V I J (pc + 3) lv (.int (V 1) :: st)) : WW K G cells slots Q V I J (pc) lv (.ref (G.2.1 1) :: st) := g_getN C 1 (by decide) rfl rfl inT4 5 (by decide) (List.mem_of_getElem? (i := 3) rfl) rfl hd k
theorem gp_X6_55 (C : Cx K G RX6 cc nL) {x : Int32} (hd : decode cc pc = .ok (.putfield 55, 3)) (k : WW K G cells slots Q (upd V 1 x) I J (pc + 3) lv (st)) : WW K G cells slots Q V I J (pc) lv (.int x :: .ref (G.2.1 1) :: st) := g_putN C 1 (by decide) 1 tyX4 rfl rfl inT4 tyX4_ok nmX4 5 (by decide) (List.mem_of_getElem? (i := 3) rfl) rfl (by decide +kernel) (Nat.le_of_ble_eq_true rfl) rfl wo_1 hd k
theorem gf_X6_82 (C : Cx K G RX6 cc nL) (hd : decode cc pc = .ok (.getfield 82, 3)) (k : WW K G cells slots Q V I J (pc + 3) lv (.int (V 2) :: st)) : WW K G cells slots Q V I J (pc) lv (.ref (G.2.1 1) :: st) := g_getN C 1 (by decide) rfl rfl inT4 6 (by decide) (List.mem_of_getElem? (i := 4) rfl) rfl hd k
theorem gp_X6_82 (C : Cx K G RX6 cc nL) {x : Int32} (hd : decode cc pc = .ok (.putfield 82, 3)) (k : WW K G cells slots Q (upd V 2 x) I J (pc + 3) lv (st)) : WW K G cells slots Q V I J (pc) lv (.int x :: .ref (G.2.1 1) :: st) := g_putN C 1 (by decide) 2 tyX4 rfl rfl inT4 tyX4_ok nmX4 6 (by decide) (List.mem_of_getElem? (i := 4) rfl) rfl (by decide +kernel) (Nat.le_of_ble_eq_true rfl) rfl wo_2 hd k
theorem gf_X6_91 (C : Cx K G RX6 cc nL) (hd : decode cc pc = .ok (.getfield 91, 3)) (k : WW K G cells slots Q V I J (pc + 3) lv (.ref (G.2.1 12) :: st)) : WW K G cells slots Q V I J (pc) lv (.ref (G.2.1 2) :: st) := g_getN C 2 (by decide) rfl rfl inT5 0 (by decide) (List.mem_of_getElem? (i := 5) rfl) rfl hd k
theorem gf_X6_95 (C : Cx K G RX6 cc nL) (hd : decode cc pc = .ok (.getfield 95, 3)) (k : WW K G cells slots Q V I J (pc + 3) lv (.ref (G.2.1 13) :: st)) : WW K G cells slots Q V I J (pc) lv (.ref (G.2.1 2) :: st) := g_getN C 2 (by decide) rfl rfl inT5 1 (by decide) (List.mem_of_getElem? (i := 6) rfl) rfl hd k
theorem gf_X6_99 (C : Cx K G RX6 cc nL) (hd : decode cc pc = .ok (.getfield 99, 3)) (k : WW K G cells slots Q V I J (pc + 3) lv (.int (V 3) :: st)) : WW K G cells slots Q V I J (pc) lv (.ref (G.2.1 2) :: st) := g_getN C 2 (by decide) rfl rfl inT5 2 (by decide) (List.mem_of_getElem? (i := 7) rfl) rfl hd k
theorem gp_X6_99 (C : Cx K G RX6 cc nL) {x : Int32} (hd : decode cc pc = .ok (.putfield 99, 3)) (k : WW K G cells slots Q (upd V 3 x) I J (pc + 3) lv (st)) : WW K G cells slots Q V I J (pc) lv (.int x :: .ref (G.2.1 2) :: st) := g_putN C 2 (by decide) 3 tyX5 rfl rfl inT5 tyX5_ok nmX5 2 (by decide) (List.mem_of_getElem? (i := 7) rfl) rfl (by decide +kernel) (Nat.le_of_ble_eq_true rfl) rfl wo_3 hd k
theorem gf_X6_105 (C : Cx K G RX6 cc nL) (hd : decode cc pc = .ok (.getfield 105, 3)) (k : WW K G cells slots Q V I J (pc + 3) lv (.ref (G.2.1 14) :: st)) : WW K G cells slots Q V I J (pc) lv (.ref (G.2.1 3) :: st) := g_getN C 3 (by decide) rfl rfl inT2 0 (by decide) (List.mem_of_getElem? (i := 8) rfl) rfl hd k
theorem gf_X6_108 (C : Cx K G RX6 cc nL) (hd : decode cc pc = .ok (.getfield 108, 3)) (k : WW K G cells slots Q V I J (pc + 3) lv (.ref (G.2.1 15) :: st)) : WW K G cells slots Q V I J (pc) lv (.ref (G.2.1 3) :: st) := g_getN C 3 (by decide) rfl rfl inT2 1 (by decide) (List.mem_of_getElem? (i := 9) rfl) rfl hd k
theorem gf_X6_118 (C : Cx K G RX6 cc nL) (hd : decode cc pc = .ok (.getfield 118, 3)) (k : WW K G cells slots Q V I J (pc + 3) lv (.int (V 4) :: st)) : WW K G cells slots Q V I J (pc) lv (.ref (G.2.1 3) :: st) := g_getN C 3 (by decide) rfl rfl inT2 5 (by decide) (List.mem_of_getElem? (i := 10) rfl) rfl hd k
theorem gp_X6_118 (C : Cx K G RX6 cc nL) {x : Int32} (hd : decode cc pc = .ok (.putfield 118, 3)) (k : WW K G cells slots Q (upd V 4 x) I J (pc + 3) lv (st)) : WW K G cells slots Q V I J (pc) lv (.int x :: .ref (G.2.1 3) :: st) := g_putN C 3 (by decide) 4 tyX2 rfl rfl inT2 tyX2_ok nmX2 5 (by decide) (List.mem_of_getElem? (i := 10) rfl) rfl (by decide +kernel) (Nat.le_of_ble_eq_true rfl) rfl wo_4 hd k
theorem gf_X6_205 (C : Cx K G RX6 cc nL) (hd : decode cc pc = .ok (.getfield 205, 3)) (k : WW K G cells slots Q V I J (pc + 3) lv (.ref (G.2.1 19) :: st)) : WW K G cells slots Q V I J (pc) lv (.ref (G.2.1 4) :: st) := g_getN C 4 (by decide) rfl rfl inT3 0 (by decide) (List.mem_of_getElem? (i := 11) rfl) rfl hd k
theorem gf_X6_208 (C : Cx K G RX6 cc nL) (hd : decode cc pc = .ok (.getfield 208, 3)) (k : WW K G cells slots Q V I J (pc + 3) lv (.ref (G.2.1 20) :: st)) : WW K G cells slots Q V I J (pc) lv (.ref (G.2.1 4) :: st) := g_getN C 4 (by decide) rfl rfl inT3 1 (by decide) (List.mem_of_getElem? (i := 12) rfl) rfl hd k
theorem gf_X6_211 (C : Cx K G RX6 cc nL) (hd : decode cc pc = .ok (.getfield 211, 3)) (k : WW K G cells slots Q V I J (pc + 3) lv (.ref (G.2.1 21) :: st)) : WW K G cells slots Q V I J (pc) lv (.ref (G.2.1 4) :: st) := g_getN C 4 (by decide) rfl rfl inT3 2 (by decide) (List.mem_of_getElem? (i := 13) rfl) rfl hd k
theorem gf_X6_138 (C : Cx K G RX6 cc nL) (hd : decode cc pc = .ok (.getfield 138, 3)) (k : WW K G cells slots Q V I J (pc + 3) lv (.ref (G.2.1 22) :: st)) : WW K G cells slots Q V I J (pc) lv (.ref (G.2.1 4) :: st) := g_getN C 4 (by decide) rfl rfl inT3 3 (by decide) (List.mem_of_getElem? (i := 14) rfl) rfl hd k
theorem gf_X6_247 (C : Cx K G RX6 cc nL) (hd : decode cc pc = .ok (.getfield 247, 3)) (k : WW K G cells slots Q V I J (pc + 3) lv (.ref (G.2.1 23) :: st)) : WW K G cells slots Q V I J (pc) lv (.ref (G.2.1 4) :: st) := g_getN C 4 (by decide) rfl rfl inT3 4 (by decide) (List.mem_of_getElem? (i := 15) rfl) rfl hd k
theorem gf_X6_127 (C : Cx K G RX6 cc nL) (hd : decode cc pc = .ok (.getfield 127, 3)) (k : WW K G cells slots Q V I J (pc + 3) lv (.int (V 5) :: st)) : WW K G cells slots Q V I J (pc) lv (.ref (G.2.1 4) :: st) := g_getN C 4 (by decide) rfl rfl inT3 5 (by decide) (List.mem_of_getElem? (i := 16) rfl) rfl hd k
theorem gp_X6_127 (C : Cx K G RX6 cc nL) {x : Int32} (hd : decode cc pc = .ok (.putfield 127, 3)) (k : WW K G cells slots Q (upd V 5 x) I J (pc + 3) lv (st)) : WW K G cells slots Q V I J (pc) lv (.int x :: .ref (G.2.1 4) :: st) := g_putN C 4 (by decide) 5 tyX3 rfl rfl inT3 tyX3_ok nmX3 5 (by decide) (List.mem_of_getElem? (i := 16) rfl) rfl (by decide +kernel) (Nat.le_of_ble_eq_true rfl) rfl wo_5 hd k
theorem gf_X6_186 (C : Cx K G RX6 cc nL) (hd : decode cc pc = .ok (.getfield 186, 3)) (k : WW K G cells slots Q V I J (pc + 3) lv (.ref (G.2.1 24) :: st)) : WW K G cells slots Q V I J (pc) lv (.ref (G.2.1 5) :: st) := g_getN C 5 (by decide) rfl rfl inT1 0 (by decide) (List.mem_of_getElem? (i := 17) rfl) rfl hd k
theorem gf_X6_189 (C : Cx K G RX6 cc nL) (hd : decode cc pc = .ok (.getfield 189, 3)) (k : WW K G cells slots Q V I J (pc + 3) lv (.ref (G.2.1 25) :: st)) : WW K G cells slots Q V I J (pc) lv (.ref (G.2.1 5) :: st) := g_getN C 5 (by decide) rfl rfl inT1 1 (by decide) (List.mem_of_getElem? (i := 18) rfl) rfl hd k
theorem gf_X6_192 (C : Cx K G RX6 cc nL) (hd : decode cc pc = .ok (.getfield 192, 3)) (k : WW K G cells slots Q V I J (pc + 3) lv (.ref (G.2.1 26) :: st)) : WW K G cells slots Q V I J (pc) lv (.ref (G.2.1 5) :: st) := g_getN C 5 (by decide) rfl rfl inT1 2 (by decide) (List.mem_of_getElem? (i := 19) rfl) rfl hd k
theorem gf_X6_257 (C : Cx K G RX6 cc nL) (hd : decode cc pc = .ok (.getfield 257, 3)) (k : WW K G cells slots Q V I J (pc + 3) lv (.ref (G.2.1 27) :: st)) : WW K G cells slots Q V I J (pc) lv (.ref (G.2.1 5) :: st) := g_getN C 5 (by decide) rfl rfl inT1 4 (by decide) (List.mem_of_getElem? (i := 20) rfl) rfl hd k
theorem gf_X6_299 (C : Cx K G RX6 cc nL) (hd : decode cc pc = .ok (.getfield 299, 3)) (k : WW K G cells slots Q V I J (pc + 3) lv (.ref (G.2.1 28) :: st)) : WW K G cells slots Q V I J (pc) lv (.ref (G.2.1 5) :: st) := g_getN C 5 (by decide) rfl rfl inT1 5 (by decide) (List.mem_of_getElem? (i := 21) rfl) rfl hd k
theorem gf_X6_183 (C : Cx K G RX6 cc nL) (hd : decode cc pc = .ok (.getfield 183, 3)) (k : WW K G cells slots Q V I J (pc + 3) lv (.int (V 6) :: st)) : WW K G cells slots Q V I J (pc) lv (.ref (G.2.1 5) :: st) := g_getN C 5 (by decide) rfl rfl inT1 6 (by decide) (List.mem_of_getElem? (i := 22) rfl) rfl hd k
theorem gp_X6_183 (C : Cx K G RX6 cc nL) {x : Int32} (hd : decode cc pc = .ok (.putfield 183, 3)) (k : WW K G cells slots Q (upd V 6 x) I J (pc + 3) lv (st)) : WW K G cells slots Q V I J (pc) lv (.int x :: .ref (G.2.1 5) :: st) := g_putN C 5 (by decide) 6 tyX1 rfl rfl inT1 tyX1_ok nmX1 6 (by decide) (List.mem_of_getElem? (i := 22) rfl) rfl (by decide +kernel) (Nat.le_of_ble_eq_true rfl) rfl wo_6 hd k
theorem gf_X6_114 (C : Cx K G RX6 cc nL) (hd : decode cc pc = .ok (.getfield 114, 3)) (k : WW K G cells slots Q V I J (pc + 3) lv (.ref (G.2.1 29) :: st)) : WW K G cells slots Q V I J (pc) lv (.ref (G.2.1 6) :: st) := g_getN C 6 (by decide) rfl rfl inT0 0 (by decide) (List.mem_of_getElem? (i := 23) rfl) rfl hd k
theorem gf_X6_225 (C : Cx K G RX6 cc nL) (hd : decode cc pc = .ok (.getfield 225, 3)) (k : WW K G cells slots Q V I J (pc + 3) lv (.ref (G.2.1 30) :: st)) : WW K G cells slots Q V I J (pc) lv (.ref (G.2.1 6) :: st) := g_getN C 6 (by decide) rfl rfl inT0 1 (by decide) (List.mem_of_getElem? (i := 24) rfl) rfl hd k
theorem gf_X6_222 (C : Cx K G RX6 cc nL) (hd : decode cc pc = .ok (.getfield 222, 3)) (k : WW K G cells slots Q V I J (pc + 3) lv (.ref (G.2.1 31) :: st)) : WW K G cells slots Q V I J (pc) lv (.ref (G.2.1 6) :: st) := g_getN C 6 (by decide) rfl rfl inT0 2 (by decide) (List.mem_of_getElem? (i := 25) rfl) rfl hd k
theorem gf_X6_160 (C : Cx K G RX6 cc nL) (hd : decode cc pc = .ok (.getfield 160, 3)) (k : WW K G cells slots Q V I J (pc + 3) lv (.ref (G.2.1 32) :: st)) : WW K G cells slots Q V I J (pc) lv (.ref (G.2.1 6) :: st) := g_getN C 6 (by decide) rfl rfl inT0 3 (by decide) (List.mem_of_getElem? (i := 26) rfl) rfl hd k
end GF
theorem aa_8 : 8 ≤ 8 ∧ 8 < 81 ∧ wKd 8 = 0 := by decide
theorem aa_9 : 8 ≤ 9 ∧ 9 < 81 ∧ wKd 9 = 0 := by decide
theorem aa_10 : 8 ≤ 10 ∧ 10 < 81 ∧ wKd 10 = 0 := by decide
theorem aa_11 : 8 ≤ 11 ∧ 11 < 81 ∧ wKd 11 = 0 := by decide
theorem aa_12 : 8 ≤ 12 ∧ 12 < 81 ∧ wKd 12 = 0 := by decide
theorem aa_13 : 8 ≤ 13 ∧ 13 < 81 ∧ wKd 13 = 0 := by decide
theorem aa_14 : 8 ≤ 14 ∧ 14 < 81 ∧ wKd 14 = 0 := by decide
theorem aa_15 : 8 ≤ 15 ∧ 15 < 81 ∧ wKd 15 = 0 := by decide
theorem aa_16 : 8 ≤ 16 ∧ 16 < 81 ∧ wKd 16 = 0 := by decide
theorem aa_17 : 8 ≤ 17 ∧ 17 < 81 ∧ wKd 17 = 0 := by decide
theorem aa_18 : 8 ≤ 18 ∧ 18 < 81 ∧ wKd 18 = 0 := by decide
theorem aa_19 : 8 ≤ 19 ∧ 19 < 81 ∧ wKd 19 = 0 := by decide
theorem aa_20 : 8 ≤ 20 ∧ 20 < 81 ∧ wKd 20 = 0 := by decide
theorem aa_21 : 8 ≤ 21 ∧ 21 < 81 ∧ wKd 21 = 0 := by decide
theorem aa_22 : 8 ≤ 22 ∧ 22 < 81 ∧ wKd 22 = 1 := by decide
theorem aa_23 : 8 ≤ 23 ∧ 23 < 81 ∧ wKd 23 = 0 := by decide
theorem aa_24 : 8 ≤ 24 ∧ 24 < 81 ∧ wKd 24 = 0 := by decide
theorem aa_25 : 8 ≤ 25 ∧ 25 < 81 ∧ wKd 25 = 0 := by decide
theorem aa_26 : 8 ≤ 26 ∧ 26 < 81 ∧ wKd 26 = 0 := by decide
theorem aa_27 : 8 ≤ 27 ∧ 27 < 81 ∧ wKd 27 = 0 := by decide
theorem aa_28 : 8 ≤ 28 ∧ 28 < 81 ∧ wKd 28 = 1 := by decide
theorem aa_29 : 8 ≤ 29 ∧ 29 < 81 ∧ wKd 29 = 2 := by decide
theorem aa_30 : 8 ≤ 30 ∧ 30 < 81 ∧ wKd 30 = 2 := by decide
theorem aa_31 : 8 ≤ 31 ∧ 31 < 81 ∧ wKd 31 = 2 := by decide
theorem aa_32 : 8 ≤ 32 ∧ 32 < 81 ∧ wKd 32 = 2 := by decide
theorem aa_33 : 8 ≤ 33 ∧ 33 < 81 ∧ wKd 33 = 3 := by decide
theorem aa_34 : 8 ≤ 34 ∧ 34 < 81 ∧ wKd 34 = 3 := by decide
theorem aa_35 : 8 ≤ 35 ∧ 35 < 81 ∧ wKd 35 = 0 := by decide
theorem aa_36 : 8 ≤ 36 ∧ 36 < 81 ∧ wKd 36 = 0 := by decide
theorem aa_37 : 8 ≤ 37 ∧ 37 < 81 ∧ wKd 37 = 0 := by decide
theorem aa_38 : 8 ≤ 38 ∧ 38 < 81 ∧ wKd 38 = 0 := by decide
theorem aa_39 : 8 ≤ 39 ∧ 39 < 81 ∧ wKd 39 = 0 := by decide
theorem aa_40 : 8 ≤ 40 ∧ 40 < 81 ∧ wKd 40 = 0 := by decide
theorem aa_41 : 8 ≤ 41 ∧ 41 < 81 ∧ wKd 41 = 0 := by decide
theorem aa_42 : 8 ≤ 42 ∧ 42 < 81 ∧ wKd 42 = 0 := by decide
theorem aa_43 : 8 ≤ 43 ∧ 43 < 81 ∧ wKd 43 = 0 := by decide
theorem aa_44 : 8 ≤ 44 ∧ 44 < 81 ∧ wKd 44 = 0 := by decide
theorem aa_45 : 8 ≤ 45 ∧ 45 < 81 ∧ wKd 45 = 0 := by decide
theorem aa_46 : 8 ≤ 46 ∧ 46 < 81 ∧ wKd 46 = 0 := by decide
theorem aa_47 : 8 ≤ 47 ∧ 47 < 81 ∧ wKd 47 = 0 := by decide
theorem aa_48 : 8 ≤ 48 ∧ 48 < 81 ∧ wKd 48 = 0 := by decide
theorem aa_49 : 8 ≤ 49 ∧ 49 < 81 ∧ wKd 49 = 0 := by decide
theorem aa_50 : 8 ≤ 50 ∧ 50 < 81 ∧ wKd 50 = 0 := by decide
theorem aa_51 : 8 ≤ 51 ∧ 51 < 81 ∧ wKd 51 = 0 := by decide
theorem aa_52 : 8 ≤ 52 ∧ 52 < 81 ∧ wKd 52 = 0 := by decide
theorem aa_53 : 8 ≤ 53 ∧ 53 < 81 ∧ wKd 53 = 0 := by decide
theorem aa_54 : 8 ≤ 54 ∧ 54 < 81 ∧ wKd 54 = 0 := by decide
theorem aa_55 : 8 ≤ 55 ∧ 55 < 81 ∧ wKd 55 = 0 := by decide
theorem aa_56 : 8 ≤ 56 ∧ 56 < 81 ∧ wKd 56 = 0 := by decide
theorem aa_57 : 8 ≤ 57 ∧ 57 < 81 ∧ wKd 57 = 0 := by decide
theorem aa_58 : 8 ≤ 58 ∧ 58 < 81 ∧ wKd 58 = 0 := by decide
theorem aa_59 : 8 ≤ 59 ∧ 59 < 81 ∧ wKd 59 = 0 := by decide
theorem aa_60 : 8 ≤ 60 ∧ 60 < 81 ∧ wKd 60 = 2 := by decide
theorem aa_61 : 8 ≤ 61 ∧ 61 < 81 ∧ wKd 61 = 2 := by decide
theorem aa_62 : 8 ≤ 62 ∧ 62 < 81 ∧ wKd 62 = 2 := by decide
theorem aa_63 : 8 ≤ 63 ∧ 63 < 81 ∧ wKd 63 = 2 := by decide
theorem aa_64 : 8 ≤ 64 ∧ 64 < 81 ∧ wKd 64 = 0 := by decide
theorem aa_65 : 8 ≤ 65 ∧ 65 < 81 ∧ wKd 65 = 0 := by decide
theorem aa_66 : 8 ≤ 66 ∧ 66 < 81 ∧ wKd 66 = 0 := by decide
theorem aa_67 : 8 ≤ 67 ∧ 67 < 81 ∧ wKd 67 = 0 := by decide
theorem aa_68 : 8 ≤ 68 ∧ 68 < 81 ∧ wKd 68 = 0 := by decide
theorem aa_69 : 8 ≤ 69 ∧ 69 < 81 ∧ wKd 69 = 0 := by decide
theorem aa_70 : 8 ≤ 70 ∧ 70 < 81 ∧ wKd 70 = 1 := by decide
theorem aa_71 : 8 ≤ 71 ∧ 71 < 81 ∧ wKd 71 = 1 := by decide
theorem aa_72 : 8 ≤ 72 ∧ 72 < 81 ∧ wKd 72 = 0 := by decide
theorem aa_73 : 8 ≤ 73 ∧ 73 < 81 ∧ wKd 73 = 1 := by decide
theorem aa_74 : 8 ≤ 74 ∧ 74 < 81 ∧ wKd 74 = 0 := by decide
theorem aa_75 : 8 ≤ 75 ∧ 75 < 81 ∧ wKd 75 = 0 := by decide
theorem aa_76 : 8 ≤ 76 ∧ 76 < 81 ∧ wKd 76 = 0 := by decide
theorem aa_77 : 8 ≤ 77 ∧ 77 < 81 ∧ wKd 77 = 2 := by decide
theorem aa_78 : 8 ≤ 78 ∧ 78 < 81 ∧ wKd 78 = 2 := by decide
theorem aa_79 : 8 ≤ 79 ∧ 79 < 81 ∧ wKd 79 = 2 := by decide
theorem aa_80 : 8 ≤ 80 ∧ 80 < 81 ∧ wKd 80 = 2 := by decide
theorem ar_33 {i : Nat} (h : i < 12) : 8 ≤ 35 + i ∧ 35 + i < 81 ∧ wKd (35 + i) = 0 := by
  have h9 : ∀ i, i < 12 → 8 ≤ 35 + i ∧ 35 + i < 81 ∧ wKd (35 + i) = 0 := by decide
  exact h9 i h
theorem al_33 {i : Nat} (h : i < 12) : wLn (35 + i) = 12 := by
  have h9 : ∀ i, i < 12 → wLn (35 + i) = 12 := by decide
  exact h9 i h
theorem ar_34 {i : Nat} (h : i < 4) : 8 ≤ 47 + i ∧ 47 + i < 81 ∧ wKd (47 + i) = 0 := by
  have h9 : ∀ i, i < 4 → 8 ≤ 47 + i ∧ 47 + i < 81 ∧ wKd (47 + i) = 0 := by decide
  exact h9 i h
theorem al_34 {i : Nat} (h : i < 4) : wLn (47 + i) = 100 := by
  have h9 : ∀ i, i < 4 → wLn (47 + i) = 100 := by decide
  exact h9 i h
theorem wln_lt (a : Nat) : wLn a < 2 ^ 31 := by
  have h : ∀ n, n < 73 → (wTab.getD n (0, 0)).2 < 2 ^ 31 := by decide
  unfold wLn
  rcases Nat.lt_or_ge (a - 8) 73 with q | q
  · exact h _ q
  · rw [List.getD_eq_getElem?_getD, List.getElem?_eq_none (by show 73 ≤ a - 8; exact q)]
    decide
section GN
variable {K : wK} {G : wG} {cells slots : Nat} {Q : State → Prop} {V : wV} {I : wI} {J : wJ} {pc : Nat} {lv : List (Nat × Value)} {st : List Value} {own : String} {cc : ByteArray} {nL : Nat}
theorem n_iald (C : Cx K G own cc nL) (a : Nat) (ha : 8 ≤ a ∧ a < 81 ∧ wKd a = 0) (j : Nat) (hj : j < wLn a) (hd : decode cc pc = .ok (.iaload, 1)) (k : WW K G cells slots Q V I J (pc + 1) lv (.int (I a j) :: st)) : WW K G cells slots Q V I J (pc) lv (.int (nI j) :: .ref (G.2.1 a) :: st) := g_iald C a ha (vp_in_nI hj (wln_lt a)) hd (by rw [nI_clamp (Nat.lt_trans hj (wln_lt a))]; exact k)
theorem n_zald (C : Cx K G own cc nL) (a : Nat) (ha : 8 ≤ a ∧ a < 81 ∧ wKd a = 1) (j : Nat) (hj : j < wLn a) (hd : decode cc pc = .ok (.baload, 1)) (k : WW K G cells slots Q V I J (pc + 1) lv (.int (I a j) :: st)) : WW K G cells slots Q V I J (pc) lv (.int (nI j) :: .ref (G.2.1 a) :: st) := g_zald C a ha (vp_in_nI hj (wln_lt a)) hd (by rw [nI_clamp (Nat.lt_trans hj (wln_lt a))]; exact k)
theorem n_lald (C : Cx K G own cc nL) (a : Nat) (ha : 8 ≤ a ∧ a < 81 ∧ wKd a = 2) (j : Nat) (hj : j < wLn a) (hd : decode cc pc = .ok (.laload, 1)) (k : WW K G cells slots Q V I J (pc + 1) lv (.long (J a j) :: st)) : WW K G cells slots Q V I J (pc) lv (.int (nI j) :: .ref (G.2.1 a) :: st) := g_lald C a ha (vp_in_nI hj (wln_lt a)) hd (by rw [nI_clamp (Nat.lt_trans hj (wln_lt a))]; exact k)
theorem n_aald33 (C : Cx K G own cc nL) (j : Nat) (hj : j < 12) (hd : decode cc pc = .ok (.aaload, 1)) (k : WW K G cells slots Q V I J (pc + 1) lv (.ref (G.2.1 (35 + j)) :: st)) : WW K G cells slots Q V I J (pc) lv (.int (nI j) :: .ref (G.2.1 33) :: st) := g_aald C 33 aa_33 (vp_in_nI (show j < wLn 33 from hj) (wln_lt 33)) hd (by rw [nI_clamp (show j < 2 ^ 31 by omega)]; exact k)
theorem n_aald34 (C : Cx K G own cc nL) (j : Nat) (hj : j < 4) (hd : decode cc pc = .ok (.aaload, 1)) (k : WW K G cells slots Q V I J (pc + 1) lv (.ref (G.2.1 (47 + j)) :: st)) : WW K G cells slots Q V I J (pc) lv (.int (nI j) :: .ref (G.2.1 34) :: st) := g_aald C 34 aa_34 (vp_in_nI (show j < wLn 34 from hj) (wln_lt 34)) hd (by rw [nI_clamp (show j < 2 ^ 31 by omega)]; exact k)
theorem n_iast (C : Cx K G own cc nL) (a : Nat) (ha : 8 ≤ a ∧ a < 81 ∧ wKd a = 0) (j : Nat) (hj : j < wLn a) {x : Int32} (hd : decode cc pc = .ok (.iastore, 1)) (k : WW K G cells slots Q V (uI I a (upd (I a) j x)) J (pc + 1) lv (st)) : WW K G cells slots Q V I J (pc) lv (.int x :: .int (nI j) :: .ref (G.2.1 a) :: st) := g_iast C a ha (vp_in_nI hj (wln_lt a)) hd (by rw [nI_clamp (Nat.lt_trans hj (wln_lt a))]; exact k)
theorem n_zast (C : Cx K G own cc nL) (a : Nat) (ha : 8 ≤ a ∧ a < 81 ∧ wKd a = 1) (j : Nat) (hj : j < wLn a) {x : Int32} (hx : vp_nar .boolean x = x) (hd : decode cc pc = .ok (.bastore, 1)) (k : WW K G cells slots Q V (uI I a (upd (I a) j x)) J (pc + 1) lv (st)) : WW K G cells slots Q V I J (pc) lv (.int x :: .int (nI j) :: .ref (G.2.1 a) :: st) := g_zast C a ha (vp_in_nI hj (wln_lt a)) hx hd (by rw [nI_clamp (Nat.lt_trans hj (wln_lt a))]; exact k)
theorem n_last (C : Cx K G own cc nL) (a : Nat) (ha : 8 ≤ a ∧ a < 81 ∧ wKd a = 2) (j : Nat) (hj : j < wLn a) {x : Int64} (hd : decode cc pc = .ok (.lastore, 1)) (k : WW K G cells slots Q V I (uJ J a (vp_updL (J a) j x)) (pc + 1) lv (st)) : WW K G cells slots Q V I J (pc) lv (.long x :: .int (nI j) :: .ref (G.2.1 a) :: st) := g_last C a ha (vp_in_nI hj (wln_lt a)) hd (by rw [nI_clamp (Nat.lt_trans hj (wln_lt a))]; exact k)
end GN
theorem vin_nI {x : Int32} {n : Nat} (h : vp_in x n) (hn : n < 2 ^ 31) : ∃ j : Nat, j < n ∧ x = nI j := vp_in_of h hn
theorem nI_i1 (i : Nat) : nI i + Int32.ofInt 1 = nI (i + 1) := nI_1 i
theorem nI_im {i j : Nat} (h : i = j + 1) : nI i + Int32.ofInt (-1) = nI j := by subst h; exact pk_m1 j
theorem nI_s1 {i j : Nat} (h : i = j + 1) : nI i - nI 1 = nI j := by subst h; exact (pk_sub (by omega)).trans (congrArg nI (by omega))
theorem pd_X0_init : yX0_init.cls ≠ "java/lang/invoke/MethodHandle" ∧ yX0_init.cls ≠ "java/lang/invoke/VarHandle" ∧ (parseMethodDescriptor yX0_init.desc).map (fun d => d.parameters.length) = some 0 := by decide +kernel
theorem pd_X0_forgetShares : yX0_forgetShares.cls ≠ "java/lang/invoke/MethodHandle" ∧ yX0_forgetShares.cls ≠ "java/lang/invoke/VarHandle" ∧ (parseMethodDescriptor yX0_forgetShares.desc).map (fun d => d.parameters.length) = some 0 := by decide +kernel
theorem pd_X0_charge : yX0_charge.cls ≠ "java/lang/invoke/MethodHandle" ∧ yX0_charge.cls ≠ "java/lang/invoke/VarHandle" ∧ (parseMethodDescriptor yX0_charge.desc).map (fun d => d.parameters.length) = some 3 := by decide +kernel
theorem pd_X1_init : yX1_init.cls ≠ "java/lang/invoke/MethodHandle" ∧ yX1_init.cls ≠ "java/lang/invoke/VarHandle" ∧ (parseMethodDescriptor yX1_init.desc).map (fun d => d.parameters.length) = some 0 := by decide +kernel
theorem pd_X1_forgetAll : yX1_forgetAll.cls ≠ "java/lang/invoke/MethodHandle" ∧ yX1_forgetAll.cls ≠ "java/lang/invoke/VarHandle" ∧ (parseMethodDescriptor yX1_forgetAll.desc).map (fun d => d.parameters.length) = some 0 := by decide +kernel
theorem pd_X1_begin : yX1_begin.cls ≠ "java/lang/invoke/MethodHandle" ∧ yX1_begin.cls ≠ "java/lang/invoke/VarHandle" ∧ (parseMethodDescriptor yX1_begin.desc).map (fun d => d.parameters.length) = some 2 := by decide +kernel
theorem pd_X1_goOn : yX1_goOn.cls ≠ "java/lang/invoke/MethodHandle" ∧ yX1_goOn.cls ≠ "java/lang/invoke/VarHandle" ∧ (parseMethodDescriptor yX1_goOn.desc).map (fun d => d.parameters.length) = some 3 := by decide +kernel
theorem pd_X1_putDouble : yX1_putDouble.cls ≠ "java/lang/invoke/MethodHandle" ∧ yX1_putDouble.cls ≠ "java/lang/invoke/VarHandle" ∧ (parseMethodDescriptor yX1_putDouble.desc).map (fun d => d.parameters.length) = some 2 := by decide +kernel
theorem pd_X1_pay : yX1_pay.cls ≠ "java/lang/invoke/MethodHandle" ∧ yX1_pay.cls ≠ "java/lang/invoke/VarHandle" ∧ (parseMethodDescriptor yX1_pay.desc).map (fun d => d.parameters.length) = some 3 := by decide +kernel
theorem pd_X1_isOver : yX1_isOver.cls ≠ "java/lang/invoke/MethodHandle" ∧ yX1_isOver.cls ≠ "java/lang/invoke/VarHandle" ∧ (parseMethodDescriptor yX1_isOver.desc).map (fun d => d.parameters.length) = some 2 := by decide +kernel
theorem pd_X1_wholeOf : yX1_wholeOf.cls ≠ "java/lang/invoke/MethodHandle" ∧ yX1_wholeOf.cls ≠ "java/lang/invoke/VarHandle" ∧ (parseMethodDescriptor yX1_wholeOf.desc).map (fun d => d.parameters.length) = some 1 := by decide +kernel
theorem pd_X1_fareOf : yX1_fareOf.cls ≠ "java/lang/invoke/MethodHandle" ∧ yX1_fareOf.cls ≠ "java/lang/invoke/VarHandle" ∧ (parseMethodDescriptor yX1_fareOf.desc).map (fun d => d.parameters.length) = some 2 := by decide +kernel
theorem pd_X1_shareOf : yX1_shareOf.cls ≠ "java/lang/invoke/MethodHandle" ∧ yX1_shareOf.cls ≠ "java/lang/invoke/VarHandle" ∧ (parseMethodDescriptor yX1_shareOf.desc).map (fun d => d.parameters.length) = some 3 := by decide +kernel
theorem pd_X1_cutShare : yX1_cutShare.cls ≠ "java/lang/invoke/MethodHandle" ∧ yX1_cutShare.cls ≠ "java/lang/invoke/VarHandle" ∧ (parseMethodDescriptor yX1_cutShare.desc).map (fun d => d.parameters.length) = some 4 := by decide +kernel
theorem pd_X1_ownerOfTheMost : yX1_ownerOfTheMost.cls ≠ "java/lang/invoke/MethodHandle" ∧ yX1_ownerOfTheMost.cls ≠ "java/lang/invoke/VarHandle" ∧ (parseMethodDescriptor yX1_ownerOfTheMost.desc).map (fun d => d.parameters.length) = some 1 := by decide +kernel
theorem pd_X1_sumFares : yX1_sumFares.cls ≠ "java/lang/invoke/MethodHandle" ∧ yX1_sumFares.cls ≠ "java/lang/invoke/VarHandle" ∧ (parseMethodDescriptor yX1_sumFares.desc).map (fun d => d.parameters.length) = some 2 := by decide +kernel
theorem pd_X1_sumShares : yX1_sumShares.cls ≠ "java/lang/invoke/MethodHandle" ∧ yX1_sumShares.cls ≠ "java/lang/invoke/VarHandle" ∧ (parseMethodDescriptor yX1_sumShares.desc).map (fun d => d.parameters.length) = some 3 := by decide +kernel
theorem pd_X2_init : yX2_init.cls ≠ "java/lang/invoke/MethodHandle" ∧ yX2_init.cls ≠ "java/lang/invoke/VarHandle" ∧ (parseMethodDescriptor yX2_init.desc).map (fun d => d.parameters.length) = some 0 := by decide +kernel
theorem pd_X2_addSpan : yX2_addSpan.cls ≠ "java/lang/invoke/MethodHandle" ∧ yX2_addSpan.cls ≠ "java/lang/invoke/VarHandle" ∧ (parseMethodDescriptor yX2_addSpan.desc).map (fun d => d.parameters.length) = some 3 := by decide +kernel
theorem pd_X2_isExempt : yX2_isExempt.cls ≠ "java/lang/invoke/MethodHandle" ∧ yX2_isExempt.cls ≠ "java/lang/invoke/VarHandle" ∧ (parseMethodDescriptor yX2_isExempt.desc).map (fun d => d.parameters.length) = some 2 := by decide +kernel
theorem pd_X3_init : yX3_init.cls ≠ "java/lang/invoke/MethodHandle" ∧ yX3_init.cls ≠ "java/lang/invoke/VarHandle" ∧ (parseMethodDescriptor yX3_init.desc).map (fun d => d.parameters.length) = some 0 := by decide +kernel
theorem pd_X3_add : yX3_add.cls ≠ "java/lang/invoke/MethodHandle" ∧ yX3_add.cls ≠ "java/lang/invoke/VarHandle" ∧ (parseMethodDescriptor yX3_add.desc).map (fun d => d.parameters.length) = some 3 := by decide +kernel
theorem pd_X3_minutesBetween : yX3_minutesBetween.cls ≠ "java/lang/invoke/MethodHandle" ∧ yX3_minutesBetween.cls ≠ "java/lang/invoke/VarHandle" ∧ (parseMethodDescriptor yX3_minutesBetween.desc).map (fun d => d.parameters.length) = some 2 := by decide +kernel
theorem pd_X4_init : yX4_init.cls ≠ "java/lang/invoke/MethodHandle" ∧ yX4_init.cls ≠ "java/lang/invoke/VarHandle" ∧ (parseMethodDescriptor yX4_init.desc).map (fun d => d.parameters.length) = some 0 := by decide +kernel
theorem pd_X4_addGate : yX4_addGate.cls ≠ "java/lang/invoke/MethodHandle" ∧ yX4_addGate.cls ≠ "java/lang/invoke/VarHandle" ∧ (parseMethodDescriptor yX4_addGate.desc).map (fun d => d.parameters.length) = some 0 := by decide +kernel
theorem pd_X4_addRoad : yX4_addRoad.cls ≠ "java/lang/invoke/MethodHandle" ∧ yX4_addRoad.cls ≠ "java/lang/invoke/VarHandle" ∧ (parseMethodDescriptor yX4_addRoad.desc).map (fun d => d.parameters.length) = some 4 := by decide +kernel
theorem pd_X4_shortenDistances : yX4_shortenDistances.cls ≠ "java/lang/invoke/MethodHandle" ∧ yX4_shortenDistances.cls ≠ "java/lang/invoke/VarHandle" ∧ (parseMethodDescriptor yX4_shortenDistances.desc).map (fun d => d.parameters.length) = some 3 := by decide +kernel
theorem pd_X4_hasWay : yX4_hasWay.cls ≠ "java/lang/invoke/MethodHandle" ∧ yX4_hasWay.cls ≠ "java/lang/invoke/VarHandle" ∧ (parseMethodDescriptor yX4_hasWay.desc).map (fun d => d.parameters.length) = some 2 := by decide +kernel
theorem pd_X4_roadOfWay : yX4_roadOfWay.cls ≠ "java/lang/invoke/MethodHandle" ∧ yX4_roadOfWay.cls ≠ "java/lang/invoke/VarHandle" ∧ (parseMethodDescriptor yX4_roadOfWay.desc).map (fun d => d.parameters.length) = some 3 := by decide +kernel
theorem pd_X4_roadTowards : yX4_roadTowards.cls ≠ "java/lang/invoke/MethodHandle" ∧ yX4_roadTowards.cls ≠ "java/lang/invoke/VarHandle" ∧ (parseMethodDescriptor yX4_roadTowards.desc).map (fun d => d.parameters.length) = some 2 := by decide +kernel
theorem pd_X4_otherEnd : yX4_otherEnd.cls ≠ "java/lang/invoke/MethodHandle" ∧ yX4_otherEnd.cls ≠ "java/lang/invoke/VarHandle" ∧ (parseMethodDescriptor yX4_otherEnd.desc).map (fun d => d.parameters.length) = some 2 := by decide +kernel
theorem pd_X5_init : yX5_init.cls ≠ "java/lang/invoke/MethodHandle" ∧ yX5_init.cls ≠ "java/lang/invoke/VarHandle" ∧ (parseMethodDescriptor yX5_init.desc).map (fun d => d.parameters.length) = some 0 := by decide +kernel
theorem pd_X5_centsFor : yX5_centsFor.cls ≠ "java/lang/invoke/MethodHandle" ∧ yX5_centsFor.cls ≠ "java/lang/invoke/VarHandle" ∧ (parseMethodDescriptor yX5_centsFor.desc).map (fun d => d.parameters.length) = some 3 := by decide +kernel
theorem pd_X5_isBusy : yX5_isBusy.cls ≠ "java/lang/invoke/MethodHandle" ∧ yX5_isBusy.cls ≠ "java/lang/invoke/VarHandle" ∧ (parseMethodDescriptor yX5_isBusy.desc).map (fun d => d.parameters.length) = some 1 := by decide +kernel
theorem pd_X6_init : yX6_init.cls ≠ "java/lang/invoke/MethodHandle" ∧ yX6_init.cls ≠ "java/lang/invoke/VarHandle" ∧ (parseMethodDescriptor yX6_init.desc).map (fun d => d.parameters.length) = some 0 := by decide +kernel
theorem pd_X6_gate : yX6_gate.cls ≠ "java/lang/invoke/MethodHandle" ∧ yX6_gate.cls ≠ "java/lang/invoke/VarHandle" ∧ (parseMethodDescriptor yX6_gate.desc).map (fun d => d.parameters.length) = some 0 := by decide +kernel
theorem pd_X6_road : yX6_road.cls ≠ "java/lang/invoke/MethodHandle" ∧ yX6_road.cls ≠ "java/lang/invoke/VarHandle" ∧ (parseMethodDescriptor yX6_road.desc).map (fun d => d.parameters.length) = some 4 := by decide +kernel
theorem pd_X6_rate : yX6_rate.cls ≠ "java/lang/invoke/MethodHandle" ∧ yX6_rate.cls ≠ "java/lang/invoke/VarHandle" ∧ (parseMethodDescriptor yX6_rate.desc).map (fun d => d.parameters.length) = some 3 := by decide +kernel
theorem pd_X6_most : yX6_most.cls ≠ "java/lang/invoke/MethodHandle" ∧ yX6_most.cls ≠ "java/lang/invoke/VarHandle" ∧ (parseMethodDescriptor yX6_most.desc).map (fun d => d.parameters.length) = some 1 := by decide +kernel
theorem pd_X6_plate : yX6_plate.cls ≠ "java/lang/invoke/MethodHandle" ∧ yX6_plate.cls ≠ "java/lang/invoke/VarHandle" ∧ (parseMethodDescriptor yX6_plate.desc).map (fun d => d.parameters.length) = some 3 := by decide +kernel
theorem pd_X6_top : yX6_top.cls ≠ "java/lang/invoke/MethodHandle" ∧ yX6_top.cls ≠ "java/lang/invoke/VarHandle" ∧ (parseMethodDescriptor yX6_top.desc).map (fun d => d.parameters.length) = some 2 := by decide +kernel
theorem pd_X6_exempt : yX6_exempt.cls ≠ "java/lang/invoke/MethodHandle" ∧ yX6_exempt.cls ≠ "java/lang/invoke/VarHandle" ∧ (parseMethodDescriptor yX6_exempt.desc).map (fun d => d.parameters.length) = some 3 := by decide +kernel
theorem pd_X6_read : yX6_read.cls ≠ "java/lang/invoke/MethodHandle" ∧ yX6_read.cls ≠ "java/lang/invoke/VarHandle" ∧ (parseMethodDescriptor yX6_read.desc).map (fun d => d.parameters.length) = some 3 := by decide +kernel
theorem pd_X6_strike : yX6_strike.cls ≠ "java/lang/invoke/MethodHandle" ∧ yX6_strike.cls ≠ "java/lang/invoke/VarHandle" ∧ (parseMethodDescriptor yX6_strike.desc).map (fun d => d.parameters.length) = some 1 := by decide +kernel
theorem pd_X6_pass : yX6_pass.cls ≠ "java/lang/invoke/MethodHandle" ∧ yX6_pass.cls ≠ "java/lang/invoke/VarHandle" ∧ (parseMethodDescriptor yX6_pass.desc).map (fun d => d.parameters.length) = some 1 := by decide +kernel
theorem pd_X6_bill : yX6_bill.cls ≠ "java/lang/invoke/MethodHandle" ∧ yX6_bill.cls ≠ "java/lang/invoke/VarHandle" ∧ (parseMethodDescriptor yX6_bill.desc).map (fun d => d.parameters.length) = some 0 := by decide +kernel
theorem pd_X6_distance : yX6_distance.cls ≠ "java/lang/invoke/MethodHandle" ∧ yX6_distance.cls ≠ "java/lang/invoke/VarHandle" ∧ (parseMethodDescriptor yX6_distance.desc).map (fun d => d.parameters.length) = some 2 := by decide +kernel
theorem pd_X6_way : yX6_way.cls ≠ "java/lang/invoke/MethodHandle" ∧ yX6_way.cls ≠ "java/lang/invoke/VarHandle" ∧ (parseMethodDescriptor yX6_way.desc).map (fun d => d.parameters.length) = some 3 := by decide +kernel
theorem pd_X6_journeys : yX6_journeys.cls ≠ "java/lang/invoke/MethodHandle" ∧ yX6_journeys.cls ≠ "java/lang/invoke/VarHandle" ∧ (parseMethodDescriptor yX6_journeys.desc).map (fun d => d.parameters.length) = some 1 := by decide +kernel
theorem pd_X6_journey : yX6_journey.cls ≠ "java/lang/invoke/MethodHandle" ∧ yX6_journey.cls ≠ "java/lang/invoke/VarHandle" ∧ (parseMethodDescriptor yX6_journey.desc).map (fun d => d.parameters.length) = some 3 := by decide +kernel
theorem pd_X6_ofReading : yX6_ofReading.cls ≠ "java/lang/invoke/MethodHandle" ∧ yX6_ofReading.cls ≠ "java/lang/invoke/VarHandle" ∧ (parseMethodDescriptor yX6_ofReading.desc).map (fun d => d.parameters.length) = some 2 := by decide +kernel
theorem pd_X6_due : yX6_due.cls ≠ "java/lang/invoke/MethodHandle" ∧ yX6_due.cls ≠ "java/lang/invoke/VarHandle" ∧ (parseMethodDescriptor yX6_due.desc).map (fun d => d.parameters.length) = some 1 := by decide +kernel
theorem pd_X6_billed : yX6_billed.cls ≠ "java/lang/invoke/MethodHandle" ∧ yX6_billed.cls ≠ "java/lang/invoke/VarHandle" ∧ (parseMethodDescriptor yX6_billed.desc).map (fun d => d.parameters.length) = some 1 := by decide +kernel
theorem pd_X6_wallet : yX6_wallet.cls ≠ "java/lang/invoke/MethodHandle" ∧ yX6_wallet.cls ≠ "java/lang/invoke/VarHandle" ∧ (parseMethodDescriptor yX6_wallet.desc).map (fun d => d.parameters.length) = some 1 := by decide +kernel
theorem pd_X6_own : yX6_own.cls ≠ "java/lang/invoke/MethodHandle" ∧ yX6_own.cls ≠ "java/lang/invoke/VarHandle" ∧ (parseMethodDescriptor yX6_own.desc).map (fun d => d.parameters.length) = some 1 := by decide +kernel
theorem pd_X6_share : yX6_share.cls ≠ "java/lang/invoke/MethodHandle" ∧ yX6_share.cls ≠ "java/lang/invoke/VarHandle" ∧ (parseMethodDescriptor yX6_share.desc).map (fun d => d.parameters.length) = some 2 := by decide +kernel
theorem pd_X6_requireGate : yX6_requireGate.cls ≠ "java/lang/invoke/MethodHandle" ∧ yX6_requireGate.cls ≠ "java/lang/invoke/VarHandle" ∧ (parseMethodDescriptor yX6_requireGate.desc).map (fun d => d.parameters.length) = some 1 := by decide +kernel
theorem pd_X6_requireReading : yX6_requireReading.cls ≠ "java/lang/invoke/MethodHandle" ∧ yX6_requireReading.cls ≠ "java/lang/invoke/VarHandle" ∧ (parseMethodDescriptor yX6_requireReading.desc).map (fun d => d.parameters.length) = some 1 := by decide +kernel
theorem pd_X6_requirePlate : yX6_requirePlate.cls ≠ "java/lang/invoke/MethodHandle" ∧ yX6_requirePlate.cls ≠ "java/lang/invoke/VarHandle" ∧ (parseMethodDescriptor yX6_requirePlate.desc).map (fun d => d.parameters.length) = some 1 := by decide +kernel
theorem pd_X6_requireHolder : yX6_requireHolder.cls ≠ "java/lang/invoke/MethodHandle" ∧ yX6_requireHolder.cls ≠ "java/lang/invoke/VarHandle" ∧ (parseMethodDescriptor yX6_requireHolder.desc).map (fun d => d.parameters.length) = some 1 := by decide +kernel
theorem pd_X6_requireRange : yX6_requireRange.cls ≠ "java/lang/invoke/MethodHandle" ∧ yX6_requireRange.cls ≠ "java/lang/invoke/VarHandle" ∧ (parseMethodDescriptor yX6_requireRange.desc).map (fun d => d.parameters.length) = some 3 := by decide +kernel
theorem pd_X6_findJourneys : yX6_findJourneys.cls ≠ "java/lang/invoke/MethodHandle" ∧ yX6_findJourneys.cls ≠ "java/lang/invoke/VarHandle" ∧ (parseMethodDescriptor yX6_findJourneys.desc).map (fun d => d.parameters.length) = some 1 := by decide +kernel
theorem pd_X6_placeReading : yX6_placeReading.cls ≠ "java/lang/invoke/MethodHandle" ∧ yX6_placeReading.cls ≠ "java/lang/invoke/VarHandle" ∧ (parseMethodDescriptor yX6_placeReading.desc).map (fun d => d.parameters.length) = some 2 := by decide +kernel
theorem pd_X6_isDoubleOf : yX6_isDoubleOf.cls ≠ "java/lang/invoke/MethodHandle" ∧ yX6_isDoubleOf.cls ≠ "java/lang/invoke/VarHandle" ∧ (parseMethodDescriptor yX6_isDoubleOf.desc).map (fun d => d.parameters.length) = some 2 := by decide +kernel
theorem pd_X6_goesOnFrom : yX6_goesOnFrom.cls ≠ "java/lang/invoke/MethodHandle" ∧ yX6_goesOnFrom.cls ≠ "java/lang/invoke/VarHandle" ∧ (parseMethodDescriptor yX6_goesOnFrom.desc).map (fun d => d.parameters.length) = some 2 := by decide +kernel
theorem pd_X6_payWay : yX6_payWay.cls ≠ "java/lang/invoke/MethodHandle" ∧ yX6_payWay.cls ≠ "java/lang/invoke/VarHandle" ∧ (parseMethodDescriptor yX6_payWay.desc).map (fun d => d.parameters.length) = some 3 := by decide +kernel
theorem pd_X6_isDoubleNow : yX6_isDoubleNow.cls ≠ "java/lang/invoke/MethodHandle" ∧ yX6_isDoubleNow.cls ≠ "java/lang/invoke/VarHandle" ∧ (parseMethodDescriptor yX6_isDoubleNow.desc).map (fun d => d.parameters.length) = some 1 := by decide +kernel
theorem pd_X6_journeyNow : yX6_journeyNow.cls ≠ "java/lang/invoke/MethodHandle" ∧ yX6_journeyNow.cls ≠ "java/lang/invoke/VarHandle" ∧ (parseMethodDescriptor yX6_journeyNow.desc).map (fun d => d.parameters.length) = some 1 := by decide +kernel
theorem pd_X6_dueToOwner : yX6_dueToOwner.cls ≠ "java/lang/invoke/MethodHandle" ∧ yX6_dueToOwner.cls ≠ "java/lang/invoke/VarHandle" ∧ (parseMethodDescriptor yX6_dueToOwner.desc).map (fun d => d.parameters.length) = some 1 := by decide +kernel
theorem pd_X7_init : yX7_init.cls ≠ "java/lang/invoke/MethodHandle" ∧ yX7_init.cls ≠ "java/lang/invoke/VarHandle" ∧ (parseMethodDescriptor yX7_init.desc).map (fun d => d.parameters.length) = some 0 := by decide +kernel
theorem pd_X7_thrown : yX7_thrown.cls ≠ "java/lang/invoke/MethodHandle" ∧ yX7_thrown.cls ≠ "java/lang/invoke/VarHandle" ∧ (parseMethodDescriptor yX7_thrown.desc).map (fun d => d.parameters.length) = some 0 := by decide +kernel
theorem pd_X7_in : yX7_in.cls ≠ "java/lang/invoke/MethodHandle" ∧ yX7_in.cls ≠ "java/lang/invoke/VarHandle" ∧ (parseMethodDescriptor yX7_in.desc).map (fun d => d.parameters.length) = some 3 := by decide +kernel
theorem pd_X7_isGate : yX7_isGate.cls ≠ "java/lang/invoke/MethodHandle" ∧ yX7_isGate.cls ≠ "java/lang/invoke/VarHandle" ∧ (parseMethodDescriptor yX7_isGate.desc).map (fun d => d.parameters.length) = some 1 := by decide +kernel
theorem pd_X7_isPlate : yX7_isPlate.cls ≠ "java/lang/invoke/MethodHandle" ∧ yX7_isPlate.cls ≠ "java/lang/invoke/VarHandle" ∧ (parseMethodDescriptor yX7_isPlate.desc).map (fun d => d.parameters.length) = some 1 := by decide +kernel
theorem pd_X7_isHolder : yX7_isHolder.cls ≠ "java/lang/invoke/MethodHandle" ∧ yX7_isHolder.cls ≠ "java/lang/invoke/VarHandle" ∧ (parseMethodDescriptor yX7_isHolder.desc).map (fun d => d.parameters.length) = some 1 := by decide +kernel
theorem pd_X7_isReading : yX7_isReading.cls ≠ "java/lang/invoke/MethodHandle" ∧ yX7_isReading.cls ≠ "java/lang/invoke/VarHandle" ∧ (parseMethodDescriptor yX7_isReading.desc).map (fun d => d.parameters.length) = some 1 := by decide +kernel
theorem pd_X7_measures : yX7_measures.cls ≠ "java/lang/invoke/MethodHandle" ∧ yX7_measures.cls ≠ "java/lang/invoke/VarHandle" ∧ (parseMethodDescriptor yX7_measures.desc).map (fun d => d.parameters.length) = some 0 := by decide +kernel
theorem pd_X7_away : yX7_away.cls ≠ "java/lang/invoke/MethodHandle" ∧ yX7_away.cls ≠ "java/lang/invoke/VarHandle" ∧ (parseMethodDescriptor yX7_away.desc).map (fun d => d.parameters.length) = some 2 := by decide +kernel
theorem pd_X7_next : yX7_next.cls ≠ "java/lang/invoke/MethodHandle" ∧ yX7_next.cls ≠ "java/lang/invoke/VarHandle" ∧ (parseMethodDescriptor yX7_next.desc).map (fun d => d.parameters.length) = some 2 := by decide +kernel
theorem pd_X7_otherEnd : yX7_otherEnd.cls ≠ "java/lang/invoke/MethodHandle" ∧ yX7_otherEnd.cls ≠ "java/lang/invoke/VarHandle" ∧ (parseMethodDescriptor yX7_otherEnd.desc).map (fun d => d.parameters.length) = some 2 := by decide +kernel
theorem pd_X7_gate : yX7_gate.cls ≠ "java/lang/invoke/MethodHandle" ∧ yX7_gate.cls ≠ "java/lang/invoke/VarHandle" ∧ (parseMethodDescriptor yX7_gate.desc).map (fun d => d.parameters.length) = some 0 := by decide +kernel
theorem pd_X7_road : yX7_road.cls ≠ "java/lang/invoke/MethodHandle" ∧ yX7_road.cls ≠ "java/lang/invoke/VarHandle" ∧ (parseMethodDescriptor yX7_road.desc).map (fun d => d.parameters.length) = some 4 := by decide +kernel
theorem pd_X7_rate : yX7_rate.cls ≠ "java/lang/invoke/MethodHandle" ∧ yX7_rate.cls ≠ "java/lang/invoke/VarHandle" ∧ (parseMethodDescriptor yX7_rate.desc).map (fun d => d.parameters.length) = some 3 := by decide +kernel
theorem pd_X7_most : yX7_most.cls ≠ "java/lang/invoke/MethodHandle" ∧ yX7_most.cls ≠ "java/lang/invoke/VarHandle" ∧ (parseMethodDescriptor yX7_most.desc).map (fun d => d.parameters.length) = some 1 := by decide +kernel
theorem pd_X7_plate : yX7_plate.cls ≠ "java/lang/invoke/MethodHandle" ∧ yX7_plate.cls ≠ "java/lang/invoke/VarHandle" ∧ (parseMethodDescriptor yX7_plate.desc).map (fun d => d.parameters.length) = some 3 := by decide +kernel
theorem pd_X7_top : yX7_top.cls ≠ "java/lang/invoke/MethodHandle" ∧ yX7_top.cls ≠ "java/lang/invoke/VarHandle" ∧ (parseMethodDescriptor yX7_top.desc).map (fun d => d.parameters.length) = some 2 := by decide +kernel
theorem pd_X7_exempt : yX7_exempt.cls ≠ "java/lang/invoke/MethodHandle" ∧ yX7_exempt.cls ≠ "java/lang/invoke/VarHandle" ∧ (parseMethodDescriptor yX7_exempt.desc).map (fun d => d.parameters.length) = some 3 := by decide +kernel
theorem pd_X7_isExempt : yX7_isExempt.cls ≠ "java/lang/invoke/MethodHandle" ∧ yX7_isExempt.cls ≠ "java/lang/invoke/VarHandle" ∧ (parseMethodDescriptor yX7_isExempt.desc).map (fun d => d.parameters.length) = some 2 := by decide +kernel
theorem pd_X7_read : yX7_read.cls ≠ "java/lang/invoke/MethodHandle" ∧ yX7_read.cls ≠ "java/lang/invoke/VarHandle" ∧ (parseMethodDescriptor yX7_read.desc).map (fun d => d.parameters.length) = some 3 := by decide +kernel
theorem pd_X7_strike : yX7_strike.cls ≠ "java/lang/invoke/MethodHandle" ∧ yX7_strike.cls ≠ "java/lang/invoke/VarHandle" ∧ (parseMethodDescriptor yX7_strike.desc).map (fun d => d.parameters.length) = some 1 := by decide +kernel
theorem pd_X7_pass : yX7_pass.cls ≠ "java/lang/invoke/MethodHandle" ∧ yX7_pass.cls ≠ "java/lang/invoke/VarHandle" ∧ (parseMethodDescriptor yX7_pass.desc).map (fun d => d.parameters.length) = some 1 := by decide +kernel
theorem pd_X7_nextReading : yX7_nextReading.cls ≠ "java/lang/invoke/MethodHandle" ∧ yX7_nextReading.cls ≠ "java/lang/invoke/VarHandle" ∧ (parseMethodDescriptor yX7_nextReading.desc).map (fun d => d.parameters.length) = some 1 := by decide +kernel
theorem pd_X7_pays : yX7_pays.cls ≠ "java/lang/invoke/MethodHandle" ∧ yX7_pays.cls ≠ "java/lang/invoke/VarHandle" ∧ (parseMethodDescriptor yX7_pays.desc).map (fun d => d.parameters.length) = some 4 := by decide +kernel
theorem pd_X7_begins : yX7_begins.cls ≠ "java/lang/invoke/MethodHandle" ∧ yX7_begins.cls ≠ "java/lang/invoke/VarHandle" ∧ (parseMethodDescriptor yX7_begins.desc).map (fun d => d.parameters.length) = some 1 := by decide +kernel
theorem pd_X7_shares : yX7_shares.cls ≠ "java/lang/invoke/MethodHandle" ∧ yX7_shares.cls ≠ "java/lang/invoke/VarHandle" ∧ (parseMethodDescriptor yX7_shares.desc).map (fun d => d.parameters.length) = some 1 := by decide +kernel
theorem pd_X7_goes : yX7_goes.cls ≠ "java/lang/invoke/MethodHandle" ∧ yX7_goes.cls ≠ "java/lang/invoke/VarHandle" ∧ (parseMethodDescriptor yX7_goes.desc).map (fun d => d.parameters.length) = some 1 := by decide +kernel
theorem pd_X7_isOver : yX7_isOver.cls ≠ "java/lang/invoke/MethodHandle" ∧ yX7_isOver.cls ≠ "java/lang/invoke/VarHandle" ∧ (parseMethodDescriptor yX7_isOver.desc).map (fun d => d.parameters.length) = some 1 := by decide +kernel
theorem pd_X7_dueOf : yX7_dueOf.cls ≠ "java/lang/invoke/MethodHandle" ∧ yX7_dueOf.cls ≠ "java/lang/invoke/VarHandle" ∧ (parseMethodDescriptor yX7_dueOf.desc).map (fun d => d.parameters.length) = some 1 := by decide +kernel
theorem pd_X7_dueTo : yX7_dueTo.cls ≠ "java/lang/invoke/MethodHandle" ∧ yX7_dueTo.cls ≠ "java/lang/invoke/VarHandle" ∧ (parseMethodDescriptor yX7_dueTo.desc).map (fun d => d.parameters.length) = some 1 := by decide +kernel
theorem pd_X7_bill : yX7_bill.cls ≠ "java/lang/invoke/MethodHandle" ∧ yX7_bill.cls ≠ "java/lang/invoke/VarHandle" ∧ (parseMethodDescriptor yX7_bill.desc).map (fun d => d.parameters.length) = some 0 := by decide +kernel
theorem pd_X7_distance : yX7_distance.cls ≠ "java/lang/invoke/MethodHandle" ∧ yX7_distance.cls ≠ "java/lang/invoke/VarHandle" ∧ (parseMethodDescriptor yX7_distance.desc).map (fun d => d.parameters.length) = some 2 := by decide +kernel
theorem pd_X7_way : yX7_way.cls ≠ "java/lang/invoke/MethodHandle" ∧ yX7_way.cls ≠ "java/lang/invoke/VarHandle" ∧ (parseMethodDescriptor yX7_way.desc).map (fun d => d.parameters.length) = some 3 := by decide +kernel
theorem pd_X7_journeys : yX7_journeys.cls ≠ "java/lang/invoke/MethodHandle" ∧ yX7_journeys.cls ≠ "java/lang/invoke/VarHandle" ∧ (parseMethodDescriptor yX7_journeys.desc).map (fun d => d.parameters.length) = some 1 := by decide +kernel
theorem pd_X7_journey : yX7_journey.cls ≠ "java/lang/invoke/MethodHandle" ∧ yX7_journey.cls ≠ "java/lang/invoke/VarHandle" ∧ (parseMethodDescriptor yX7_journey.desc).map (fun d => d.parameters.length) = some 3 := by decide +kernel
theorem pd_X7_ofReading : yX7_ofReading.cls ≠ "java/lang/invoke/MethodHandle" ∧ yX7_ofReading.cls ≠ "java/lang/invoke/VarHandle" ∧ (parseMethodDescriptor yX7_ofReading.desc).map (fun d => d.parameters.length) = some 2 := by decide +kernel
theorem pd_X7_due : yX7_due.cls ≠ "java/lang/invoke/MethodHandle" ∧ yX7_due.cls ≠ "java/lang/invoke/VarHandle" ∧ (parseMethodDescriptor yX7_due.desc).map (fun d => d.parameters.length) = some 1 := by decide +kernel
theorem pd_X7_billed : yX7_billed.cls ≠ "java/lang/invoke/MethodHandle" ∧ yX7_billed.cls ≠ "java/lang/invoke/VarHandle" ∧ (parseMethodDescriptor yX7_billed.desc).map (fun d => d.parameters.length) = some 1 := by decide +kernel
theorem pd_X7_wallet : yX7_wallet.cls ≠ "java/lang/invoke/MethodHandle" ∧ yX7_wallet.cls ≠ "java/lang/invoke/VarHandle" ∧ (parseMethodDescriptor yX7_wallet.desc).map (fun d => d.parameters.length) = some 1 := by decide +kernel
theorem pd_X7_own : yX7_own.cls ≠ "java/lang/invoke/MethodHandle" ∧ yX7_own.cls ≠ "java/lang/invoke/VarHandle" ∧ (parseMethodDescriptor yX7_own.desc).map (fun d => d.parameters.length) = some 1 := by decide +kernel
theorem pd_X7_share : yX7_share.cls ≠ "java/lang/invoke/MethodHandle" ∧ yX7_share.cls ≠ "java/lang/invoke/VarHandle" ∧ (parseMethodDescriptor yX7_share.desc).map (fun d => d.parameters.length) = some 2 := by decide +kernel
theorem pd_L_gate : yL_gate.cls ≠ "java/lang/invoke/MethodHandle" ∧ yL_gate.cls ≠ "java/lang/invoke/VarHandle" ∧ (parseMethodDescriptor yL_gate.desc).map (fun d => d.parameters.length) = some 2 := by decide +kernel
theorem pd_L_road : yL_road.cls ≠ "java/lang/invoke/MethodHandle" ∧ yL_road.cls ≠ "java/lang/invoke/VarHandle" ∧ (parseMethodDescriptor yL_road.desc).map (fun d => d.parameters.length) = some 6 := by decide +kernel
theorem pd_L_rate : yL_rate.cls ≠ "java/lang/invoke/MethodHandle" ∧ yL_rate.cls ≠ "java/lang/invoke/VarHandle" ∧ (parseMethodDescriptor yL_rate.desc).map (fun d => d.parameters.length) = some 4 := by decide +kernel
theorem pd_L_most : yL_most.cls ≠ "java/lang/invoke/MethodHandle" ∧ yL_most.cls ≠ "java/lang/invoke/VarHandle" ∧ (parseMethodDescriptor yL_most.desc).map (fun d => d.parameters.length) = some 3 := by decide +kernel
theorem pd_L_plate : yL_plate.cls ≠ "java/lang/invoke/MethodHandle" ∧ yL_plate.cls ≠ "java/lang/invoke/VarHandle" ∧ (parseMethodDescriptor yL_plate.desc).map (fun d => d.parameters.length) = some 4 := by decide +kernel
theorem pd_L_top : yL_top.cls ≠ "java/lang/invoke/MethodHandle" ∧ yL_top.cls ≠ "java/lang/invoke/VarHandle" ∧ (parseMethodDescriptor yL_top.desc).map (fun d => d.parameters.length) = some 4 := by decide +kernel
theorem pd_L_exempt : yL_exempt.cls ≠ "java/lang/invoke/MethodHandle" ∧ yL_exempt.cls ≠ "java/lang/invoke/VarHandle" ∧ (parseMethodDescriptor yL_exempt.desc).map (fun d => d.parameters.length) = some 5 := by decide +kernel
theorem pd_L_read : yL_read.cls ≠ "java/lang/invoke/MethodHandle" ∧ yL_read.cls ≠ "java/lang/invoke/VarHandle" ∧ (parseMethodDescriptor yL_read.desc).map (fun d => d.parameters.length) = some 5 := by decide +kernel
theorem pd_L_strike : yL_strike.cls ≠ "java/lang/invoke/MethodHandle" ∧ yL_strike.cls ≠ "java/lang/invoke/VarHandle" ∧ (parseMethodDescriptor yL_strike.desc).map (fun d => d.parameters.length) = some 2 := by decide +kernel
theorem pd_L_pass : yL_pass.cls ≠ "java/lang/invoke/MethodHandle" ∧ yL_pass.cls ≠ "java/lang/invoke/VarHandle" ∧ (parseMethodDescriptor yL_pass.desc).map (fun d => d.parameters.length) = some 3 := by decide +kernel
theorem pd_L_distance : yL_distance.cls ≠ "java/lang/invoke/MethodHandle" ∧ yL_distance.cls ≠ "java/lang/invoke/VarHandle" ∧ (parseMethodDescriptor yL_distance.desc).map (fun d => d.parameters.length) = some 4 := by decide +kernel
theorem pd_L_way : yL_way.cls ≠ "java/lang/invoke/MethodHandle" ∧ yL_way.cls ≠ "java/lang/invoke/VarHandle" ∧ (parseMethodDescriptor yL_way.desc).map (fun d => d.parameters.length) = some 5 := by decide +kernel
theorem pd_L_journeys : yL_journeys.cls ≠ "java/lang/invoke/MethodHandle" ∧ yL_journeys.cls ≠ "java/lang/invoke/VarHandle" ∧ (parseMethodDescriptor yL_journeys.desc).map (fun d => d.parameters.length) = some 3 := by decide +kernel
theorem pd_L_journey : yL_journey.cls ≠ "java/lang/invoke/MethodHandle" ∧ yL_journey.cls ≠ "java/lang/invoke/VarHandle" ∧ (parseMethodDescriptor yL_journey.desc).map (fun d => d.parameters.length) = some 5 := by decide +kernel
theorem pd_L_ofReading : yL_ofReading.cls ≠ "java/lang/invoke/MethodHandle" ∧ yL_ofReading.cls ≠ "java/lang/invoke/VarHandle" ∧ (parseMethodDescriptor yL_ofReading.desc).map (fun d => d.parameters.length) = some 4 := by decide +kernel
theorem pd_L_due : yL_due.cls ≠ "java/lang/invoke/MethodHandle" ∧ yL_due.cls ≠ "java/lang/invoke/VarHandle" ∧ (parseMethodDescriptor yL_due.desc).map (fun d => d.parameters.length) = some 3 := by decide +kernel
theorem pd_L_billed : yL_billed.cls ≠ "java/lang/invoke/MethodHandle" ∧ yL_billed.cls ≠ "java/lang/invoke/VarHandle" ∧ (parseMethodDescriptor yL_billed.desc).map (fun d => d.parameters.length) = some 3 := by decide +kernel
theorem pd_L_wallet : yL_wallet.cls ≠ "java/lang/invoke/MethodHandle" ∧ yL_wallet.cls ≠ "java/lang/invoke/VarHandle" ∧ (parseMethodDescriptor yL_wallet.desc).map (fun d => d.parameters.length) = some 3 := by decide +kernel
theorem pd_L_own : yL_own.cls ≠ "java/lang/invoke/MethodHandle" ∧ yL_own.cls ≠ "java/lang/invoke/VarHandle" ∧ (parseMethodDescriptor yL_own.desc).map (fun d => d.parameters.length) = some 3 := by decide +kernel
theorem pd_L_share : yL_share.cls ≠ "java/lang/invoke/MethodHandle" ∧ yL_share.cls ≠ "java/lang/invoke/VarHandle" ∧ (parseMethodDescriptor yL_share.desc).map (fun d => d.parameters.length) = some 4 := by decide +kernel
theorem pd_L_law : yL_law.cls ≠ "java/lang/invoke/MethodHandle" ∧ yL_law.cls ≠ "java/lang/invoke/VarHandle" ∧ (parseMethodDescriptor yL_law.desc).map (fun d => d.parameters.length) = some 1 := by decide +kernel
set_option maxRecDepth 20000 in
theorem tw_min_s : Cond.static Lib.Math.min.name ∈ TT := tt_of 344 rfl rfl
set_option maxRecDepth 20000 in
theorem tw_min_i : Cond.initialized "java/lang/Math" ∈ TT := tt_of 45 rfl rfl
set_option maxRecDepth 20000 in
theorem tw_min_c : Cond.code Lib.Math.min.name Lib.Math.min.code 2 (some .int) ∈ TT := tt_of 345 rfl rfl
theorem vin_lt {i : Int32} {n : Nat} (h : vp_in i n) : i.toNatClampNeg < n := Nat.not_le.mp fun q => h (Or.inr q)
/-- a sure end: this answer, this state -/
def pU (r : Option Value) (V : wV) (I : wI) (J : wJ) : wPo := fun r' V' I' J' => r' = r ∧ V' = V ∧ I' = I ∧ J' = J
section GD
variable {K : wK} {G : wG} {cells slots : Nat} {Q : State → Prop} {V V1 : wV} {I I1 : wI} {J J1 : wJ} {pc : Nat} {lv : List (Nat × Value)} {st st2 stk : List Value} {own : String} {cc : ByteArray} {nL : Nat}
variable {y : MethodName} {bytes : ByteArray} {maxL index : Nat} {ret : Option FieldType} {rm : Room} {As : List Value} {ci N o : Nat} {Cn : String} {T : u_T} {fs : List Value} {r : Option Value} {post : wPo}
theorem g_eqI {x x' : Int32} (h : x = x') (k : WW K G cells slots Q V I J pc lv (.int x' :: st)) : WW K G cells slots Q V I J pc lv (.int x :: st) := by rw [h]; exact k
theorem g_eqL {x x' : Int64} (h : x = x') (k : WW K G cells slots Q V I J pc lv (.long x' :: st)) : WW K G cells slots Q V I J pc lv (.long x :: st) := by rw [h]; exact k
theorem g_st (h1 : V = V1) (h2 : I = I1) (h3 : J = J1) (k : WW K G cells slots Q V1 I1 J1 pc lv st) : WW K G cells slots Q V I J pc lv st := by rw [h1, h2, h3]; exact k
theorem g_cV (C : Cx K G own cc nL) (As : List Value) (o : Nat) (hM : Ctr (kl K) y bytes maxL ret rm G (.ref (G.2.1 o) :: As) V I J (pU r V1 I1 J1) noX) (hstk : stk = As.reverse ++ .ref (G.2.1 o) :: st) (hst2 : r.toList ++ st = st2) (ho : o < 81) (he : wEnt G V I J o = .inr (ci, fs)) (hc : vwCl[ci]? = some (Cn, T, N)) (hC : y.cls = Cn)
    (w1 : Cond.methodLink own index y ∈ TT) (w2 : Cond.instanceMethod y ∈ TT) (w3 : Cond.selects y.cls y y ∈ TT) (w4 : Cond.initialized y.cls ∈ TT) (w5 : Cond.code y bytes maxL ret ∈ TT) (hdd : y.cls ≠ "java/lang/invoke/MethodHandle" ∧ y.cls ≠ "java/lang/invoke/VarHandle" ∧ (parseMethodDescriptor y.desc).map (fun d => d.parameters.length) = some As.length)
    (hz : rm.cells = 0 ∧ rm.slots = 0) (hR : rm.frames + 1 ≤ (kR K).frames ∧ 8 + (maxL + 11) + rm.locals ≤ (kR K).locals ∧ cells ≤ (kR K).cells ∧ slots ≤ (kR K).slots) (hcat : (st.map fun v => v.category).sum ≤ 8) (hd : decode cc pc = .ok (.invokevirtual index, 3))
    (kk : WW K G cells slots Q V1 I1 J1 (pc + 3) lv st2) : WW K G cells slots Q V I J pc lv stk := by
  refine g_callV C As o hM hstk ho he hc hC w1 w2 w3 w4 w5 hdd ⟨hR.1, hR.2.1⟩ hcat (by rw [hz.1, hz.2]; exact hR.2.2) hd (fun _ _ _ _ h => h.elim) (fun r' V' I' J' hp => ?_)
  obtain ⟨rfl, rfl, rfl, rfl⟩ := hp
  rw [hz.1, hz.2, hst2]
  exact kk
theorem g_cS (C : Cx K G own cc nL) (As : List Value) (hM : Ctr (kl K) y bytes maxL ret rm G As V I J (pU r V1 I1 J1) noX) (hstk : stk = As.reverse ++ st) (hst2 : r.toList ++ st = st2) (hC : y.cls = own)
    (w1 : Cond.methodLink own index y ∈ TT) (w2 : Cond.static y ∈ TT) (w4 : Cond.initialized own ∈ TT) (w5 : Cond.code y bytes maxL ret ∈ TT) (hdd : y.cls ≠ "java/lang/invoke/MethodHandle" ∧ y.cls ≠ "java/lang/invoke/VarHandle" ∧ (parseMethodDescriptor y.desc).map (fun d => d.parameters.length) = some As.length)
    (hz : rm.cells = 0 ∧ rm.slots = 0) (hR : rm.frames + 1 ≤ (kR K).frames ∧ 8 + (maxL + 11) + rm.locals ≤ (kR K).locals ∧ cells ≤ (kR K).cells ∧ slots ≤ (kR K).slots) (hcat : (st.map fun v => v.category).sum ≤ 8) (hd : decode cc pc = .ok (.invokestatic index, 3))
    (kk : WW K G cells slots Q V1 I1 J1 (pc + 3) lv st2) : WW K G cells slots Q V I J pc lv stk := by
  refine g_callS C As hM hstk hC w1 w2 w4 w5 hdd ⟨hR.1, hR.2.1⟩ hcat (by rw [hz.1, hz.2]; exact hR.2.2) hd (fun _ _ _ _ h => h.elim) (fun r' V' I' J' hp => ?_)
  obtain ⟨rfl, rfl, rfl, rfl⟩ := hp
  rw [hz.1, hz.2, hst2]
  exact kk
/-- .. a callee that says more loosely what it leaves -/
theorem g_cVr (C : Cx K G own cc nL) (As : List Value) (o : Nat) (hM : Ctr (kl K) y bytes maxL ret rm G (.ref (G.2.1 o) :: As) V I J post noX) (hstk : stk = As.reverse ++ .ref (G.2.1 o) :: st) (ho : o < 81) (he : wEnt G V I J o = .inr (ci, fs)) (hc : vwCl[ci]? = some (Cn, T, N)) (hC : y.cls = Cn)
    (w1 : Cond.methodLink own index y ∈ TT) (w2 : Cond.instanceMethod y ∈ TT) (w3 : Cond.selects y.cls y y ∈ TT) (w4 : Cond.initialized y.cls ∈ TT) (w5 : Cond.code y bytes maxL ret ∈ TT) (hdd : y.cls ≠ "java/lang/invoke/MethodHandle" ∧ y.cls ≠ "java/lang/invoke/VarHandle" ∧ (parseMethodDescriptor y.desc).map (fun d => d.parameters.length) = some As.length)
    (hz : rm.cells = 0 ∧ rm.slots = 0) (hR : rm.frames + 1 ≤ (kR K).frames ∧ 8 + (maxL + 11) + rm.locals ≤ (kR K).locals ∧ cells ≤ (kR K).cells ∧ slots ≤ (kR K).slots) (hcat : (st.map fun v => v.category).sum ≤ 8) (hd : decode cc pc = .ok (.invokevirtual index, 3))
    (kk : ∀ r V' I' J', post r V' I' J' → WW K G cells slots Q V' I' J' (pc + 3) lv (r.toList ++ st)) : WW K G cells slots Q V I J pc lv stk := by
  refine g_callV C As o hM hstk ho he hc hC w1 w2 w3 w4 w5 hdd ⟨hR.1, hR.2.1⟩ hcat (by rw [hz.1, hz.2]; exact hR.2.2) hd (fun _ _ _ _ h => h.elim) (fun r' V' I' J' hp => ?_)
  rw [hz.1, hz.2]
  exact kk r' V' I' J' hp
end GD
end
section
/-! what the methods compute, over the one world -/
/-- the other end of road r, from at -/
def oE (I : wI) (r : Nat) (at9 : Int32) : Int32 := if I 8 r = at9 then I 9 r else if I 9 r = at9 then I 8 r else -1
/-- the least place with c, of k places from i on; -1 without -/
def fi (c : Nat → Bool) : Nat → Nat → Int32
  | 0, _ => -1
  | k + 1, i => if c i then nI i else fi c k (i + 1)
/-- road r leads on from at, to the goal -/
def rc (I : wI) (at9 goal r : Nat) : Bool := decide (oE I r (nI at9) ≠ -1) && decide (I (35 + (oE I r (nI at9)).toNatClampNeg) goal + I 10 r = I (35 + at9) goal)
def rT (I : wI) (n at9 goal : Nat) : Int32 := fi (rc I at9 goal) n 0
/-- the roads' ends are gates -/
def wfR (I : wI) (n : Nat) : Prop := n ≤ 24 ∧ ∀ r, r < n → vp_in (I 8 r) 12 ∧ vp_in (I 9 r) 12
theorem oE_in {I : wI} {n r : Nat} {x : Int32} (h : wfR I n) (hr : r < n) (hx : ¬ oE I r x = -1) : vp_in (oE I r x) 12 := by
  unfold oE at hx ⊢
  by_cases h1 : I 8 r = x
  · rw [if_pos h1]; exact (h.2 r hr).2
  · rw [if_neg h1] at hx ⊢
    by_cases h2 : I 9 r = x
    · rw [if_pos h2]; exact (h.2 r hr).1
    · rw [if_neg h2] at hx; exact absurd rfl hx
theorem oE_nI {I : wI} {n r : Nat} {x : Int32} (h : wfR I n) (hr : r < n) (hx : ¬ oE I r x = -1) : (oE I r x).toNatClampNeg < 12 ∧ oE I r x = nI (oE I r x).toNatClampNeg := by
  obtain ⟨j, hj, e⟩ := vin_nI (oE_in h hr hx) (by decide)
  rw [e, nI_clamp (by omega)]
  exact ⟨hj, rfl⟩
theorem rc_t {I : wI} {at9 goal r : Nat} (h1 : ¬ oE I r (nI at9) = -1) (h2 : I (35 + (oE I r (nI at9)).toNatClampNeg) goal + I 10 r = I (35 + at9) goal) : rc I at9 goal r = true := by
  unfold rc
  rw [decide_eq_true h1, decide_eq_true h2]; rfl
theorem rc_f1 {I : wI} {at9 goal r : Nat} (h1 : oE I r (nI at9) = -1) : rc I at9 goal r = false := by
  unfold rc
  rw [decide_eq_false (fun q => q h1)]; rfl
theorem rc_f2 {I : wI} {at9 goal r : Nat} (h2 : ¬ I (35 + (oE I r (nI at9)).toNatClampNeg) goal + I 10 r = I (35 + at9) goal) : rc I at9 goal r = false := by
  unfold rc
  rw [decide_eq_false h2, Bool.and_false]
theorem fi_s {c : Nat → Bool} {k i : Nat} (h : c i = true) : fi c (k + 1) i = nI i := by
  show (if c i then nI i else fi c k (i + 1)) = _
  rw [h]; rfl
theorem fi_n {c : Nat → Bool} {k i : Nat} (h : c i = false) : fi c (k + 1) i = fi c k (i + 1) := by
  show (if c i then nI i else fi c k (i + 1)) = _
  rw [h]; rfl
/-- the road of a way, k steps at most, from the step-th on -/
def rW (I : wI) (n goal : Nat) (place : Int32) : Nat → Nat → Int32 → Int32
  | 0, _, _ => -1
  | k + 1, step, at9 => if rT I n at9.toNatClampNeg goal = -1 ∨ nI step = place then rT I n at9.toNatClampNeg goal else rW I n goal place k (step + 1) (oE I (rT I n at9.toNatClampNeg goal).toNatClampNeg at9)
/-- busy or not -/
def bz (m : Int32) : Bool := decide (m / nI 60 - m / nI 60 / nI 24 * nI 24 = nI 7) || decide (m / nI 60 - m / nI 60 / nI 24 * nI 24 = nI 8) || decide (m / nI 60 - m / nI 60 / nI 24 * nI 24 = nI 16) || decide (m / nI 60 - m / nI 60 / nI 24 * nI 24 = nI 17)
/-- what a road costs -/
def cf (I : wI) (len : Int32) (kind : Nat) (m : Int32) : Int32 := len * I 12 kind * (if bz m = true then I 13 kind else nI 100) / nI 100
/-- a new road's round over all distances, as the class goes it -/
def sdV (I : wI) (a b : Nat) (l : Int32) (f t : Nat) : Int32 :=
  (fun sh => if sh < I (35 + f) t then sh else I (35 + f) t) (if I (35 + f) b + l + I (35 + a) t < I (35 + f) a + l + I (35 + b) t then I (35 + f) b + l + I (35 + a) t else I (35 + f) a + l + I (35 + b) t)
def sdT (I : wI) (a b : Nat) (l : Int32) (f : Nat) : Nat → wI
  | 0 => I
  | t + 1 => uI (sdT I a b l f t) (35 + f) (upd (sdT I a b l f t (35 + f)) t (sdV (sdT I a b l f t) a b l f t))
def sdF (I : wI) (a b : Nat) (l : Int32) (g : Nat) : Nat → wI
  | 0 => I
  | f + 1 => sdT (sdF I a b l g f) a b l f g
/-- some place below n has c -/
def an (c : Nat → Bool) : Nat → Bool
  | 0 => false
  | n + 1 => an c n || c n
theorem an_t {c : Nat → Bool} {i : Nat} (h : c i = true) : ∀ n, i < n → an c n = true
  | 0, q => absurd q (Nat.not_lt_zero _)
  | n + 1, q => by
    show (an c n || c n) = true
    rcases Nat.lt_or_ge i n with z | z
    · rw [an_t h n z]; rfl
    · have e : i = n := by omega
      subst e
      rw [h, Bool.or_true]
theorem an_s {c : Nat → Bool} {n : Nat} (h1 : an c n = false) (h2 : c n = false) : an c (n + 1) = false := by
  show (an c n || c n) = false
  rw [h1, h2]; rfl
/-- span k exempts plate p at minute m -/
def ec (I : wI) (p m : Int32) (k : Nat) : Bool := decide (I 16 k = p) && (decide (I 17 k ≤ m) && decide (m ≤ I 18 k))
theorem ec_t {I : wI} {p m : Int32} {k : Nat} (h1 : I 16 k = p) (h2 : I 17 k ≤ m) (h3 : m ≤ I 18 k) : ec I p m k = true := by unfold ec; rw [decide_eq_true h1, decide_eq_true h2, decide_eq_true h3]; rfl
theorem ec_f1 {I : wI} {p m : Int32} {k : Nat} (h : ¬ I 16 k = p) : ec I p m k = false := by unfold ec; rw [decide_eq_false h]; rfl
theorem ec_f2 {I : wI} {p m : Int32} {k : Nat} (h : ¬ I 17 k ≤ m) : ec I p m k = false := by unfold ec; rw [decide_eq_false h, Bool.false_and, Bool.and_false]
theorem ec_f3 {I : wI} {p m : Int32} {k : Nat} (h : ¬ m ≤ I 18 k) : ec I p m k = false := by unfold ec; rw [decide_eq_false h, Bool.and_false, Bool.and_false]
theorem fi_in {c : Nat → Bool} : ∀ (k i : Nat), ¬ fi c k i = -1 → ∃ j, i ≤ j ∧ j < i + k ∧ c j = true ∧ (∀ q, i ≤ q → q < j → c q = false) ∧ fi c k i = nI j
  | 0, i, h => absurd rfl h
  | k + 1, i, h => by
    by_cases e : c i = true
    · exact ⟨i, Nat.le_refl _, by omega, e, fun q h1 h2 => by omega, fi_s e⟩
    · have e2 : c i = false := by cases hc : c i <;> simp_all
      rw [fi_n e2] at h ⊢
      obtain ⟨j, h1, h2, h3, h4, h5⟩ := fi_in k (i + 1) h
      refine ⟨j, by omega, by omega, h3, fun q q1 q2 => ?_, h5⟩
      rcases Nat.lt_or_ge i q with z | z
      · exact h4 q z q2
      · rw [show q = i by omega]; exact e2
theorem fi_none {c : Nat → Bool} : ∀ (k i : Nat), (∀ q, i ≤ q → q < i + k → c q = false) → fi c k i = -1
  | 0, i, h => rfl
  | k + 1, i, h => by
    rw [fi_n (h i (Nat.le_refl _) (by omega))]
    exact fi_none k (i + 1) (fun q h1 h2 => h q (by omega) (by omega))
theorem rT_nI {I : wI} {n at9 goal : Nat} (hw : wfR I n) (h : ¬ rT I n at9 goal = -1) : (rT I n at9 goal).toNatClampNeg < n ∧ rT I n at9 goal = nI (rT I n at9 goal).toNatClampNeg ∧ rc I at9 goal (rT I n at9 goal).toNatClampNeg = true := by
  obtain ⟨j, h1, h2, h3, -, h5⟩ := fi_in n 0 h
  have e : rT I n at9 goal = nI j := h5
  have h24 := hw.1
  rw [e, nI_clamp (by omega)]
  exact ⟨by omega, rfl, h3⟩
theorem rT_oE {I : wI} {n at9 goal : Nat} (hw : wfR I n) (h : ¬ rT I n at9 goal = -1) : ¬ oE I (rT I n at9 goal).toNatClampNeg (nI at9) = -1 := by
  have h1 := (rT_nI hw h).2.2
  unfold rc at h1
  rw [Bool.and_eq_true, decide_eq_true_eq] at h1
  exact h1.1
theorem nle_of_lt {a b : Int32} (h : a < b) : ¬ b ≤ a := Int32.not_le.mpr h
theorem le_of_nlt {a b : Int32} (h : ¬ a < b) : b ≤ a := Int32.not_lt.mp h

/-- one place of array a; of a long array -/
abbrev sI (I : wI) (a j : Nat) (x : Int32) : wI := uI I a (upd (I a) j x)
abbrev sJ (J : wJ) (a j : Nat) (x : Int64) : wJ := uJ J a (vp_updL (J a) j x)
/-- journeys: begin, go on, a DOUBLE -/
def bgI (I : wI) (c r : Nat) (m : Int32) : wI := sI (sI (sI (sI (sI (sI (sI (sI (sI I 24 c m) 25 c m) 26 c (nI 1)) (47 + 0) c (nI 0)) (47 + 1) c (nI 0)) (47 + 2) c (nI 0)) (47 + 3) c (nI 0)) 27 r (nI c)) 28 r (nI 0)
def goI (I : wI) (r j : Nat) (m : Int32) : wI := sI (sI (sI (sI I 25 j m) 26 j (I 26 j + nI 1)) 27 r (nI j)) 28 r (nI 0)
def pdI (I : wI) (r j : Nat) : wI := sI (sI I 27 r (nI j)) 28 r (nI 1)
/-- what is to be paid, all together; the fare -/
def wh (I : wI) (j : Nat) : Int32 := nI 0 + I (47 + 0) j + I (47 + 1) j + I (47 + 2) j + I (47 + 3) j
def fr (I : wI) (j : Nat) (m : Int32) : Int32 := if m < wh I j then m else wh I j
def cs (I : wI) (j o : Nat) (m w : Int32) : Int32 := if 0 < w then ((I (47 + o) j).toInt64 * m.toInt64 / w.toInt64).toInt32 else nI 0
def bO (I : wI) (j : Nat) : Nat → Nat
  | 0 => 0
  | k + 1 => if I (47 + (k + 1)) j ≤ I (47 + bO I j k) j then bO I j k else k + 1
theorem bO_le (I : wI) (j : Nat) : ∀ k, bO I j k ≤ k
  | 0 => Nat.le_refl _
  | k + 1 => by
    have h := bO_le I j k
    unfold bO
    by_cases q : I (47 + (k + 1)) j ≤ I (47 + bO I j k) j
    · rw [if_pos q]; omega
    · rw [if_neg q]; exact Nat.le_refl _
def lf (I : wI) (j o : Nat) (m w : Int32) : Nat → Int32
  | 0 => m
  | a + 1 => if a = o then lf I j o m w a else lf I j o m w a - cs I j a m w
def shr (I : wI) (j o : Nat) (m : Int32) : Int32 := if m < wh I j then (if o = bO I j 3 then lf I j o m (wh I j) 4 else cs I j o m (wh I j)) else I (47 + o) j
def sF (I : wI) (now m : Int32) : Nat → Int64
  | 0 => 0
  | j + 1 => if now - I 25 j < nI 60 then sF I now m j else sF I now m j + (fr I j m).toInt64
def sS (I : wI) (o : Nat) (now m : Int32) : Nat → Int64
  | 0 => 0
  | j + 1 => if now - I 25 j < nI 60 then sS I o now m j else sS I o now m j + (shr I j o m).toInt64
theorem ite01_f {c : Prop} [Decidable c] (h : (if c then nI 0 else nI 1) = 0) : c := by
  by_cases q : c
  · exact q
  · rw [if_neg q] at h; exact absurd h (by decide)
theorem ite01_t {c : Prop} [Decidable c] (h : ¬ (if c then nI 0 else nI 1) = 0) : ¬ c := fun q => h (by rw [if_pos q]; rfl)
theorem ite10_f {c : Prop} [Decidable c] (h : (if c then nI 1 else nI 0) = 0) : ¬ c := fun q => by rw [if_pos q] at h; exact absurd h (by decide)
theorem ite10_t {c : Prop} [Decidable c] (h : ¬ (if c then nI 1 else nI 0) = 0) : c := by
  by_cases q : c
  · exact q
  · exact absurd (by rw [if_neg q]; rfl) h
theorem nI_m1 {h : Nat} (hh : h < 2 ^ 31) : ¬ nI h = -1 := fun q => by
  have h1 := nI_toInt hh
  rw [q] at h1
  have h2 : (-1 : Int32).toInt = -1 := by decide
  omega
theorem w64_ne {w : Int32} (h : 0 < w) : ¬ w.toInt64 = 0 := fun q => by
  have h1 : w.toInt64.toInt = (0 : Int64).toInt := by rw [q]
  rw [Int32.toInt_toInt64] at h1
  have h2 := Int32.lt_iff_toInt_lt.mp h
  have h3 : (0 : Int32).toInt = 0 := by decide
  have h4 : (0 : Int64).toInt = 0 := by decide
  omega
/-- readings: the order, with place q free -/
def shf (f : Nat → Int32) (n q : Nat) : Nat → Int32 := fun p => if q < p ∧ p ≤ n then f (p - 1) else f p
theorem shf_n (f : Nat → Int32) (n : Nat) : shf f n n = f := funext fun p => if_neg (by omega)
theorem shf_s {f : Nat → Int32} {n q : Nat} (h : 0 < q) (hq : q ≤ n) : upd (shf f n q) q (f (q - 1)) = shf f n (q - 1) := funext fun p => by
  unfold upd shf
  by_cases h1 : p = q
  · subst h1
    rw [if_pos rfl, if_pos (by omega)]
  · rw [if_neg h1]
    by_cases h2 : q < p ∧ p ≤ n
    · rw [if_pos h2, if_pos (by omega)]
    · rw [if_neg h2, if_neg (by omega)]
theorem uI_self (I : wI) (a : Nat) : uI I a (I a) = I := funext fun b => by
  unfold uI
  by_cases h : b = a
  · rw [if_pos h, h]
  · rw [if_neg h]
theorem uI_uI (I : wI) (a : Nat) (f g : Nat → Int32) : uI (uI I a f) a g = uI I a g := funext fun b => by
  unfold uI
  by_cases h : b = a
  · rw [if_pos h, if_pos h]
  · rw [if_neg h, if_neg h, if_neg h]
/-- the three columns of a new reading -/
def rdI (I : wI) (n : Nat) (g p m : Int32) : wI := sI (sI (sI I 19 n g) 20 n p) 21 n m
/-- the order holds readings -/
def wfO (I : wI) (n : Nat) : Prop := ∀ p, p < n → ∃ r, r < n ∧ I 23 p = nI r
end
section
set_option maxRecDepth 100000 in
theorem m_X1_isOver {l : Launch} {G : wG} (hl : l.stackTraces = false) (hG : wD G) (V : wV) (I : wI) (J : wJ) (j : Nat) (p2 : Int32) (h1 : j < 100) : Ctr l yX1_isOver cX1_isOver 3 (some .boolean) { frames := 0, cells := 0, slots := 0, locals := 0 } G [.ref (G.2.1 5), .int (nI j), .int p2] V I J (pU (some (.int (if p2 - I 25 j < nI 60 then nI 0 else nI 1))) V I J) (noX) := by
  refine ctr_of hl hG (by decide) (Nat.le_of_ble_eq_true rfl) [(0, .ref (G.2.1 5)), (1, .int (nI j)), (2, .int p2)] rfl ?_
  intro K hC hKl hRm hr hT
  subst hKl
  have hC : Cx K G RX1 cX1_isOver 3 := hC
  refine g_iload_n hC dX1_isOver_0 rfl 2 rfl ?_
  refine g_aload_n hC dX1_isOver_1 rfl 0 rfl ?_
  refine gf_X1_15 hC dX1_isOver_2 ?_
  refine g_iload_n hC dX1_isOver_5 rfl 1 rfl ?_
  refine n_iald hC 25 aa_25 j (show j < 100 by omega) dX1_isOver_6 ?_
  refine g_isub hC dX1_isOver_7 ?_
  refine g_bipush (v := nI 60) hC dX1_isOver_8 (by decide) ?_
  refine g_icmp_lt hC 17 dX1_isOver_10 (by decide) (fun c_10 => ?_) (fun c_10 => ?_)
  · refine g_iconst (v := nI 0) hC dX1_isOver_17 (by decide) ?_
    exact g_zret hC (by first | exact Or.inl rfl | exact Or.inr rfl) hr dX1_isOver_18 (Nat.le_of_ble_eq_true rfl) (Nat.le_of_ble_eq_true rfl) ⟨by first | (rw [if_pos c_10] <;> rfl) | (rw [if_neg c_10] <;> rfl), rfl, rfl, rfl⟩
  · refine g_iconst (v := nI 1) hC dX1_isOver_13 (by decide) ?_
    refine g_goto hC 18 dX1_isOver_14 (by decide) ?_
    exact g_zret hC (by first | exact Or.inl rfl | exact Or.inr rfl) hr dX1_isOver_18 (Nat.le_of_ble_eq_true rfl) (Nat.le_of_ble_eq_true rfl) ⟨by first | (rw [if_pos c_10] <;> rfl) | (rw [if_neg c_10] <;> rfl), rfl, rfl, rfl⟩

set_option maxRecDepth 100000 in
theorem m_X3_minutesBetween {l : Launch} {G : wG} (hl : l.stackTraces = false) (hG : wD G) (V : wV) (I : wI) (J : wJ) (a b : Nat) (h1 : a < 100) (h2 : b < 100) : Ctr l yX3_minutesBetween cX3_minutesBetween 3 (some .int) { frames := 0, cells := 0, slots := 0, locals := 0 } G [.ref (G.2.1 4), .int (nI a), .int (nI b)] V I J (pU (some (.int (I 21 b - I 21 a))) V I J) (noX) := by
  refine ctr_of hl hG (by decide) (Nat.le_of_ble_eq_true rfl) [(0, .ref (G.2.1 4)), (1, .int (nI a)), (2, .int (nI b))] rfl ?_
  intro K hC hKl hRm hr hT
  subst hKl
  have hC : Cx K G RX3 cX3_minutesBetween 3 := hC
  refine g_aload_n hC dX3_minutesBetween_0 rfl 0 rfl ?_
  refine gf_X3_18 hC dX3_minutesBetween_1 ?_
  refine g_iload_n hC dX3_minutesBetween_4 rfl 2 rfl ?_
  refine n_iald hC 21 aa_21 b (show b < 100 by omega) dX3_minutesBetween_5 ?_
  refine g_aload_n hC dX3_minutesBetween_6 rfl 0 rfl ?_
  refine gf_X3_18 hC dX3_minutesBetween_7 ?_
  refine g_iload_n hC dX3_minutesBetween_10 rfl 1 rfl ?_
  refine n_iald hC 21 aa_21 a (show a < 100 by omega) dX3_minutesBetween_11 ?_
  refine g_isub hC dX3_minutesBetween_12 ?_
  exact g_iret hC hr dX3_minutesBetween_13 (Nat.le_of_ble_eq_true rfl) (Nat.le_of_ble_eq_true rfl) ⟨rfl, rfl, rfl, rfl⟩

set_option maxRecDepth 100000 in
theorem m_X4_otherEnd {l : Launch} {G : wG} (hl : l.stackTraces = false) (hG : wD G) (V : wV) (I : wI) (J : wJ) (r : Nat) (p2 : Int32) (h1 : r < 24) : Ctr l yX4_otherEnd cX4_otherEnd 3 (some .int) { frames := 0, cells := 0, slots := 0, locals := 0 } G [.ref (G.2.1 1), .int (nI r), .int p2] V I J (pU (some (.int (oE I r p2))) V I J) (noX) := by
  refine ctr_of hl hG (by decide) (Nat.le_of_ble_eq_true rfl) [(0, .ref (G.2.1 1)), (1, .int (nI r)), (2, .int p2)] rfl ?_
  intro K hC hKl hRm hr hT
  subst hKl
  have hC : Cx K G RX4 cX4_otherEnd 3 := hC
  refine g_aload_n hC dX4_otherEnd_0 rfl 0 rfl ?_
  refine gf_X4_9 hC dX4_otherEnd_1 ?_
  refine g_iload_n hC dX4_otherEnd_4 rfl 1 rfl ?_
  refine n_iald hC 8 aa_8 r (show r < 24 by omega) dX4_otherEnd_5 ?_
  refine g_iload_n hC dX4_otherEnd_6 rfl 2 rfl ?_
  refine g_icmp_ne hC 17 dX4_otherEnd_7 (by decide) (fun c_7 => ?_) (fun c_7 => ?_)
  · refine g_aload_n hC dX4_otherEnd_17 rfl 0 rfl ?_
    refine gf_X4_15 hC dX4_otherEnd_18 ?_
    refine g_iload_n hC dX4_otherEnd_21 rfl 1 rfl ?_
    refine n_iald hC 9 aa_9 r (show r < 24 by omega) dX4_otherEnd_22 ?_
    refine g_iload_n hC dX4_otherEnd_23 rfl 2 rfl ?_
    refine g_icmp_ne hC 36 dX4_otherEnd_24 (by decide) (fun c_24 => ?_) (fun c_24 => ?_)
    · refine g_iconst (v := (-1)) hC dX4_otherEnd_36 (by decide) ?_
      exact g_iret hC hr dX4_otherEnd_37 (Nat.le_of_ble_eq_true rfl) (Nat.le_of_ble_eq_true rfl) ⟨by simp [oE, c_7, c_24], rfl, rfl, rfl⟩
    · refine g_aload_n hC dX4_otherEnd_27 rfl 0 rfl ?_
      refine gf_X4_9 hC dX4_otherEnd_28 ?_
      refine g_iload_n hC dX4_otherEnd_31 rfl 1 rfl ?_
      refine n_iald hC 8 aa_8 r (show r < 24 by omega) dX4_otherEnd_32 ?_
      refine g_goto hC 37 dX4_otherEnd_33 (by decide) ?_
      exact g_iret hC hr dX4_otherEnd_37 (Nat.le_of_ble_eq_true rfl) (Nat.le_of_ble_eq_true rfl) ⟨by simp [oE, c_7, c_24], rfl, rfl, rfl⟩
  · refine g_aload_n hC dX4_otherEnd_10 rfl 0 rfl ?_
    refine gf_X4_15 hC dX4_otherEnd_11 ?_
    refine g_iload_n hC dX4_otherEnd_14 rfl 1 rfl ?_
    refine n_iald hC 9 aa_9 r (show r < 24 by omega) dX4_otherEnd_15 ?_
    exact g_iret hC hr dX4_otherEnd_16 (Nat.le_of_ble_eq_true rfl) (Nat.le_of_ble_eq_true rfl) ⟨by simp [oE, c_7], rfl, rfl, rfl⟩

set_option maxRecDepth 100000 in
theorem m_X4_hasWay {l : Launch} {G : wG} (hl : l.stackTraces = false) (hG : wD G) (V : wV) (I : wI) (J : wJ) (g h : Nat) (h1 : g < 12) (h2 : h < 12) : Ctr l yX4_hasWay cX4_hasWay 3 (some .boolean) { frames := 0, cells := 0, slots := 0, locals := 0 } G [.ref (G.2.1 1), .int (nI g), .int (nI h)] V I J (pU (some (.int (if I (35 + g) h < nI 1000000 then nI 1 else nI 0))) V I J) (noX) := by
  refine ctr_of hl hG (by decide) (Nat.le_of_ble_eq_true rfl) [(0, .ref (G.2.1 1)), (1, .int (nI g)), (2, .int (nI h))] rfl ?_
  intro K hC hKl hRm hr hT
  subst hKl
  have hC : Cx K G RX4 cX4_hasWay 3 := hC
  refine g_aload_n hC dX4_hasWay_0 rfl 0 rfl ?_
  refine gf_X4_26 hC dX4_hasWay_1 ?_
  refine g_iload_n hC dX4_hasWay_4 rfl 1 rfl ?_
  refine n_aald33 hC g (show g < 12 by omega) dX4_hasWay_5 ?_
  refine g_iload_n hC dX4_hasWay_6 rfl 2 rfl ?_
  refine n_iald hC (35 + g) (ar_33 (show g < 12 by omega)) h (by rw [al_33 (show g < 12 by omega)]; omega) dX4_hasWay_7 ?_
  refine g_ldc (v := nI 1000000) hC tw_62 dX4_hasWay_8 ?_
  refine g_icmp_ge hC 17 dX4_hasWay_10 (by decide) (fun c_10 => ?_) (fun c_10 => ?_)
  · refine g_iconst (v := nI 0) hC dX4_hasWay_17 (by decide) ?_
    exact g_zret hC (by first | exact Or.inl rfl | exact Or.inr rfl) hr dX4_hasWay_18 (Nat.le_of_ble_eq_true rfl) (Nat.le_of_ble_eq_true rfl) ⟨by first | (rw [if_pos (Int32.not_le.mp c_10)] <;> rfl) | (rw [if_neg (Int32.not_lt.mpr c_10)] <;> rfl), rfl, rfl, rfl⟩
  · refine g_iconst (v := nI 1) hC dX4_hasWay_13 (by decide) ?_
    refine g_goto hC 18 dX4_hasWay_14 (by decide) ?_
    exact g_zret hC (by first | exact Or.inl rfl | exact Or.inr rfl) hr dX4_hasWay_18 (Nat.le_of_ble_eq_true rfl) (Nat.le_of_ble_eq_true rfl) ⟨by first | (rw [if_pos (Int32.not_le.mp c_10)] <;> rfl) | (rw [if_neg (Int32.not_lt.mpr c_10)] <;> rfl), rfl, rfl, rfl⟩

set_option maxRecDepth 100000 in
theorem m_X4_roadTowards {l : Launch} {G : wG} (hl : l.stackTraces = false) (hG : wD G) (V : wV) (I : wI) (J : wJ) (n at9 goal : Nat) (hn : V 2 = nI n) (hw : wfR I n) (h2 : at9 < 12) (h3 : goal < 12) : Ctr l yX4_roadTowards cX4_roadTowards 5 (some .int) { frames := 1, cells := 0, slots := 0, locals := 22 } G [.ref (G.2.1 1), .int (nI at9), .int (nI goal)] V I J (pU (some (.int (rT I n at9 goal))) V I J) (noX) := by
  refine ctr_of hl hG (by decide) (Nat.le_of_ble_eq_true rfl) [(0, .ref (G.2.1 1)), (1, .int (nI at9)), (2, .int (nI goal))] rfl ?_
  intro K hC hKl hRm hr hT
  subst hKl
  have hC : Cx K G RX4 cX4_roadTowards 5 := hC
  have hn24 := hw.1
  have lp_2 : ∀ (k9 : Nat) (i : Nat) (hi : i ≤ n) (h1 : n < i + k9) (hf : rT I n at9 goal = fi (rc I at9 goal) (n - i) i), WW K G 0 0 (QM K G { frames := 1, cells := 0, slots := 0, locals := 22 } (pU (some (.int (rT I n at9 goal))) V I J) (noX)) V I J 2 [(3, .int (nI i)), (0, .ref (G.2.1 1)), (1, .int (nI at9)), (2, .int (nI goal))] [] := by
    intro k9
    induction k9 with
    | zero =>
      intro i hi h1 hf
      omega
    | succ k9 ih =>
      intro i hi h1 hf
      refine g_iload_n hC dX4_roadTowards_2 rfl 0 rfl ?_
      refine g_aload_n hC dX4_roadTowards_3 rfl 1 rfl ?_
      refine gf_X4_34 hC dX4_roadTowards_4 ?_
      refine g_eqI (x' := nI n) (by rw [hn]) ?_
      refine g_icmp_ge hC 59 dX4_roadTowards_7 (by decide) (fun c_7 => ?_) (fun c_7 => ?_)
      · have d_7 : n ≤ i := (nI_leI (by omega) (by omega)).mp c_7
        refine g_iconst (v := (-1)) hC dX4_roadTowards_59 (by decide) ?_
        exact g_iret hC hr dX4_roadTowards_60 (Nat.le_of_ble_eq_true rfl) (Nat.le_of_ble_eq_true rfl) ⟨by rw [hf, show n - i = 0 by omega]; rfl, rfl, rfl, rfl⟩
      · have d_7 : ¬ n ≤ i := fun q => c_7 ((nI_leI (by omega) (by omega)).mpr q)
        refine g_aload_n hC dX4_roadTowards_10 rfl 1 rfl ?_
        refine g_iload_n hC dX4_roadTowards_11 rfl 0 rfl ?_
        refine g_iload_n hC dX4_roadTowards_12 rfl 2 rfl ?_
        refine g_cV hC [.int (nI i), .int (nI at9)] 1 (m_X4_otherEnd hl hG V I J i (nI at9) (by omega)) rfl (st2 := [.int (oE I i (nI at9))]) rfl (by decide) rfl rfl rfl tw_311 tw_312 tw_313 tw_32 tw_314 pd_X4_otherEnd ⟨rfl, rfl⟩ (by rw [hRm]; exact ⟨Nat.le_of_ble_eq_true rfl, Nat.le_of_ble_eq_true rfl, Nat.le_of_ble_eq_true rfl, Nat.le_of_ble_eq_true rfl⟩) (Nat.le_of_ble_eq_true rfl) dX4_roadTowards_13 ?_
        refine g_istore hC [(4, .int (oE I i (nI at9))), (3, .int (nI i)), (0, .ref (G.2.1 1)), (1, .int (nI at9)), (2, .int (nI goal))] dX4_roadTowards_16 (by decide) rfl ?_
        refine g_iload hC dX4_roadTowards_18 0 rfl ?_
        refine g_iconst (v := (-1)) hC dX4_roadTowards_20 (by decide) ?_
        refine g_icmp_eq hC 53 dX4_roadTowards_21 (by decide) (fun c_21 => ?_) (fun c_21 => ?_)
        · refine g_iinc (v := nI (i + 1)) hC [(3, .int (nI (i + 1))), (4, .int (oE I i (nI at9))), (0, .ref (G.2.1 1)), (1, .int (nI at9)), (2, .int (nI goal))] dX4_roadTowards_53 1 rfl (nI_i1 _) (by decide) rfl ?_
          refine g_goto hC 2 dX4_roadTowards_56 (by decide) ?_
          refine g_lv [0, 2, 3, 4] (lv2 := [(3, .int (nI (i + 1))), (0, .ref (G.2.1 1)), (1, .int (nI at9)), (2, .int (nI goal))]) rfl ?_
          exact ih (i + 1) (by omega) (by omega) (by rw [hf, show n - i = (n - (i + 1)) + 1 by omega]; exact fi_n (by first | exact rc_f1 c_21 | exact rc_f2 c_48))
        · have hq := oE_nI hw (show i < n by omega) c_21
          refine g_aload_n hC dX4_roadTowards_24 rfl 2 rfl ?_
          refine gf_X4_26 hC dX4_roadTowards_25 ?_
          refine g_iload hC dX4_roadTowards_28 0 rfl ?_
          refine g_eqI (x' := nI (oE I i (nI at9)).toNatClampNeg) hq.2 ?_
          refine n_aald33 hC ((oE I i (nI at9)).toNatClampNeg) (show (oE I i (nI at9)).toNatClampNeg < 12 by exact hq.1) dX4_roadTowards_30 ?_
          refine g_iload_n hC dX4_roadTowards_31 rfl 4 rfl ?_
          refine n_iald hC (35 + ((oE I i (nI at9)).toNatClampNeg)) (ar_33 (show ((oE I i (nI at9)).toNatClampNeg) < 12 by first | omega | exact hq.1)) goal (by rw [al_33 (show ((oE I i (nI at9)).toNatClampNeg) < 12 by first | omega | exact hq.1)]; first | omega | exact hq.1) dX4_roadTowards_32 ?_
          refine g_aload_n hC dX4_roadTowards_33 rfl 2 rfl ?_
          refine gf_X4_18 hC dX4_roadTowards_34 ?_
          refine g_iload_n hC dX4_roadTowards_37 rfl 1 rfl ?_
          refine n_iald hC 10 aa_10 i (show i < 24 by omega) dX4_roadTowards_38 ?_
          refine g_iadd hC dX4_roadTowards_39 ?_
          refine g_aload_n hC dX4_roadTowards_40 rfl 2 rfl ?_
          refine gf_X4_26 hC dX4_roadTowards_41 ?_
          refine g_iload_n hC dX4_roadTowards_44 rfl 3 rfl ?_
          refine n_aald33 hC at9 (show at9 < 12 by omega) dX4_roadTowards_45 ?_
          refine g_iload_n hC dX4_roadTowards_46 rfl 4 rfl ?_
          refine n_iald hC (35 + at9) (ar_33 (show at9 < 12 by first | omega | exact h2)) goal (by rw [al_33 (show at9 < 12 by first | omega | exact h2)]; first | omega | exact h2) dX4_roadTowards_47 ?_
          refine g_icmp_ne hC 53 dX4_roadTowards_48 (by decide) (fun c_48 => ?_) (fun c_48 => ?_)
          · refine g_iinc (v := nI (i + 1)) hC [(3, .int (nI (i + 1))), (4, .int (oE I i (nI at9))), (0, .ref (G.2.1 1)), (1, .int (nI at9)), (2, .int (nI goal))] dX4_roadTowards_53 1 rfl (nI_i1 _) (by decide) rfl ?_
            refine g_goto hC 2 dX4_roadTowards_56 (by decide) ?_
            refine g_lv [0, 2, 3, 4] (lv2 := [(3, .int (nI (i + 1))), (0, .ref (G.2.1 1)), (1, .int (nI at9)), (2, .int (nI goal))]) rfl ?_
            exact ih (i + 1) (by omega) (by omega) (by rw [hf, show n - i = (n - (i + 1)) + 1 by omega]; exact fi_n (by first | exact rc_f1 c_21 | exact rc_f2 c_48))
          · refine g_iload_n hC dX4_roadTowards_51 rfl 1 rfl ?_
            exact g_iret hC hr dX4_roadTowards_52 (Nat.le_of_ble_eq_true rfl) (Nat.le_of_ble_eq_true rfl) ⟨by rw [hf, show n - i = (n - (i + 1)) + 1 by omega, fi_s (rc_t c_21 c_48)], rfl, rfl, rfl⟩
  refine g_iconst (v := nI 0) hC dX4_roadTowards_0 (by decide) ?_
  refine g_istore_n hC [(3, .int (nI 0)), (0, .ref (G.2.1 1)), (1, .int (nI at9)), (2, .int (nI goal))] dX4_roadTowards_1 rfl (by decide) rfl ?_
  exact lp_2 (n + 1) 0 (by omega) (by omega) rfl

set_option maxRecDepth 100000 in
theorem m_X5_isBusy {l : Launch} {G : wG} (hl : l.stackTraces = false) (hG : wD G) (V : wV) (I : wI) (J : wJ) (m : Int32) : Ctr l yX5_isBusy cX5_isBusy 2 (some .boolean) { frames := 0, cells := 0, slots := 0, locals := 0 } G [.int m] V I J (pU (some (.int (if bz m = true then nI 1 else nI 0))) V I J) (noX) := by
  refine ctr_of hl hG (by decide) (Nat.le_of_ble_eq_true rfl) [(0, .int m)] rfl ?_
  intro K hC hKl hRm hr hT
  subst hKl
  have hC : Cx K G RX5 cX5_isBusy 2 := hC
  refine g_iload_n hC dX5_isBusy_0 rfl 0 rfl ?_
  refine g_bipush (v := nI 60) hC dX5_isBusy_1 (by decide) ?_
  refine g_idiv hC dX5_isBusy_3 (by decide) ?_
  refine g_bipush (v := nI 24) hC dX5_isBusy_4 (by decide) ?_
  refine g_irem hC dX5_isBusy_6 (by decide) ?_
  refine g_istore_n hC [(1, .int (((m) / (nI 60)) - ((m) / (nI 60)) / (nI 24) * (nI 24))), (0, .int m)] dX5_isBusy_7 rfl (by decide) rfl ?_
  refine g_iload_n hC dX5_isBusy_8 rfl 0 rfl ?_
  refine g_bipush (v := nI 7) hC dX5_isBusy_9 (by decide) ?_
  refine g_icmp_eq hC 32 dX5_isBusy_11 (by decide) (fun c_11 => ?_) (fun c_11 => ?_)
  · refine g_iconst (v := nI 1) hC dX5_isBusy_32 (by decide) ?_
    refine g_goto hC 37 dX5_isBusy_33 (by decide) ?_
    exact g_zret hC (by first | exact Or.inl rfl | exact Or.inr rfl) hr dX5_isBusy_37 (Nat.le_of_ble_eq_true rfl) (Nat.le_of_ble_eq_true rfl) ⟨by simp [bz, *], rfl, rfl, rfl⟩
  · refine g_iload_n hC dX5_isBusy_14 rfl 0 rfl ?_
    refine g_bipush (v := nI 8) hC dX5_isBusy_15 (by decide) ?_
    refine g_icmp_eq hC 32 dX5_isBusy_17 (by decide) (fun c_17 => ?_) (fun c_17 => ?_)
    · refine g_iconst (v := nI 1) hC dX5_isBusy_32 (by decide) ?_
      refine g_goto hC 37 dX5_isBusy_33 (by decide) ?_
      exact g_zret hC (by first | exact Or.inl rfl | exact Or.inr rfl) hr dX5_isBusy_37 (Nat.le_of_ble_eq_true rfl) (Nat.le_of_ble_eq_true rfl) ⟨by simp [bz, *], rfl, rfl, rfl⟩
    · refine g_iload_n hC dX5_isBusy_20 rfl 0 rfl ?_
      refine g_bipush (v := nI 16) hC dX5_isBusy_21 (by decide) ?_
      refine g_icmp_eq hC 32 dX5_isBusy_23 (by decide) (fun c_23 => ?_) (fun c_23 => ?_)
      · refine g_iconst (v := nI 1) hC dX5_isBusy_32 (by decide) ?_
        refine g_goto hC 37 dX5_isBusy_33 (by decide) ?_
        exact g_zret hC (by first | exact Or.inl rfl | exact Or.inr rfl) hr dX5_isBusy_37 (Nat.le_of_ble_eq_true rfl) (Nat.le_of_ble_eq_true rfl) ⟨by simp [bz, *], rfl, rfl, rfl⟩
      · refine g_iload_n hC dX5_isBusy_26 rfl 0 rfl ?_
        refine g_bipush (v := nI 17) hC dX5_isBusy_27 (by decide) ?_
        refine g_icmp_ne hC 36 dX5_isBusy_29 (by decide) (fun c_29 => ?_) (fun c_29 => ?_)
        · refine g_iconst (v := nI 0) hC dX5_isBusy_36 (by decide) ?_
          exact g_zret hC (by first | exact Or.inl rfl | exact Or.inr rfl) hr dX5_isBusy_37 (Nat.le_of_ble_eq_true rfl) (Nat.le_of_ble_eq_true rfl) ⟨by simp [bz, *], rfl, rfl, rfl⟩
        · refine g_iconst (v := nI 1) hC dX5_isBusy_32 (by decide) ?_
          refine g_goto hC 37 dX5_isBusy_33 (by decide) ?_
          exact g_zret hC (by first | exact Or.inl rfl | exact Or.inr rfl) hr dX5_isBusy_37 (Nat.le_of_ble_eq_true rfl) (Nat.le_of_ble_eq_true rfl) ⟨by simp [bz, *], rfl, rfl, rfl⟩

set_option maxRecDepth 100000 in
theorem m_X5_centsFor {l : Launch} {G : wG} (hl : l.stackTraces = false) (hG : wD G) (V : wV) (I : wI) (J : wJ) (len : Int32) (kind : Nat) (m : Int32) (h1 : kind < 3) : Ctr l yX5_centsFor cX5_centsFor 5 (some .int) { frames := 1, cells := 0, slots := 0, locals := 21 } G [.ref (G.2.1 2), .int len, .int (nI kind), .int m] V I J (pU (some (.int (cf I len kind m))) V I J) (noX) := by
  refine ctr_of hl hG (by decide) (Nat.le_of_ble_eq_true rfl) [(0, .ref (G.2.1 2)), (1, .int len), (2, .int (nI kind)), (3, .int m)] rfl ?_
  intro K hC hKl hRm hr hT
  subst hKl
  have hC : Cx K G RX5 cX5_centsFor 5 := hC
  refine g_iload_n hC dX5_centsFor_0 rfl 3 rfl ?_
  refine g_cS hC [.int m] (m_X5_isBusy hl hG V I J m) rfl (st2 := [.int ((if bz m = true then nI 1 else nI 0))]) rfl rfl tw_319 tw_320 tw_33 tw_321 pd_X5_isBusy ⟨rfl, rfl⟩ (by rw [hRm]; exact ⟨Nat.le_of_ble_eq_true rfl, Nat.le_of_ble_eq_true rfl, Nat.le_of_ble_eq_true rfl, Nat.le_of_ble_eq_true rfl⟩) (Nat.le_of_ble_eq_true rfl) dX5_centsFor_1 ?_
  refine g_if_eq hC 16 dX5_centsFor_4 (by decide) (fun c_4 => ?_) (fun c_4 => ?_)
  · have hb : bz m = false := by cases e : bz m with | false => rfl | true => rw [e] at c_4; exact absurd c_4 (by decide)
    refine g_bipush (v := nI 100) hC dX5_centsFor_16 (by decide) ?_
    refine g_istore hC [(4, .int (nI 100)), (0, .ref (G.2.1 2)), (1, .int len), (2, .int (nI kind)), (3, .int m)] dX5_centsFor_18 (by decide) rfl ?_
    refine g_iload_n hC dX5_centsFor_20 rfl 2 rfl ?_
    refine g_aload_n hC dX5_centsFor_21 rfl 1 rfl ?_
    refine gf_X5_9 hC dX5_centsFor_22 ?_
    refine g_iload_n hC dX5_centsFor_25 rfl 3 rfl ?_
    refine n_iald hC 12 aa_12 kind (show kind < 3 by omega) dX5_centsFor_26 ?_
    refine g_imul hC dX5_centsFor_27 ?_
    refine g_iload hC dX5_centsFor_28 0 rfl ?_
    refine g_imul hC dX5_centsFor_30 ?_
    refine g_bipush (v := nI 100) hC dX5_centsFor_31 (by decide) ?_
    refine g_idiv hC dX5_centsFor_33 (by decide) ?_
    exact g_iret hC hr dX5_centsFor_34 (Nat.le_of_ble_eq_true rfl) (Nat.le_of_ble_eq_true rfl) ⟨by unfold cf; rw [hb]; rfl, rfl, rfl, rfl⟩
  · have hb : bz m = true := by cases e : bz m with | false => rw [e] at c_4; exact absurd rfl c_4 | true => rfl
    refine g_aload_n hC dX5_centsFor_7 rfl 0 rfl ?_
    refine gf_X5_15 hC dX5_centsFor_8 ?_
    refine g_iload_n hC dX5_centsFor_11 rfl 2 rfl ?_
    refine n_iald hC 13 aa_13 kind (show kind < 3 by omega) dX5_centsFor_12 ?_
    refine g_goto hC 18 dX5_centsFor_13 (by decide) ?_
    refine g_istore hC [(4, .int (I 13 kind)), (0, .ref (G.2.1 2)), (1, .int len), (2, .int (nI kind)), (3, .int m)] dX5_centsFor_18 (by decide) rfl ?_
    refine g_iload_n hC dX5_centsFor_20 rfl 2 rfl ?_
    refine g_aload_n hC dX5_centsFor_21 rfl 1 rfl ?_
    refine gf_X5_9 hC dX5_centsFor_22 ?_
    refine g_iload_n hC dX5_centsFor_25 rfl 3 rfl ?_
    refine n_iald hC 12 aa_12 kind (show kind < 3 by omega) dX5_centsFor_26 ?_
    refine g_imul hC dX5_centsFor_27 ?_
    refine g_iload hC dX5_centsFor_28 0 rfl ?_
    refine g_imul hC dX5_centsFor_30 ?_
    refine g_bipush (v := nI 100) hC dX5_centsFor_31 (by decide) ?_
    refine g_idiv hC dX5_centsFor_33 (by decide) ?_
    exact g_iret hC hr dX5_centsFor_34 (Nat.le_of_ble_eq_true rfl) (Nat.le_of_ble_eq_true rfl) ⟨by unfold cf; rw [hb]; rfl, rfl, rfl, rfl⟩

set_option maxRecDepth 100000 in
theorem m_X2_isExempt {l : Launch} {G : wG} (hl : l.stackTraces = false) (hG : wD G) (V : wV) (I : wI) (J : wJ) (n : Nat) (p m : Int32) (hn : V 4 = nI n) (h1 : n ≤ 20) : Ctr l yX2_isExempt cX2_isExempt 4 (some .boolean) { frames := 0, cells := 0, slots := 0, locals := 0 } G [.ref (G.2.1 3), .int p, .int m] V I J (pU (some (.int (if an (ec I p m) n = true then nI 1 else nI 0))) V I J) (noX) := by
  refine ctr_of hl hG (by decide) (Nat.le_of_ble_eq_true rfl) [(0, .ref (G.2.1 3)), (1, .int p), (2, .int m)] rfl ?_
  intro K hC hKl hRm hr hT
  subst hKl
  have hC : Cx K G RX2 cX2_isExempt 4 := hC
  have lp_2 : ∀ (k9 : Nat) (i : Nat) (hi : i ≤ n) (hk : n < i + k9) (hf : an (ec I p m) i = false), WW K G 0 0 (QM K G { frames := 0, cells := 0, slots := 0, locals := 0 } (pU (some (.int (if an (ec I p m) n = true then nI 1 else nI 0))) V I J) (noX)) V I J 2 [(3, .int (nI i)), (0, .ref (G.2.1 3)), (1, .int p), (2, .int m)] [] := by
    intro k9
    induction k9 with
    | zero =>
      intro i hi hk hf
      omega
    | succ k9 ih =>
      intro i hi hk hf
      refine g_iload_n hC dX2_isExempt_2 rfl 0 rfl ?_
      refine g_aload_n hC dX2_isExempt_3 rfl 1 rfl ?_
      refine gf_X2_27 hC dX2_isExempt_4 ?_
      refine g_eqI (x' := nI n) (by rw [hn]) ?_
      refine g_icmp_ge hC 48 dX2_isExempt_7 (by decide) (fun c_7 => ?_) (fun c_7 => ?_)
      · have d_7 : n ≤ i := (nI_leI (by omega) (by omega)).mp c_7
        refine g_iconst (v := nI 0) hC dX2_isExempt_48 (by decide) ?_
        exact g_zret hC (by first | exact Or.inl rfl | exact Or.inr rfl) hr dX2_isExempt_49 (Nat.le_of_ble_eq_true rfl) (Nat.le_of_ble_eq_true rfl) ⟨by rw [if_neg (by rw [show n = i by omega, hf]; decide)] <;> rfl, rfl, rfl, rfl⟩
      · have d_7 : ¬ n ≤ i := fun q => c_7 ((nI_leI (by omega) (by omega)).mpr q)
        refine g_aload_n hC dX2_isExempt_10 rfl 1 rfl ?_
        refine gf_X2_18 hC dX2_isExempt_11 ?_
        refine g_iload_n hC dX2_isExempt_14 rfl 0 rfl ?_
        refine n_iald hC 16 aa_16 i (show i < 20 by omega) dX2_isExempt_15 ?_
        refine g_iload_n hC dX2_isExempt_16 rfl 2 rfl ?_
        refine g_icmp_ne hC 42 dX2_isExempt_17 (by decide) (fun c_17 => ?_) (fun c_17 => ?_)
        · refine g_iinc (v := nI (i + 1)) hC [(3, .int (nI (i + 1))), (0, .ref (G.2.1 3)), (1, .int p), (2, .int m)] dX2_isExempt_42 0 rfl (nI_i1 _) (by decide) rfl ?_
          refine g_goto hC 2 dX2_isExempt_45 (by decide) ?_
          exact ih (i + 1) (by omega) (by omega) (an_s hf (by first | exact ec_f1 c_17 | exact ec_f2 (Int32.not_le.mpr c_27) | exact ec_f3 (Int32.not_le.mpr c_37)))
        · refine g_aload_n hC dX2_isExempt_20 rfl 1 rfl ?_
          refine gf_X2_21 hC dX2_isExempt_21 ?_
          refine g_iload_n hC dX2_isExempt_24 rfl 0 rfl ?_
          refine n_iald hC 17 aa_17 i (show i < 20 by omega) dX2_isExempt_25 ?_
          refine g_iload_n hC dX2_isExempt_26 rfl 3 rfl ?_
          refine g_icmp_gt hC 42 dX2_isExempt_27 (by decide) (fun c_27 => ?_) (fun c_27 => ?_)
          · refine g_iinc (v := nI (i + 1)) hC [(3, .int (nI (i + 1))), (0, .ref (G.2.1 3)), (1, .int p), (2, .int m)] dX2_isExempt_42 0 rfl (nI_i1 _) (by decide) rfl ?_
            refine g_goto hC 2 dX2_isExempt_45 (by decide) ?_
            exact ih (i + 1) (by omega) (by omega) (an_s hf (by first | exact ec_f1 c_17 | exact ec_f2 (Int32.not_le.mpr c_27) | exact ec_f3 (Int32.not_le.mpr c_37)))
          · refine g_iload_n hC dX2_isExempt_30 rfl 3 rfl ?_
            refine g_aload_n hC dX2_isExempt_31 rfl 1 rfl ?_
            refine gf_X2_24 hC dX2_isExempt_32 ?_
            refine g_iload_n hC dX2_isExempt_35 rfl 0 rfl ?_
            refine n_iald hC 18 aa_18 i (show i < 20 by omega) dX2_isExempt_36 ?_
            refine g_icmp_gt hC 42 dX2_isExempt_37 (by decide) (fun c_37 => ?_) (fun c_37 => ?_)
            · refine g_iinc (v := nI (i + 1)) hC [(3, .int (nI (i + 1))), (0, .ref (G.2.1 3)), (1, .int p), (2, .int m)] dX2_isExempt_42 0 rfl (nI_i1 _) (by decide) rfl ?_
              refine g_goto hC 2 dX2_isExempt_45 (by decide) ?_
              exact ih (i + 1) (by omega) (by omega) (an_s hf (by first | exact ec_f1 c_17 | exact ec_f2 (Int32.not_le.mpr c_27) | exact ec_f3 (Int32.not_le.mpr c_37)))
            · refine g_iconst (v := nI 1) hC dX2_isExempt_40 (by decide) ?_
              exact g_zret hC (by first | exact Or.inl rfl | exact Or.inr rfl) hr dX2_isExempt_41 (Nat.le_of_ble_eq_true rfl) (Nat.le_of_ble_eq_true rfl) ⟨by rw [if_pos (an_t (ec_t c_17 (Int32.not_lt.mp c_27) (Int32.not_lt.mp c_37)) n (by omega))] <;> rfl, rfl, rfl, rfl⟩
  refine g_iconst (v := nI 0) hC dX2_isExempt_0 (by decide) ?_
  refine g_istore_n hC [(3, .int (nI 0)), (0, .ref (G.2.1 3)), (1, .int p), (2, .int m)] dX2_isExempt_1 rfl (by decide) rfl ?_
  exact lp_2 (n + 1) 0 (by omega) (by omega) rfl

set_option maxRecDepth 100000 in
theorem m_X2_addSpan {l : Launch} {G : wG} (hl : l.stackTraces = false) (hG : wD G) (V : wV) (I : wI) (J : wJ) (n : Nat) (p a b : Int32) (hn : V 4 = nI n) (h1 : n < 20) : Ctr l yX2_addSpan cX2_addSpan 4 (some .int) { frames := 0, cells := 0, slots := 0, locals := 0 } G [.ref (G.2.1 3), .int p, .int a, .int b] V I J (pU (some (.int (nI (n + 1)))) (upd V 4 (nI (n + 1))) (uI (uI (uI I 16 (upd (I 16) n p)) 17 (upd (I 17) n a)) 18 (upd (I 18) n b)) J) (noX) := by
  refine ctr_of hl hG (by decide) (Nat.le_of_ble_eq_true rfl) [(0, .ref (G.2.1 3)), (1, .int p), (2, .int a), (3, .int b)] rfl ?_
  intro K hC hKl hRm hr hT
  subst hKl
  have hC : Cx K G RX2 cX2_addSpan 4 := hC
  refine g_aload_n hC dX2_addSpan_0 rfl 0 rfl ?_
  refine gf_X2_18 hC dX2_addSpan_1 ?_
  refine g_aload_n hC dX2_addSpan_4 rfl 0 rfl ?_
  refine gf_X2_27 hC dX2_addSpan_5 ?_
  refine g_eqI (x' := nI n) (by rw [hn]) ?_
  refine g_iload_n hC dX2_addSpan_8 rfl 1 rfl ?_
  refine n_iast hC 16 aa_16 n (show n < 20 by omega) dX2_addSpan_9 ?_
  refine g_aload_n hC dX2_addSpan_10 rfl 0 rfl ?_
  refine gf_X2_21 hC dX2_addSpan_11 ?_
  refine g_aload_n hC dX2_addSpan_14 rfl 0 rfl ?_
  refine gf_X2_27 hC dX2_addSpan_15 ?_
  refine g_eqI (x' := nI n) (by rw [hn]) ?_
  refine g_iload_n hC dX2_addSpan_18 rfl 2 rfl ?_
  refine n_iast hC 17 aa_17 n (show n < 20 by omega) dX2_addSpan_19 ?_
  refine g_aload_n hC dX2_addSpan_20 rfl 0 rfl ?_
  refine gf_X2_24 hC dX2_addSpan_21 ?_
  refine g_aload_n hC dX2_addSpan_24 rfl 0 rfl ?_
  refine gf_X2_27 hC dX2_addSpan_25 ?_
  refine g_eqI (x' := nI n) (by rw [hn]) ?_
  refine g_iload_n hC dX2_addSpan_28 rfl 3 rfl ?_
  refine n_iast hC 18 aa_18 n (show n < 20 by omega) dX2_addSpan_29 ?_
  refine g_aload_n hC dX2_addSpan_30 rfl 0 rfl ?_
  refine g_dup hC dX2_addSpan_31 rfl ?_
  refine gf_X2_27 hC dX2_addSpan_32 ?_
  refine g_eqI (x' := nI n) (by rw [hn]) ?_
  refine g_iconst (v := nI 1) hC dX2_addSpan_35 (by decide) ?_
  refine g_iadd hC dX2_addSpan_36 ?_
  refine g_eqI (x' := nI (n + 1)) (nI_add _ _) ?_
  refine gp_X2_27 hC dX2_addSpan_37 ?_
  refine g_aload_n hC dX2_addSpan_40 rfl 0 rfl ?_
  refine gf_X2_27 hC dX2_addSpan_41 ?_
  refine g_eqI (x' := nI (n + 1)) (by rw [pk_us]) ?_
  exact g_iret hC hr dX2_addSpan_44 (Nat.le_of_ble_eq_true rfl) (Nat.le_of_ble_eq_true rfl) ⟨rfl, rfl, rfl, rfl⟩
end
section
set_option maxRecDepth 100000 in
theorem m_X4_addGate {l : Launch} {G : wG} (hl : l.stackTraces = false) (hG : wD G) (V : wV) (I : wI) (J : wJ) (g : Nat) (hn : V 1 = nI g) : Ctr l yX4_addGate cX4_addGate 2 (some .int) { frames := 0, cells := 0, slots := 0, locals := 0 } G [.ref (G.2.1 1)] V I J (pU (some (.int (nI g))) (upd V 1 (nI (g + 1))) I J) (noX) := by
  refine ctr_of hl hG (by decide) (Nat.le_of_ble_eq_true rfl) [(0, .ref (G.2.1 1))] rfl ?_
  intro K hC hKl hRm hr hT
  subst hKl
  have hC : Cx K G RX4 cX4_addGate 2 := hC
  refine g_aload_n hC dX4_addGate_0 rfl 0 rfl ?_
  refine gf_X4_30 hC dX4_addGate_1 ?_
  refine g_eqI (x' := nI g) (by rw [hn]) ?_
  refine g_istore_n hC [(1, .int (nI g)), (0, .ref (G.2.1 1))] dX4_addGate_4 rfl (by decide) rfl ?_
  refine g_aload_n hC dX4_addGate_5 rfl 1 rfl ?_
  refine g_dup hC dX4_addGate_6 rfl ?_
  refine gf_X4_30 hC dX4_addGate_7 ?_
  refine g_eqI (x' := nI g) (by rw [hn]) ?_
  refine g_iconst (v := nI 1) hC dX4_addGate_10 (by decide) ?_
  refine g_iadd hC dX4_addGate_11 ?_
  refine g_eqI (x' := nI (g + 1)) (nI_add _ _) ?_
  refine gp_X4_30 hC dX4_addGate_12 ?_
  refine g_iload_n hC dX4_addGate_15 rfl 0 rfl ?_
  exact g_iret hC hr dX4_addGate_16 (Nat.le_of_ble_eq_true rfl) (Nat.le_of_ble_eq_true rfl) ⟨rfl, rfl, rfl, rfl⟩

set_option maxRecDepth 100000 in
theorem m_X4_shortenDistances {l : Launch} {G : wG} (hl : l.stackTraces = false) (hG : wD G) (V : wV) (I : wI) (J : wJ) (a b : Nat) (l9 : Int32) (g : Nat) (hn : V 1 = nI g) (h1 : g ≤ 12) (h2 : a < 12) (h3 : b < 12) : Ctr l yX4_shortenDistances cX4_shortenDistances 9 none { frames := 1, cells := 0, slots := 0, locals := 30 } G [.ref (G.2.1 1), .int (nI a), .int (nI b), .int l9] V I J (pU none V (sdF I a b l9 g g) J) (noX) := by
  refine ctr_of hl hG (by decide) (Nat.le_of_ble_eq_true rfl) [(0, .ref (G.2.1 1)), (1, .int (nI a)), (2, .int (nI b)), (3, .int l9)] rfl ?_
  intro K hC hKl hRm hr hT
  subst hKl
  have hC : Cx K G RX4 cX4_shortenDistances 9 := hC
  have lp_3 : ∀ (k9 : Nat) (f : Nat) (hf : f ≤ g) (hk : g < f + k9), WW K G 0 0 (QM K G { frames := 1, cells := 0, slots := 0, locals := 30 } (pU none V (sdF I a b l9 g g) J) (noX)) V (sdF I a b l9 g f) J 3 [(4, .int (nI f)), (0, .ref (G.2.1 1)), (1, .int (nI a)), (2, .int (nI b)), (3, .int l9)] [] := by
    intro k9
    induction k9 with
    | zero =>
      intro f hf hk
      omega
    | succ k9 ih =>
      intro f hf hk
      have lp_15 : ∀ (k8 : Nat) (t : Nat) (ht : t ≤ g) (hlt : f < g) (hk8 : g < t + k8), WW K G 0 0 (QM K G { frames := 1, cells := 0, slots := 0, locals := 30 } (pU none V (sdF I a b l9 g g) J) (noX)) V (sdT (sdF I a b l9 g f) a b l9 f t) J 15 [(5, .int (nI t)), (4, .int (nI f)), (0, .ref (G.2.1 1)), (1, .int (nI a)), (2, .int (nI b)), (3, .int l9)] [] := by
        intro k8
        induction k8 with
        | zero =>
          intro t ht hlt hk8
          omega
        | succ k8 ih1 =>
          intro t ht hlt hk8
          refine g_iload hC dX4_shortenDistances_15 0 rfl ?_
          refine g_aload_n hC dX4_shortenDistances_17 rfl 2 rfl ?_
          refine gf_X4_30 hC dX4_shortenDistances_18 ?_
          refine g_eqI (x' := nI g) (by rw [hn]) ?_
          refine g_icmp_ge hC 110 dX4_shortenDistances_21 (by decide) (fun c_21 => ?_) (fun c_21 => ?_)
          · have d_21 : g ≤ t := (nI_leI (by omega) (by omega)).mp c_21
            refine g_st (V1 := V) (I1 := (sdF I a b l9 g (f + 1))) (J1 := J) rfl (by rw [show t = g by omega]; rfl) rfl ?_
            refine g_iinc (v := nI (f + 1)) hC [(4, .int (nI (f + 1))), (5, .int (nI t)), (0, .ref (G.2.1 1)), (1, .int (nI a)), (2, .int (nI b)), (3, .int l9)] dX4_shortenDistances_110 1 rfl (nI_i1 _) (by decide) rfl ?_
            refine g_goto hC 3 dX4_shortenDistances_113 (by decide) ?_
            refine g_lv [0, 2, 3, 4, 5] (lv2 := [(4, .int (nI (f + 1))), (0, .ref (G.2.1 1)), (1, .int (nI a)), (2, .int (nI b)), (3, .int l9)]) rfl ?_
            exact ih (f + 1) (by omega) (by omega)
          · have d_21 : ¬ g ≤ t := fun q => c_21 ((nI_leI (by omega) (by omega)).mpr q)
            refine g_aload_n hC dX4_shortenDistances_24 rfl 2 rfl ?_
            refine gf_X4_26 hC dX4_shortenDistances_25 ?_
            refine g_iload hC dX4_shortenDistances_28 1 rfl ?_
            refine n_aald33 hC f (show f < 12 by omega) dX4_shortenDistances_30 ?_
            refine g_iload_n hC dX4_shortenDistances_31 rfl 3 rfl ?_
            refine n_iald hC (35 + f) (ar_33 (show f < 12 by omega)) a (by rw [al_33 (show f < 12 by omega)]; omega) dX4_shortenDistances_32 ?_
            refine g_iload_n hC dX4_shortenDistances_33 rfl 5 rfl ?_
            refine g_iadd hC dX4_shortenDistances_34 ?_
            refine g_aload_n hC dX4_shortenDistances_35 rfl 2 rfl ?_
            refine gf_X4_26 hC dX4_shortenDistances_36 ?_
            refine g_iload_n hC dX4_shortenDistances_39 rfl 4 rfl ?_
            refine n_aald33 hC b (show b < 12 by omega) dX4_shortenDistances_40 ?_
            refine g_iload hC dX4_shortenDistances_41 0 rfl ?_
            refine n_iald hC (35 + b) (ar_33 (show b < 12 by omega)) t (by rw [al_33 (show b < 12 by omega)]; omega) dX4_shortenDistances_43 ?_
            refine g_iadd hC dX4_shortenDistances_44 ?_
            refine g_istore hC [(6, .int ((((sdT (sdF I a b l9 g f) a b l9 f t) (35 + f) a) + (l9)) + ((sdT (sdF I a b l9 g f) a b l9 f t) (35 + b) t))), (5, .int (nI t)), (4, .int (nI f)), (0, .ref (G.2.1 1)), (1, .int (nI a)), (2, .int (nI b)), (3, .int l9)] dX4_shortenDistances_45 (by decide) rfl ?_
            refine g_aload_n hC dX4_shortenDistances_47 rfl 3 rfl ?_
            refine gf_X4_26 hC dX4_shortenDistances_48 ?_
            refine g_iload hC dX4_shortenDistances_51 2 rfl ?_
            refine n_aald33 hC f (show f < 12 by omega) dX4_shortenDistances_53 ?_
            refine g_iload_n hC dX4_shortenDistances_54 rfl 5 rfl ?_
            refine n_iald hC (35 + f) (ar_33 (show f < 12 by omega)) b (by rw [al_33 (show f < 12 by omega)]; omega) dX4_shortenDistances_55 ?_
            refine g_iload_n hC dX4_shortenDistances_56 rfl 6 rfl ?_
            refine g_iadd hC dX4_shortenDistances_57 ?_
            refine g_aload_n hC dX4_shortenDistances_58 rfl 3 rfl ?_
            refine gf_X4_26 hC dX4_shortenDistances_59 ?_
            refine g_iload_n hC dX4_shortenDistances_62 rfl 4 rfl ?_
            refine n_aald33 hC a (show a < 12 by omega) dX4_shortenDistances_63 ?_
            refine g_iload hC dX4_shortenDistances_64 1 rfl ?_
            refine n_iald hC (35 + a) (ar_33 (show a < 12 by omega)) t (by rw [al_33 (show a < 12 by omega)]; omega) dX4_shortenDistances_66 ?_
            refine g_iadd hC dX4_shortenDistances_67 ?_
            refine g_istore hC [(7, .int ((((sdT (sdF I a b l9 g f) a b l9 f t) (35 + f) b) + (l9)) + ((sdT (sdF I a b l9 g f) a b l9 f t) (35 + a) t))), (6, .int ((((sdT (sdF I a b l9 g f) a b l9 f t) (35 + f) a) + (l9)) + ((sdT (sdF I a b l9 g f) a b l9 f t) (35 + b) t))), (5, .int (nI t)), (4, .int (nI f)), (0, .ref (G.2.1 1)), (1, .int (nI a)), (2, .int (nI b)), (3, .int l9)] dX4_shortenDistances_68 (by decide) rfl ?_
            refine g_iload hC dX4_shortenDistances_70 1 rfl ?_
            refine g_iload hC dX4_shortenDistances_72 0 rfl ?_
            refine g_min hC tw_504 tw_min_s tw_min_i tw_min_c (by rw [hRm]; decide) (by rw [hRm]; exact Nat.le_of_ble_eq_true rfl) (by rw [hRm]; exact Nat.le_of_ble_eq_true rfl) (by rw [hRm]; exact Nat.le_of_ble_eq_true rfl) dX4_shortenDistances_74 ?_
            refine g_istore hC [(8, .int ((if (((sdT (sdF I a b l9 g f) a b l9 f t) (35 + f) b) + (l9)) + ((sdT (sdF I a b l9 g f) a b l9 f t) (35 + a) t) < (((sdT (sdF I a b l9 g f) a b l9 f t) (35 + f) a) + (l9)) + ((sdT (sdF I a b l9 g f) a b l9 f t) (35 + b) t) then (((sdT (sdF I a b l9 g f) a b l9 f t) (35 + f) b) + (l9)) + ((sdT (sdF I a b l9 g f) a b l9 f t) (35 + a) t) else (((sdT (sdF I a b l9 g f) a b l9 f t) (35 + f) a) + (l9)) + ((sdT (sdF I a b l9 g f) a b l9 f t) (35 + b) t)))), (7, .int ((((sdT (sdF I a b l9 g f) a b l9 f t) (35 + f) b) + (l9)) + ((sdT (sdF I a b l9 g f) a b l9 f t) (35 + a) t))), (6, .int ((((sdT (sdF I a b l9 g f) a b l9 f t) (35 + f) a) + (l9)) + ((sdT (sdF I a b l9 g f) a b l9 f t) (35 + b) t))), (5, .int (nI t)), (4, .int (nI f)), (0, .ref (G.2.1 1)), (1, .int (nI a)), (2, .int (nI b)), (3, .int l9)] dX4_shortenDistances_77 (by decide) rfl ?_
            refine g_aload_n hC dX4_shortenDistances_79 rfl 5 rfl ?_
            refine gf_X4_26 hC dX4_shortenDistances_80 ?_
            refine g_iload hC dX4_shortenDistances_83 4 rfl ?_
            refine n_aald33 hC f (show f < 12 by omega) dX4_shortenDistances_85 ?_
            refine g_iload hC dX4_shortenDistances_86 3 rfl ?_
            refine g_aload_n hC dX4_shortenDistances_88 rfl 5 rfl ?_
            refine gf_X4_26 hC dX4_shortenDistances_89 ?_
            refine g_iload hC dX4_shortenDistances_92 4 rfl ?_
            refine n_aald33 hC f (show f < 12 by omega) dX4_shortenDistances_94 ?_
            refine g_iload hC dX4_shortenDistances_95 3 rfl ?_
            refine n_iald hC (35 + f) (ar_33 (show f < 12 by omega)) t (by rw [al_33 (show f < 12 by omega)]; omega) dX4_shortenDistances_97 ?_
            refine g_iload hC dX4_shortenDistances_98 0 rfl ?_
            refine g_min hC tw_504 tw_min_s tw_min_i tw_min_c (by rw [hRm]; decide) (by rw [hRm]; exact Nat.le_of_ble_eq_true rfl) (by rw [hRm]; exact Nat.le_of_ble_eq_true rfl) (by rw [hRm]; exact Nat.le_of_ble_eq_true rfl) dX4_shortenDistances_100 ?_
            refine n_iast hC (35 + f) (ar_33 (show f < 12 by omega)) t (by rw [al_33 (show f < 12 by omega)]; omega) dX4_shortenDistances_103 ?_
            refine g_iinc (v := nI (t + 1)) hC [(5, .int (nI (t + 1))), (8, .int ((if (((sdT (sdF I a b l9 g f) a b l9 f t) (35 + f) b) + (l9)) + ((sdT (sdF I a b l9 g f) a b l9 f t) (35 + a) t) < (((sdT (sdF I a b l9 g f) a b l9 f t) (35 + f) a) + (l9)) + ((sdT (sdF I a b l9 g f) a b l9 f t) (35 + b) t) then (((sdT (sdF I a b l9 g f) a b l9 f t) (35 + f) b) + (l9)) + ((sdT (sdF I a b l9 g f) a b l9 f t) (35 + a) t) else (((sdT (sdF I a b l9 g f) a b l9 f t) (35 + f) a) + (l9)) + ((sdT (sdF I a b l9 g f) a b l9 f t) (35 + b) t)))), (7, .int ((((sdT (sdF I a b l9 g f) a b l9 f t) (35 + f) b) + (l9)) + ((sdT (sdF I a b l9 g f) a b l9 f t) (35 + a) t))), (6, .int ((((sdT (sdF I a b l9 g f) a b l9 f t) (35 + f) a) + (l9)) + ((sdT (sdF I a b l9 g f) a b l9 f t) (35 + b) t))), (4, .int (nI f)), (0, .ref (G.2.1 1)), (1, .int (nI a)), (2, .int (nI b)), (3, .int l9)] dX4_shortenDistances_104 3 rfl (nI_i1 _) (by decide) rfl ?_
            refine g_goto hC 15 dX4_shortenDistances_107 (by decide) ?_
            refine g_lv [0, 4, 5, 6, 7, 8] (lv2 := [(5, .int (nI (t + 1))), (4, .int (nI f)), (0, .ref (G.2.1 1)), (1, .int (nI a)), (2, .int (nI b)), (3, .int l9)]) rfl ?_
            exact ih1 (t + 1) (by omega) hlt (by omega)
      refine g_iload hC dX4_shortenDistances_3 0 rfl ?_
      refine g_aload_n hC dX4_shortenDistances_5 rfl 1 rfl ?_
      refine gf_X4_30 hC dX4_shortenDistances_6 ?_
      refine g_eqI (x' := nI g) (by rw [hn]) ?_
      refine g_icmp_ge hC 116 dX4_shortenDistances_9 (by decide) (fun c_9 => ?_) (fun c_9 => ?_)
      · have d_9 : g ≤ f := (nI_leI (by omega) (by omega)).mp c_9
        exact g_vret hC hr dX4_shortenDistances_116 (Nat.le_of_ble_eq_true rfl) (Nat.le_of_ble_eq_true rfl) ⟨rfl, rfl, by rw [show f = g by omega], rfl⟩
      · have d_9 : ¬ g ≤ f := fun q => c_9 ((nI_leI (by omega) (by omega)).mpr q)
        refine g_iconst (v := nI 0) hC dX4_shortenDistances_12 (by decide) ?_
        refine g_istore hC [(5, .int (nI 0)), (4, .int (nI f)), (0, .ref (G.2.1 1)), (1, .int (nI a)), (2, .int (nI b)), (3, .int l9)] dX4_shortenDistances_13 (by decide) rfl ?_
        exact lp_15 (g + 1) 0 (by omega) (by omega) (by omega)
  refine g_iconst (v := nI 0) hC dX4_shortenDistances_0 (by decide) ?_
  refine g_istore hC [(4, .int (nI 0)), (0, .ref (G.2.1 1)), (1, .int (nI a)), (2, .int (nI b)), (3, .int l9)] dX4_shortenDistances_1 (by decide) rfl ?_
  exact lp_3 (g + 1) 0 (by omega) (by omega)

set_option maxRecDepth 100000 in
theorem m_X4_addRoad {l : Launch} {G : wG} (hl : l.stackTraces = false) (hG : wD G) (V : wV) (I : wI) (J : wJ) (n g a b : Nat) (l9 o9 : Int32) (hn : V 2 = nI n) (hg : V 1 = nI g) (h0 : n < 24) (h1 : g ≤ 12) (h2 : a < 12) (h3 : b < 12) : Ctr l yX4_addRoad cX4_addRoad 6 (some .int) { frames := 2, cells := 0, slots := 0, locals := 58 } G [.ref (G.2.1 1), .int (nI a), .int (nI b), .int l9, .int o9] V I J (pU (some (.int (nI n))) (upd V 2 (nI (n + 1))) (sdF (uI (uI (uI (uI I 8 (upd (I 8) n (nI a))) 9 (upd (I 9) n (nI b))) 10 (upd (I 10) n l9)) 11 (upd (I 11) n o9)) a b l9 g g) J) (noX) := by
  refine ctr_of hl hG (by decide) (Nat.le_of_ble_eq_true rfl) [(0, .ref (G.2.1 1)), (1, .int (nI a)), (2, .int (nI b)), (3, .int l9), (4, .int o9)] rfl ?_
  intro K hC hKl hRm hr hT
  subst hKl
  have hC : Cx K G RX4 cX4_addRoad 6 := hC
  refine g_aload_n hC dX4_addRoad_0 rfl 0 rfl ?_
  refine gf_X4_34 hC dX4_addRoad_1 ?_
  refine g_eqI (x' := nI n) (by rw [hn]) ?_
  refine g_istore hC [(5, .int (nI n)), (0, .ref (G.2.1 1)), (1, .int (nI a)), (2, .int (nI b)), (3, .int l9), (4, .int o9)] dX4_addRoad_4 (by decide) rfl ?_
  refine g_aload_n hC dX4_addRoad_6 rfl 1 rfl ?_
  refine gf_X4_9 hC dX4_addRoad_7 ?_
  refine g_iload hC dX4_addRoad_10 0 rfl ?_
  refine g_iload_n hC dX4_addRoad_12 rfl 2 rfl ?_
  refine n_iast hC 8 aa_8 n (show n < 24 by omega) dX4_addRoad_13 ?_
  refine g_aload_n hC dX4_addRoad_14 rfl 1 rfl ?_
  refine gf_X4_15 hC dX4_addRoad_15 ?_
  refine g_iload hC dX4_addRoad_18 0 rfl ?_
  refine g_iload_n hC dX4_addRoad_20 rfl 3 rfl ?_
  refine n_iast hC 9 aa_9 n (show n < 24 by omega) dX4_addRoad_21 ?_
  refine g_aload_n hC dX4_addRoad_22 rfl 1 rfl ?_
  refine gf_X4_18 hC dX4_addRoad_23 ?_
  refine g_iload hC dX4_addRoad_26 0 rfl ?_
  refine g_iload_n hC dX4_addRoad_28 rfl 4 rfl ?_
  refine n_iast hC 10 aa_10 n (show n < 24 by omega) dX4_addRoad_29 ?_
  refine g_aload_n hC dX4_addRoad_30 rfl 1 rfl ?_
  refine gf_X4_21 hC dX4_addRoad_31 ?_
  refine g_iload hC dX4_addRoad_34 0 rfl ?_
  refine g_iload hC dX4_addRoad_36 5 rfl ?_
  refine n_iast hC 11 aa_11 n (show n < 24 by omega) dX4_addRoad_38 ?_
  refine g_aload_n hC dX4_addRoad_39 rfl 1 rfl ?_
  refine g_dup hC dX4_addRoad_40 rfl ?_
  refine gf_X4_34 hC dX4_addRoad_41 ?_
  refine g_eqI (x' := nI n) (by rw [hn]) ?_
  refine g_iconst (v := nI 1) hC dX4_addRoad_44 (by decide) ?_
  refine g_iadd hC dX4_addRoad_45 ?_
  refine g_eqI (x' := nI (n + 1)) (nI_add _ _) ?_
  refine gp_X4_34 hC dX4_addRoad_46 ?_
  refine g_aload_n hC dX4_addRoad_49 rfl 1 rfl ?_
  refine g_iload_n hC dX4_addRoad_50 rfl 2 rfl ?_
  refine g_iload_n hC dX4_addRoad_51 rfl 3 rfl ?_
  refine g_iload_n hC dX4_addRoad_52 rfl 4 rfl ?_
  refine g_cV hC [.int (nI a), .int (nI b), .int l9] 1 (m_X4_shortenDistances hl hG (upd V 2 (nI (n + 1))) (uI (uI (uI (uI I 8 (upd (I 8) n (nI a))) 9 (upd ((uI I 8 (upd (I 8) n (nI a))) 9) n (nI b))) 10 (upd ((uI (uI I 8 (upd (I 8) n (nI a))) 9 (upd ((uI I 8 (upd (I 8) n (nI a))) 9) n (nI b))) 10) n (l9))) 11 (upd ((uI (uI (uI I 8 (upd (I 8) n (nI a))) 9 (upd ((uI I 8 (upd (I 8) n (nI a))) 9) n (nI b))) 10 (upd ((uI (uI I 8 (upd (I 8) n (nI a))) 9 (upd ((uI I 8 (upd (I 8) n (nI a))) 9) n (nI b))) 10) n (l9))) 11) n (o9))) J a b l9 g ((pk_un (by decide)).trans hg) h1 h2 h3) rfl (st2 := []) rfl (by decide) rfl rfl rfl tw_500 tw_502 tw_10 tw_32 tw_503 pd_X4_shortenDistances ⟨rfl, rfl⟩ (by rw [hRm]; exact ⟨Nat.le_of_ble_eq_true rfl, Nat.le_of_ble_eq_true rfl, Nat.le_of_ble_eq_true rfl, Nat.le_of_ble_eq_true rfl⟩) (Nat.le_of_ble_eq_true rfl) dX4_addRoad_53 ?_
  refine g_iload hC dX4_addRoad_56 0 rfl ?_
  exact g_iret hC hr dX4_addRoad_58 (Nat.le_of_ble_eq_true rfl) (Nat.le_of_ble_eq_true rfl) ⟨rfl, rfl, rfl, rfl⟩

set_option maxRecDepth 100000 in
theorem m_X4_roadOfWay {l : Launch} {G : wG} (hl : l.stackTraces = false) (hG : wD G) (V : wV) (I : wI) (J : wJ) (n a0 goal : Nat) (place : Int32) (hn : V 2 = nI n) (hw : wfR I n) (h2 : a0 < 12) (h3 : goal < 12) : Ctr l yX4_roadOfWay cX4_roadOfWay 7 (some .int) { frames := 2, cells := 0, slots := 0, locals := 46 } G [.ref (G.2.1 1), .int (nI a0), .int (nI goal), .int place] V I J (pU (some (.int (rW I n goal place 12 0 (nI a0)))) V I J) (noX) := by
  refine ctr_of hl hG (by decide) (Nat.le_of_ble_eq_true rfl) [(0, .ref (G.2.1 1)), (1, .int (nI a0)), (2, .int (nI goal)), (3, .int place)] rfl ?_
  intro K hC hKl hRm hr hT
  subst hKl
  have hC : Cx K G RX4 cX4_roadOfWay 7 := hC
  have hn24 := hw.1
  have lp_6 : ∀ (k9 : Nat) (i at9 : Nat) (hi : i ≤ 12) (hk : 12 < i + k9) (ha : at9 < 12) (hf : rW I n goal place 12 0 (nI a0) = rW I n goal place (12 - i) i (nI at9)), WW K G 0 0 (QM K G { frames := 2, cells := 0, slots := 0, locals := 46 } (pU (some (.int (rW I n goal place 12 0 (nI a0)))) V I J) (noX)) V I J 6 [(5, .int (nI i)), (4, .int (nI at9)), (0, .ref (G.2.1 1)), (1, .int (nI a0)), (2, .int (nI goal)), (3, .int place)] [] := by
    intro k9
    induction k9 with
    | zero =>
      intro i at9 hi hk ha hf
      omega
    | succ k9 ih =>
      intro i at9 hi hk ha hf
      have hcl : (nI at9).toNatClampNeg = at9 := nI_clamp (by omega)
      refine g_iload hC dX4_roadOfWay_6 0 rfl ?_
      refine g_bipush (v := nI 12) hC dX4_roadOfWay_8 (by decide) ?_
      refine g_icmp_ge hC 53 dX4_roadOfWay_10 (by decide) (fun c_10 => ?_) (fun c_10 => ?_)
      · have d_10 : 12 ≤ i := (nI_leI (by omega) (by omega)).mp c_10
        refine g_iconst (v := (-1)) hC dX4_roadOfWay_53 (by decide) ?_
        exact g_iret hC hr dX4_roadOfWay_54 (Nat.le_of_ble_eq_true rfl) (Nat.le_of_ble_eq_true rfl) ⟨by rw [hf, show 12 - i = 0 by omega]; rfl, rfl, rfl, rfl⟩
      · have d_10 : ¬ 12 ≤ i := fun q => c_10 ((nI_leI (by omega) (by omega)).mpr q)
        refine g_aload_n hC dX4_roadOfWay_13 rfl 2 rfl ?_
        refine g_iload hC dX4_roadOfWay_14 1 rfl ?_
        refine g_iload_n hC dX4_roadOfWay_16 rfl 4 rfl ?_
        refine g_cV hC [.int (nI at9), .int (nI goal)] 1 (m_X4_roadTowards hl hG V I J n at9 goal hn hw (by omega) h3) rfl (st2 := [.int (rT I n at9 goal)]) rfl (by decide) rfl rfl rfl tw_606 tw_308 tw_309 tw_32 tw_310 pd_X4_roadTowards ⟨rfl, rfl⟩ (by rw [hRm]; exact ⟨Nat.le_of_ble_eq_true rfl, Nat.le_of_ble_eq_true rfl, Nat.le_of_ble_eq_true rfl, Nat.le_of_ble_eq_true rfl⟩) (Nat.le_of_ble_eq_true rfl) dX4_roadOfWay_17 ?_
        refine g_istore hC [(6, .int (rT I n at9 goal)), (5, .int (nI i)), (4, .int (nI at9)), (0, .ref (G.2.1 1)), (1, .int (nI a0)), (2, .int (nI goal)), (3, .int place)] dX4_roadOfWay_20 (by decide) rfl ?_
        refine g_iload hC dX4_roadOfWay_22 0 rfl ?_
        refine g_iconst (v := (-1)) hC dX4_roadOfWay_24 (by decide) ?_
        refine g_icmp_eq hC 34 dX4_roadOfWay_25 (by decide) (fun c_25 => ?_) (fun c_25 => ?_)
        · have hz : rW I n goal place 12 0 (nI a0) = rT I n at9 goal := by rw [hf, show 12 - i = (12 - (i + 1)) + 1 by omega]; show (if _ then _ else _) = _; rw [hcl, if_pos (Or.inl c_25)]
          refine g_iload hC dX4_roadOfWay_34 0 rfl ?_
          exact g_iret hC hr dX4_roadOfWay_36 (Nat.le_of_ble_eq_true rfl) (Nat.le_of_ble_eq_true rfl) ⟨by rw [hz], rfl, rfl, rfl⟩
        · have hq := rT_nI hw c_25
          refine g_iload hC dX4_roadOfWay_28 1 rfl ?_
          refine g_iload_n hC dX4_roadOfWay_30 rfl 6 rfl ?_
          refine g_icmp_ne hC 37 dX4_roadOfWay_31 (by decide) (fun c_31 => ?_) (fun c_31 => ?_)
          · refine g_aload_n hC dX4_roadOfWay_37 rfl 3 rfl ?_
            refine g_iload hC dX4_roadOfWay_38 0 rfl ?_
            refine g_eqI (x' := nI (rT I n at9 goal).toNatClampNeg) hq.2.1 ?_
            refine g_iload hC dX4_roadOfWay_40 2 rfl ?_
            refine g_cV hC [.int (nI (rT I n at9 goal).toNatClampNeg), .int (nI at9)] 1 (m_X4_otherEnd hl hG V I J (rT I n at9 goal).toNatClampNeg (nI at9) (by omega)) rfl (st2 := [.int (oE I ((rT I n at9 goal).toNatClampNeg) (nI at9))]) rfl (by decide) rfl rfl rfl tw_311 tw_312 tw_313 tw_32 tw_314 pd_X4_otherEnd ⟨rfl, rfl⟩ (by rw [hRm]; exact ⟨Nat.le_of_ble_eq_true rfl, Nat.le_of_ble_eq_true rfl, Nat.le_of_ble_eq_true rfl, Nat.le_of_ble_eq_true rfl⟩) (Nat.le_of_ble_eq_true rfl) dX4_roadOfWay_42 ?_
            have hq2 := oE_nI hw hq.1 (rT_oE hw c_25)
            refine g_eqI (x' := nI (oE I (rT I n at9 goal).toNatClampNeg (nI at9)).toNatClampNeg) hq2.2 ?_
            refine g_istore hC [(4, .int (nI (oE I (rT I n at9 goal).toNatClampNeg (nI at9)).toNatClampNeg)), (6, .int (rT I n at9 goal)), (5, .int (nI i)), (0, .ref (G.2.1 1)), (1, .int (nI a0)), (2, .int (nI goal)), (3, .int place)] dX4_roadOfWay_45 (by decide) rfl ?_
            refine g_iinc (v := nI (i + 1)) hC [(5, .int (nI (i + 1))), (4, .int (nI (oE I (rT I n at9 goal).toNatClampNeg (nI at9)).toNatClampNeg)), (6, .int (rT I n at9 goal)), (0, .ref (G.2.1 1)), (1, .int (nI a0)), (2, .int (nI goal)), (3, .int place)] dX4_roadOfWay_47 2 rfl (nI_i1 _) (by decide) rfl ?_
            refine g_goto hC 6 dX4_roadOfWay_50 (by decide) ?_
            refine g_lv [0, 1, 3, 4, 5, 6] (lv2 := [(5, .int (nI (i + 1))), (4, .int (nI (oE I (rT I n at9 goal).toNatClampNeg (nI at9)).toNatClampNeg)), (0, .ref (G.2.1 1)), (1, .int (nI a0)), (2, .int (nI goal)), (3, .int place)]) rfl ?_
            exact ih (i + 1) _ (by omega) (by omega) hq2.1 (by rw [hf, show 12 - i = (12 - (i + 1)) + 1 by omega]; show (if _ then _ else _) = _; rw [hcl, if_neg (fun q => q.elim c_25 c_31), ← hq2.2])
          · have hz : rW I n goal place 12 0 (nI a0) = rT I n at9 goal := by rw [hf, show 12 - i = (12 - (i + 1)) + 1 by omega]; show (if _ then _ else _) = _; rw [hcl, if_pos (Or.inr c_31)]
            refine g_iload hC dX4_roadOfWay_34 0 rfl ?_
            exact g_iret hC hr dX4_roadOfWay_36 (Nat.le_of_ble_eq_true rfl) (Nat.le_of_ble_eq_true rfl) ⟨by rw [hz], rfl, rfl, rfl⟩
  refine g_iload_n hC dX4_roadOfWay_0 rfl 1 rfl ?_
  refine g_istore hC [(4, .int (nI a0)), (0, .ref (G.2.1 1)), (1, .int (nI a0)), (2, .int (nI goal)), (3, .int place)] dX4_roadOfWay_1 (by decide) rfl ?_
  refine g_iconst (v := nI 0) hC dX4_roadOfWay_3 (by decide) ?_
  refine g_istore hC [(5, .int (nI 0)), (4, .int (nI a0)), (0, .ref (G.2.1 1)), (1, .int (nI a0)), (2, .int (nI goal)), (3, .int place)] dX4_roadOfWay_4 (by decide) rfl ?_
  exact lp_6 13 0 a0 (by omega) (by omega) h2 rfl
end
section
set_option maxRecDepth 100000 in
theorem m_X1_forgetAll {l : Launch} {G : wG} (hl : l.stackTraces = false) (hG : wD G) (V : wV) (I : wI) (J : wJ)  : Ctr l yX1_forgetAll cX1_forgetAll 1 none { frames := 0, cells := 0, slots := 0, locals := 0 } G [.ref (G.2.1 5)] V I J (pU none (upd V 6 (nI 0)) I J) (noX) := by
  refine ctr_of hl hG (by decide) (Nat.le_of_ble_eq_true rfl) [(0, .ref (G.2.1 5))] rfl ?_
  intro K hC hKl hRm hr hT
  subst hKl
  have hC : Cx K G RX1 cX1_forgetAll 1 := hC
  refine g_aload_n hC dX1_forgetAll_0 rfl 0 rfl ?_
  refine g_iconst (v := nI 0) hC dX1_forgetAll_1 (by decide) ?_
  refine gp_X1_33 hC dX1_forgetAll_2 ?_
  exact g_vret hC hr dX1_forgetAll_5 (Nat.le_of_ble_eq_true rfl) (Nat.le_of_ble_eq_true rfl) ⟨rfl, rfl, rfl, rfl⟩

set_option maxRecDepth 100000 in
theorem m_X1_begin {l : Launch} {G : wG} (hl : l.stackTraces = false) (hG : wD G) (V : wV) (I : wI) (J : wJ) (c r : Nat) (m : Int32) (hn : V 6 = nI c) (h1 : c < 100) (h2 : r < 100) : Ctr l yX1_begin cX1_begin 5 none { frames := 0, cells := 0, slots := 0, locals := 0 } G [.ref (G.2.1 5), .int (nI r), .int m] V I J (pU none (upd V 6 (nI (c + 1))) (bgI I c r m) J) (noX) := by
  refine ctr_of hl hG (by decide) (Nat.le_of_ble_eq_true rfl) [(0, .ref (G.2.1 5)), (1, .int (nI r)), (2, .int m)] rfl ?_
  intro K hC hKl hRm hr hT
  subst hKl
  have hC : Cx K G RX1 cX1_begin 5 := hC
  refine g_aload_n hC dX1_begin_0 rfl 0 rfl ?_
  refine gf_X1_33 hC dX1_begin_1 ?_
  refine g_eqI (x' := nI c) (by rw [hn]) ?_
  refine g_istore_n hC [(3, .int (nI c)), (0, .ref (G.2.1 5)), (1, .int (nI r)), (2, .int m)] dX1_begin_4 rfl (by decide) rfl ?_
  refine g_aload_n hC dX1_begin_5 rfl 1 rfl ?_
  refine gf_X1_9 hC dX1_begin_6 ?_
  refine g_iload_n hC dX1_begin_9 rfl 0 rfl ?_
  refine g_iload_n hC dX1_begin_10 rfl 3 rfl ?_
  refine n_iast hC 24 aa_24 c (show c < 100 by omega) dX1_begin_11 ?_
  refine g_aload_n hC dX1_begin_12 rfl 1 rfl ?_
  refine gf_X1_15 hC dX1_begin_13 ?_
  refine g_iload_n hC dX1_begin_16 rfl 0 rfl ?_
  refine g_iload_n hC dX1_begin_17 rfl 3 rfl ?_
  refine n_iast hC 25 aa_25 c (show c < 100 by omega) dX1_begin_18 ?_
  refine g_aload_n hC dX1_begin_19 rfl 1 rfl ?_
  refine gf_X1_18 hC dX1_begin_20 ?_
  refine g_iload_n hC dX1_begin_23 rfl 0 rfl ?_
  refine g_iconst (v := nI 1) hC dX1_begin_24 (by decide) ?_
  refine n_iast hC 26 aa_26 c (show c < 100 by omega) dX1_begin_25 ?_
  refine g_iconst (v := nI 0) hC dX1_begin_26 (by decide) ?_
  refine g_istore hC [(4, .int (nI 0)), (3, .int (nI c)), (0, .ref (G.2.1 5)), (1, .int (nI r)), (2, .int m)] dX1_begin_27 (by decide) rfl ?_
  refine g_iload hC dX1_begin_29 0 rfl ?_
  refine g_iconst (v := nI 4) hC dX1_begin_31 (by decide) ?_
  refine g_icmp_ge hC 51 dX1_begin_32 (by decide) (fun c_32 => ?_) (fun c_32 => ?_)
  · exact absurd c_32 (by decide)
  · refine g_aload_n hC dX1_begin_35 rfl 2 rfl ?_
    refine gf_X1_23 hC dX1_begin_36 ?_
    refine g_iload hC dX1_begin_39 0 rfl ?_
    refine n_aald34 hC 0 (show 0 < 4 by omega) dX1_begin_41 ?_
    refine g_iload_n hC dX1_begin_42 rfl 1 rfl ?_
    refine g_iconst (v := nI 0) hC dX1_begin_43 (by decide) ?_
    refine n_iast hC (47 + 0) (ar_34 (show 0 < 4 by omega)) c (by rw [al_34 (show 0 < 4 by omega)]; omega) dX1_begin_44 ?_
    refine g_iinc (v := nI 1) hC [(4, .int (nI 1)), (3, .int (nI c)), (0, .ref (G.2.1 5)), (1, .int (nI r)), (2, .int m)] dX1_begin_45 0 rfl (nI_i1 _) (by decide) rfl ?_
    refine g_goto hC 29 dX1_begin_48 (by decide) ?_
    refine g_iload hC dX1_begin_29 0 rfl ?_
    refine g_iconst (v := nI 4) hC dX1_begin_31 (by decide) ?_
    refine g_icmp_ge hC 51 dX1_begin_32 (by decide) (fun c_32 => ?_) (fun c_32 => ?_)
    · exact absurd c_32 (by decide)
    · refine g_aload_n hC dX1_begin_35 rfl 2 rfl ?_
      refine gf_X1_23 hC dX1_begin_36 ?_
      refine g_iload hC dX1_begin_39 0 rfl ?_
      refine n_aald34 hC 1 (show 1 < 4 by omega) dX1_begin_41 ?_
      refine g_iload_n hC dX1_begin_42 rfl 1 rfl ?_
      refine g_iconst (v := nI 0) hC dX1_begin_43 (by decide) ?_
      refine n_iast hC (47 + 1) (ar_34 (show 1 < 4 by omega)) c (by rw [al_34 (show 1 < 4 by omega)]; omega) dX1_begin_44 ?_
      refine g_iinc (v := nI 2) hC [(4, .int (nI 2)), (3, .int (nI c)), (0, .ref (G.2.1 5)), (1, .int (nI r)), (2, .int m)] dX1_begin_45 0 rfl (nI_i1 _) (by decide) rfl ?_
      refine g_goto hC 29 dX1_begin_48 (by decide) ?_
      refine g_iload hC dX1_begin_29 0 rfl ?_
      refine g_iconst (v := nI 4) hC dX1_begin_31 (by decide) ?_
      refine g_icmp_ge hC 51 dX1_begin_32 (by decide) (fun c_32 => ?_) (fun c_32 => ?_)
      · exact absurd c_32 (by decide)
      · refine g_aload_n hC dX1_begin_35 rfl 2 rfl ?_
        refine gf_X1_23 hC dX1_begin_36 ?_
        refine g_iload hC dX1_begin_39 0 rfl ?_
        refine n_aald34 hC 2 (show 2 < 4 by omega) dX1_begin_41 ?_
        refine g_iload_n hC dX1_begin_42 rfl 1 rfl ?_
        refine g_iconst (v := nI 0) hC dX1_begin_43 (by decide) ?_
        refine n_iast hC (47 + 2) (ar_34 (show 2 < 4 by omega)) c (by rw [al_34 (show 2 < 4 by omega)]; omega) dX1_begin_44 ?_
        refine g_iinc (v := nI 3) hC [(4, .int (nI 3)), (3, .int (nI c)), (0, .ref (G.2.1 5)), (1, .int (nI r)), (2, .int m)] dX1_begin_45 0 rfl (nI_i1 _) (by decide) rfl ?_
        refine g_goto hC 29 dX1_begin_48 (by decide) ?_
        refine g_iload hC dX1_begin_29 0 rfl ?_
        refine g_iconst (v := nI 4) hC dX1_begin_31 (by decide) ?_
        refine g_icmp_ge hC 51 dX1_begin_32 (by decide) (fun c_32 => ?_) (fun c_32 => ?_)
        · exact absurd c_32 (by decide)
        · refine g_aload_n hC dX1_begin_35 rfl 2 rfl ?_
          refine gf_X1_23 hC dX1_begin_36 ?_
          refine g_iload hC dX1_begin_39 0 rfl ?_
          refine n_aald34 hC 3 (show 3 < 4 by omega) dX1_begin_41 ?_
          refine g_iload_n hC dX1_begin_42 rfl 1 rfl ?_
          refine g_iconst (v := nI 0) hC dX1_begin_43 (by decide) ?_
          refine n_iast hC (47 + 3) (ar_34 (show 3 < 4 by omega)) c (by rw [al_34 (show 3 < 4 by omega)]; omega) dX1_begin_44 ?_
          refine g_iinc (v := nI 4) hC [(4, .int (nI 4)), (3, .int (nI c)), (0, .ref (G.2.1 5)), (1, .int (nI r)), (2, .int m)] dX1_begin_45 0 rfl (nI_i1 _) (by decide) rfl ?_
          refine g_goto hC 29 dX1_begin_48 (by decide) ?_
          refine g_iload hC dX1_begin_29 0 rfl ?_
          refine g_iconst (v := nI 4) hC dX1_begin_31 (by decide) ?_
          refine g_icmp_ge hC 51 dX1_begin_32 (by decide) (fun c_32 => ?_) (fun c_32 => ?_)
          · refine g_aload_n hC dX1_begin_51 rfl 2 rfl ?_
            refine gf_X1_26 hC dX1_begin_52 ?_
            refine g_iload_n hC dX1_begin_55 rfl 3 rfl ?_
            refine g_iload_n hC dX1_begin_56 rfl 1 rfl ?_
            refine n_iast hC 27 aa_27 r (show r < 100 by omega) dX1_begin_57 ?_
            refine g_aload_n hC dX1_begin_58 rfl 2 rfl ?_
            refine gf_X1_29 hC dX1_begin_59 ?_
            refine g_iload_n hC dX1_begin_62 rfl 3 rfl ?_
            refine g_iconst (v := nI 0) hC dX1_begin_63 (by decide) ?_
            refine n_zast hC 28 aa_28 r (show r < 100 by omega) rfl dX1_begin_64 ?_
            refine g_aload_n hC dX1_begin_65 rfl 2 rfl ?_
            refine g_dup hC dX1_begin_66 rfl ?_
            refine gf_X1_33 hC dX1_begin_67 ?_
            refine g_eqI (x' := nI c) (by rw [hn]) ?_
            refine g_iconst (v := nI 1) hC dX1_begin_70 (by decide) ?_
            refine g_iadd hC dX1_begin_71 ?_
            refine g_eqI (x' := nI (c + 1)) (nI_add _ _) ?_
            refine gp_X1_33 hC dX1_begin_72 ?_
            exact g_vret hC hr dX1_begin_75 (Nat.le_of_ble_eq_true rfl) (Nat.le_of_ble_eq_true rfl) ⟨rfl, rfl, rfl, rfl⟩
          · exact absurd c_32 (by decide)

set_option maxRecDepth 100000 in
theorem m_X1_goOn {l : Launch} {G : wG} (hl : l.stackTraces = false) (hG : wD G) (V : wV) (I : wI) (J : wJ) (r j : Nat) (m : Int32) (h1 : j < 100) (h2 : r < 100) : Ctr l yX1_goOn cX1_goOn 4 none { frames := 0, cells := 0, slots := 0, locals := 0 } G [.ref (G.2.1 5), .int (nI r), .int (nI j), .int m] V I J (pU none V (goI I r j m) J) (noX) := by
  refine ctr_of hl hG (by decide) (Nat.le_of_ble_eq_true rfl) [(0, .ref (G.2.1 5)), (1, .int (nI r)), (2, .int (nI j)), (3, .int m)] rfl ?_
  intro K hC hKl hRm hr hT
  subst hKl
  have hC : Cx K G RX1 cX1_goOn 4 := hC
  refine g_aload_n hC dX1_goOn_0 rfl 0 rfl ?_
  refine gf_X1_15 hC dX1_goOn_1 ?_
  refine g_iload_n hC dX1_goOn_4 rfl 2 rfl ?_
  refine g_iload_n hC dX1_goOn_5 rfl 3 rfl ?_
  refine n_iast hC 25 aa_25 j (show j < 100 by omega) dX1_goOn_6 ?_
  refine g_aload_n hC dX1_goOn_7 rfl 0 rfl ?_
  refine gf_X1_18 hC dX1_goOn_8 ?_
  refine g_iload_n hC dX1_goOn_11 rfl 2 rfl ?_
  refine g_dup2 hC dX1_goOn_12 rfl rfl ?_
  refine n_iald hC 26 aa_26 j (show j < 100 by omega) dX1_goOn_13 ?_
  refine g_eqI (x' := I 26 j) (by rw [uI_n (by decide)]) ?_
  refine g_iconst (v := nI 1) hC dX1_goOn_14 (by decide) ?_
  refine g_iadd hC dX1_goOn_15 ?_
  refine n_iast hC 26 aa_26 j (show j < 100 by omega) dX1_goOn_16 ?_
  refine g_aload_n hC dX1_goOn_17 rfl 0 rfl ?_
  refine gf_X1_26 hC dX1_goOn_18 ?_
  refine g_iload_n hC dX1_goOn_21 rfl 1 rfl ?_
  refine g_iload_n hC dX1_goOn_22 rfl 2 rfl ?_
  refine n_iast hC 27 aa_27 r (show r < 100 by omega) dX1_goOn_23 ?_
  refine g_aload_n hC dX1_goOn_24 rfl 0 rfl ?_
  refine gf_X1_29 hC dX1_goOn_25 ?_
  refine g_iload_n hC dX1_goOn_28 rfl 1 rfl ?_
  refine g_iconst (v := nI 0) hC dX1_goOn_29 (by decide) ?_
  refine n_zast hC 28 aa_28 r (show r < 100 by omega) rfl dX1_goOn_30 ?_
  exact g_vret hC hr dX1_goOn_31 (Nat.le_of_ble_eq_true rfl) (Nat.le_of_ble_eq_true rfl) ⟨rfl, rfl, rfl, rfl⟩

set_option maxRecDepth 100000 in
theorem m_X1_putDouble {l : Launch} {G : wG} (hl : l.stackTraces = false) (hG : wD G) (V : wV) (I : wI) (J : wJ) (r j : Nat) (h1 : j < 100) (h2 : r < 100) : Ctr l yX1_putDouble cX1_putDouble 3 none { frames := 0, cells := 0, slots := 0, locals := 0 } G [.ref (G.2.1 5), .int (nI r), .int (nI j)] V I J (pU none V (pdI I r j) J) (noX) := by
  refine ctr_of hl hG (by decide) (Nat.le_of_ble_eq_true rfl) [(0, .ref (G.2.1 5)), (1, .int (nI r)), (2, .int (nI j))] rfl ?_
  intro K hC hKl hRm hr hT
  subst hKl
  have hC : Cx K G RX1 cX1_putDouble 3 := hC
  refine g_aload_n hC dX1_putDouble_0 rfl 0 rfl ?_
  refine gf_X1_26 hC dX1_putDouble_1 ?_
  refine g_iload_n hC dX1_putDouble_4 rfl 1 rfl ?_
  refine g_iload_n hC dX1_putDouble_5 rfl 2 rfl ?_
  refine n_iast hC 27 aa_27 r (show r < 100 by omega) dX1_putDouble_6 ?_
  refine g_aload_n hC dX1_putDouble_7 rfl 0 rfl ?_
  refine gf_X1_29 hC dX1_putDouble_8 ?_
  refine g_iload_n hC dX1_putDouble_11 rfl 1 rfl ?_
  refine g_iconst (v := nI 1) hC dX1_putDouble_12 (by decide) ?_
  refine n_zast hC 28 aa_28 r (show r < 100 by omega) rfl dX1_putDouble_13 ?_
  exact g_vret hC hr dX1_putDouble_14 (Nat.le_of_ble_eq_true rfl) (Nat.le_of_ble_eq_true rfl) ⟨rfl, rfl, rfl, rfl⟩

set_option maxRecDepth 100000 in
theorem m_X1_pay {l : Launch} {G : wG} (hl : l.stackTraces = false) (hG : wD G) (V : wV) (I : wI) (J : wJ) (j o : Nat) (x : Int32) (h1 : j < 100) (h2 : o < 4) : Ctr l yX1_pay cX1_pay 4 none { frames := 0, cells := 0, slots := 0, locals := 0 } G [.ref (G.2.1 5), .int (nI j), .int (nI o), .int x] V I J (pU none V (sI I (47 + o) j (I (47 + o) j + x)) J) (noX) := by
  refine ctr_of hl hG (by decide) (Nat.le_of_ble_eq_true rfl) [(0, .ref (G.2.1 5)), (1, .int (nI j)), (2, .int (nI o)), (3, .int x)] rfl ?_
  intro K hC hKl hRm hr hT
  subst hKl
  have hC : Cx K G RX1 cX1_pay 4 := hC
  refine g_aload_n hC dX1_pay_0 rfl 0 rfl ?_
  refine gf_X1_23 hC dX1_pay_1 ?_
  refine g_iload_n hC dX1_pay_4 rfl 2 rfl ?_
  refine n_aald34 hC o (show o < 4 by omega) dX1_pay_5 ?_
  refine g_iload_n hC dX1_pay_6 rfl 1 rfl ?_
  refine g_dup2 hC dX1_pay_7 rfl rfl ?_
  refine n_iald hC (47 + o) (ar_34 (show o < 4 by omega)) j (by rw [al_34 (show o < 4 by omega)]; omega) dX1_pay_8 ?_
  refine g_iload_n hC dX1_pay_9 rfl 3 rfl ?_
  refine g_iadd hC dX1_pay_10 ?_
  refine n_iast hC (47 + o) (ar_34 (show o < 4 by omega)) j (by rw [al_34 (show o < 4 by omega)]; omega) dX1_pay_11 ?_
  exact g_vret hC hr dX1_pay_12 (Nat.le_of_ble_eq_true rfl) (Nat.le_of_ble_eq_true rfl) ⟨rfl, rfl, rfl, rfl⟩

set_option maxRecDepth 100000 in
theorem m_X1_wholeOf {l : Launch} {G : wG} (hl : l.stackTraces = false) (hG : wD G) (V : wV) (I : wI) (J : wJ) (j : Nat) (h1 : j < 100) : Ctr l yX1_wholeOf cX1_wholeOf 4 (some .int) { frames := 0, cells := 0, slots := 0, locals := 0 } G [.ref (G.2.1 5), .int (nI j)] V I J (pU (some (.int (wh I j))) V I J) (noX) := by
  refine ctr_of hl hG (by decide) (Nat.le_of_ble_eq_true rfl) [(0, .ref (G.2.1 5)), (1, .int (nI j))] rfl ?_
  intro K hC hKl hRm hr hT
  subst hKl
  have hC : Cx K G RX1 cX1_wholeOf 4 := hC
  refine g_iconst (v := nI 0) hC dX1_wholeOf_0 (by decide) ?_
  refine g_istore_n hC [(2, .int (nI 0)), (0, .ref (G.2.1 5)), (1, .int (nI j))] dX1_wholeOf_1 rfl (by decide) rfl ?_
  refine g_iconst (v := nI 0) hC dX1_wholeOf_2 (by decide) ?_
  refine g_istore_n hC [(3, .int (nI 0)), (2, .int (nI 0)), (0, .ref (G.2.1 5)), (1, .int (nI j))] dX1_wholeOf_3 rfl (by decide) rfl ?_
  refine g_iload_n hC dX1_wholeOf_4 rfl 0 rfl ?_
  refine g_iconst (v := nI 4) hC dX1_wholeOf_5 (by decide) ?_
  refine g_icmp_ge hC 26 dX1_wholeOf_6 (by decide) (fun c_6 => ?_) (fun c_6 => ?_)
  · exact absurd c_6 (by decide)
  · refine g_iload_n hC dX1_wholeOf_9 rfl 1 rfl ?_
    refine g_aload_n hC dX1_wholeOf_10 rfl 2 rfl ?_
    refine gf_X1_23 hC dX1_wholeOf_11 ?_
    refine g_iload_n hC dX1_wholeOf_14 rfl 0 rfl ?_
    refine n_aald34 hC 0 (show 0 < 4 by omega) dX1_wholeOf_15 ?_
    refine g_iload_n hC dX1_wholeOf_16 rfl 3 rfl ?_
    refine n_iald hC (47 + 0) (ar_34 (show 0 < 4 by omega)) j (by rw [al_34 (show 0 < 4 by omega)]; omega) dX1_wholeOf_17 ?_
    refine g_iadd hC dX1_wholeOf_18 ?_
    refine g_istore_n hC [(2, .int ((nI 0) + (I (47 + 0) j))), (3, .int (nI 0)), (0, .ref (G.2.1 5)), (1, .int (nI j))] dX1_wholeOf_19 rfl (by decide) rfl ?_
    refine g_iinc (v := nI 1) hC [(3, .int (nI 1)), (2, .int ((nI 0) + (I (47 + 0) j))), (0, .ref (G.2.1 5)), (1, .int (nI j))] dX1_wholeOf_20 1 rfl (nI_i1 _) (by decide) rfl ?_
    refine g_goto hC 4 dX1_wholeOf_23 (by decide) ?_
    refine g_iload_n hC dX1_wholeOf_4 rfl 0 rfl ?_
    refine g_iconst (v := nI 4) hC dX1_wholeOf_5 (by decide) ?_
    refine g_icmp_ge hC 26 dX1_wholeOf_6 (by decide) (fun c_6 => ?_) (fun c_6 => ?_)
    · exact absurd c_6 (by decide)
    · refine g_iload_n hC dX1_wholeOf_9 rfl 1 rfl ?_
      refine g_aload_n hC dX1_wholeOf_10 rfl 2 rfl ?_
      refine gf_X1_23 hC dX1_wholeOf_11 ?_
      refine g_iload_n hC dX1_wholeOf_14 rfl 0 rfl ?_
      refine n_aald34 hC 1 (show 1 < 4 by omega) dX1_wholeOf_15 ?_
      refine g_iload_n hC dX1_wholeOf_16 rfl 3 rfl ?_
      refine n_iald hC (47 + 1) (ar_34 (show 1 < 4 by omega)) j (by rw [al_34 (show 1 < 4 by omega)]; omega) dX1_wholeOf_17 ?_
      refine g_iadd hC dX1_wholeOf_18 ?_
      refine g_istore_n hC [(2, .int (((nI 0) + (I (47 + 0) j)) + (I (47 + 1) j))), (3, .int (nI 1)), (0, .ref (G.2.1 5)), (1, .int (nI j))] dX1_wholeOf_19 rfl (by decide) rfl ?_
      refine g_iinc (v := nI 2) hC [(3, .int (nI 2)), (2, .int (((nI 0) + (I (47 + 0) j)) + (I (47 + 1) j))), (0, .ref (G.2.1 5)), (1, .int (nI j))] dX1_wholeOf_20 1 rfl (nI_i1 _) (by decide) rfl ?_
      refine g_goto hC 4 dX1_wholeOf_23 (by decide) ?_
      refine g_iload_n hC dX1_wholeOf_4 rfl 0 rfl ?_
      refine g_iconst (v := nI 4) hC dX1_wholeOf_5 (by decide) ?_
      refine g_icmp_ge hC 26 dX1_wholeOf_6 (by decide) (fun c_6 => ?_) (fun c_6 => ?_)
      · exact absurd c_6 (by decide)
      · refine g_iload_n hC dX1_wholeOf_9 rfl 1 rfl ?_
        refine g_aload_n hC dX1_wholeOf_10 rfl 2 rfl ?_
        refine gf_X1_23 hC dX1_wholeOf_11 ?_
        refine g_iload_n hC dX1_wholeOf_14 rfl 0 rfl ?_
        refine n_aald34 hC 2 (show 2 < 4 by omega) dX1_wholeOf_15 ?_
        refine g_iload_n hC dX1_wholeOf_16 rfl 3 rfl ?_
        refine n_iald hC (47 + 2) (ar_34 (show 2 < 4 by omega)) j (by rw [al_34 (show 2 < 4 by omega)]; omega) dX1_wholeOf_17 ?_
        refine g_iadd hC dX1_wholeOf_18 ?_
        refine g_istore_n hC [(2, .int ((((nI 0) + (I (47 + 0) j)) + (I (47 + 1) j)) + (I (47 + 2) j))), (3, .int (nI 2)), (0, .ref (G.2.1 5)), (1, .int (nI j))] dX1_wholeOf_19 rfl (by decide) rfl ?_
        refine g_iinc (v := nI 3) hC [(3, .int (nI 3)), (2, .int ((((nI 0) + (I (47 + 0) j)) + (I (47 + 1) j)) + (I (47 + 2) j))), (0, .ref (G.2.1 5)), (1, .int (nI j))] dX1_wholeOf_20 1 rfl (nI_i1 _) (by decide) rfl ?_
        refine g_goto hC 4 dX1_wholeOf_23 (by decide) ?_
        refine g_iload_n hC dX1_wholeOf_4 rfl 0 rfl ?_
        refine g_iconst (v := nI 4) hC dX1_wholeOf_5 (by decide) ?_
        refine g_icmp_ge hC 26 dX1_wholeOf_6 (by decide) (fun c_6 => ?_) (fun c_6 => ?_)
        · exact absurd c_6 (by decide)
        · refine g_iload_n hC dX1_wholeOf_9 rfl 1 rfl ?_
          refine g_aload_n hC dX1_wholeOf_10 rfl 2 rfl ?_
          refine gf_X1_23 hC dX1_wholeOf_11 ?_
          refine g_iload_n hC dX1_wholeOf_14 rfl 0 rfl ?_
          refine n_aald34 hC 3 (show 3 < 4 by omega) dX1_wholeOf_15 ?_
          refine g_iload_n hC dX1_wholeOf_16 rfl 3 rfl ?_
          refine n_iald hC (47 + 3) (ar_34 (show 3 < 4 by omega)) j (by rw [al_34 (show 3 < 4 by omega)]; omega) dX1_wholeOf_17 ?_
          refine g_iadd hC dX1_wholeOf_18 ?_
          refine g_istore_n hC [(2, .int (((((nI 0) + (I (47 + 0) j)) + (I (47 + 1) j)) + (I (47 + 2) j)) + (I (47 + 3) j))), (3, .int (nI 3)), (0, .ref (G.2.1 5)), (1, .int (nI j))] dX1_wholeOf_19 rfl (by decide) rfl ?_
          refine g_iinc (v := nI 4) hC [(3, .int (nI 4)), (2, .int (((((nI 0) + (I (47 + 0) j)) + (I (47 + 1) j)) + (I (47 + 2) j)) + (I (47 + 3) j))), (0, .ref (G.2.1 5)), (1, .int (nI j))] dX1_wholeOf_20 1 rfl (nI_i1 _) (by decide) rfl ?_
          refine g_goto hC 4 dX1_wholeOf_23 (by decide) ?_
          refine g_iload_n hC dX1_wholeOf_4 rfl 0 rfl ?_
          refine g_iconst (v := nI 4) hC dX1_wholeOf_5 (by decide) ?_
          refine g_icmp_ge hC 26 dX1_wholeOf_6 (by decide) (fun c_6 => ?_) (fun c_6 => ?_)
          · refine g_iload_n hC dX1_wholeOf_26 rfl 1 rfl ?_
            exact g_iret hC hr dX1_wholeOf_27 (Nat.le_of_ble_eq_true rfl) (Nat.le_of_ble_eq_true rfl) ⟨rfl, rfl, rfl, rfl⟩
          · exact absurd c_6 (by decide)

set_option maxRecDepth 100000 in
theorem m_X1_fareOf {l : Launch} {G : wG} (hl : l.stackTraces = false) (hG : wD G) (V : wV) (I : wI) (J : wJ) (j : Nat) (m : Int32) (h1 : j < 100) : Ctr l yX1_fareOf cX1_fareOf 3 (some .int) { frames := 1, cells := 0, slots := 0, locals := 23 } G [.ref (G.2.1 5), .int (nI j), .int m] V I J (pU (some (.int (fr I j m))) V I J) (noX) := by
  refine ctr_of hl hG (by decide) (Nat.le_of_ble_eq_true rfl) [(0, .ref (G.2.1 5)), (1, .int (nI j)), (2, .int m)] rfl ?_
  intro K hC hKl hRm hr hT
  subst hKl
  have hC : Cx K G RX1 cX1_fareOf 3 := hC
  refine g_aload_n hC dX1_fareOf_0 rfl 0 rfl ?_
  refine g_iload_n hC dX1_fareOf_1 rfl 1 rfl ?_
  refine g_cV hC [.int (nI j)] 5 (m_X1_wholeOf hl hG V I J j (by omega)) rfl (st2 := [.int (wh I j)]) rfl (by decide) rfl rfl rfl tw_339 tw_341 tw_5 tw_36 tw_342 pd_X1_wholeOf ⟨rfl, rfl⟩ (by rw [hRm]; exact ⟨Nat.le_of_ble_eq_true rfl, Nat.le_of_ble_eq_true rfl, Nat.le_of_ble_eq_true rfl, Nat.le_of_ble_eq_true rfl⟩) (Nat.le_of_ble_eq_true rfl) dX1_fareOf_2 ?_
  refine g_iload_n hC dX1_fareOf_5 rfl 2 rfl ?_
  refine g_min hC tw_343 tw_min_s tw_min_i tw_min_c (by rw [hRm]; decide) (by rw [hRm]; exact Nat.le_of_ble_eq_true rfl) (by rw [hRm]; exact Nat.le_of_ble_eq_true rfl) (by rw [hRm]; exact Nat.le_of_ble_eq_true rfl) dX1_fareOf_6 ?_
  exact g_iret hC hr dX1_fareOf_9 (Nat.le_of_ble_eq_true rfl) (Nat.le_of_ble_eq_true rfl) ⟨rfl, rfl, rfl, rfl⟩

set_option maxRecDepth 100000 in
theorem m_X1_cutShare {l : Launch} {G : wG} (hl : l.stackTraces = false) (hG : wD G) (V : wV) (I : wI) (J : wJ) (j o : Nat) (m w : Int32) (h1 : j < 100) (h2 : o < 4) : Ctr l yX1_cutShare cX1_cutShare 5 (some .int) { frames := 0, cells := 0, slots := 0, locals := 0 } G [.ref (G.2.1 5), .int (nI j), .int (nI o), .int m, .int w] V I J (pU (some (.int (cs I j o m w))) V I J) (noX) := by
  refine ctr_of hl hG (by decide) (Nat.le_of_ble_eq_true rfl) [(0, .ref (G.2.1 5)), (1, .int (nI j)), (2, .int (nI o)), (3, .int m), (4, .int w)] rfl ?_
  intro K hC hKl hRm hr hT
  subst hKl
  have hC : Cx K G RX1 cX1_cutShare 5 := hC
  refine g_iload hC dX1_cutShare_0 4 rfl ?_
  refine g_if_gt hC 7 dX1_cutShare_2 (by decide) (fun c_2 => ?_) (fun c_2 => ?_)
  · refine g_aload_n hC dX1_cutShare_7 rfl 0 rfl ?_
    refine gf_X1_23 hC dX1_cutShare_8 ?_
    refine g_iload_n hC dX1_cutShare_11 rfl 2 rfl ?_
    refine n_aald34 hC o (show o < 4 by omega) dX1_cutShare_12 ?_
    refine g_iload_n hC dX1_cutShare_13 rfl 1 rfl ?_
    refine n_iald hC (47 + o) (ar_34 (show o < 4 by omega)) j (by rw [al_34 (show o < 4 by omega)]; omega) dX1_cutShare_14 ?_
    refine g_i2l hC dX1_cutShare_15 ?_
    refine g_iload_n hC dX1_cutShare_16 rfl 3 rfl ?_
    refine g_i2l hC dX1_cutShare_17 ?_
    refine g_lmul hC dX1_cutShare_18 ?_
    refine g_iload hC dX1_cutShare_19 4 rfl ?_
    refine g_i2l hC dX1_cutShare_21 ?_
    refine g_ldiv hC dX1_cutShare_22 (w64_ne c_2) ?_
    refine g_l2i hC dX1_cutShare_23 ?_
    exact g_iret hC hr dX1_cutShare_24 (Nat.le_of_ble_eq_true rfl) (Nat.le_of_ble_eq_true rfl) ⟨by unfold cs; rw [if_pos c_2], rfl, rfl, rfl⟩
  · refine g_iconst (v := nI 0) hC dX1_cutShare_5 (by decide) ?_
    exact g_iret hC hr dX1_cutShare_6 (Nat.le_of_ble_eq_true rfl) (Nat.le_of_ble_eq_true rfl) ⟨by unfold cs; rw [if_neg c_2], rfl, rfl, rfl⟩

set_option maxRecDepth 100000 in
theorem m_X1_ownerOfTheMost {l : Launch} {G : wG} (hl : l.stackTraces = false) (hG : wD G) (V : wV) (I : wI) (J : wJ) (j : Nat) (h1 : j < 100) : Ctr l yX1_ownerOfTheMost cX1_ownerOfTheMost 4 (some .int) { frames := 0, cells := 0, slots := 0, locals := 0 } G [.ref (G.2.1 5), .int (nI j)] V I J (pU (some (.int (nI (bO I j 3)))) V I J) (noX) := by
  refine ctr_of hl hG (by decide) (Nat.le_of_ble_eq_true rfl) [(0, .ref (G.2.1 5)), (1, .int (nI j))] rfl ?_
  intro K hC hKl hRm hr hT
  subst hKl
  have hC : Cx K G RX1 cX1_ownerOfTheMost 4 := hC
  have lp_4 : ∀ (k9 : Nat) (k : Nat) (hk : k ≤ 3) (hk9 : 3 < k + k9), WW K G 0 0 (QM K G { frames := 0, cells := 0, slots := 0, locals := 0 } (pU (some (.int (nI (bO I j 3)))) V I J) (noX)) V I J 4 [(3, .int (nI (k + 1))), (2, .int (nI (bO I j k))), (0, .ref (G.2.1 5)), (1, .int (nI j))] [] := by
    intro k9
    induction k9 with
    | zero =>
      intro k hk hk9
      omega
    | succ k9 ih =>
      intro k hk hk9
      have hb := bO_le I j k
      refine g_iload_n hC dX1_ownerOfTheMost_4 rfl 0 rfl ?_
      refine g_iconst (v := nI 4) hC dX1_ownerOfTheMost_5 (by decide) ?_
      refine g_icmp_ge hC 36 dX1_ownerOfTheMost_6 (by decide) (fun c_6 => ?_) (fun c_6 => ?_)
      · have d_6 : 4 ≤ (k + 1) := (nI_leI (by omega) (by omega)).mp c_6
        refine g_iload_n hC dX1_ownerOfTheMost_36 rfl 1 rfl ?_
        exact g_iret hC hr dX1_ownerOfTheMost_37 (Nat.le_of_ble_eq_true rfl) (Nat.le_of_ble_eq_true rfl) ⟨by rw [show k = 3 by omega], rfl, rfl, rfl⟩
      · have d_6 : ¬ 4 ≤ (k + 1) := fun q => c_6 ((nI_leI (by omega) (by omega)).mpr q)
        refine g_aload_n hC dX1_ownerOfTheMost_9 rfl 2 rfl ?_
        refine gf_X1_23 hC dX1_ownerOfTheMost_10 ?_
        refine g_iload_n hC dX1_ownerOfTheMost_13 rfl 0 rfl ?_
        refine n_aald34 hC (k + 1) (show k + 1 < 4 by omega) dX1_ownerOfTheMost_14 ?_
        refine g_iload_n hC dX1_ownerOfTheMost_15 rfl 3 rfl ?_
        refine n_iald hC (47 + (k + 1)) (ar_34 (show (k + 1) < 4 by omega)) j (by rw [al_34 (show (k + 1) < 4 by omega)]; omega) dX1_ownerOfTheMost_16 ?_
        refine g_aload_n hC dX1_ownerOfTheMost_17 rfl 2 rfl ?_
        refine gf_X1_23 hC dX1_ownerOfTheMost_18 ?_
        refine g_iload_n hC dX1_ownerOfTheMost_21 rfl 1 rfl ?_
        refine n_aald34 hC (bO I j k) (show bO I j k < 4 by omega) dX1_ownerOfTheMost_22 ?_
        refine g_iload_n hC dX1_ownerOfTheMost_23 rfl 3 rfl ?_
        refine n_iald hC (47 + (bO I j k)) (ar_34 (show (bO I j k) < 4 by omega)) j (by rw [al_34 (show (bO I j k) < 4 by omega)]; omega) dX1_ownerOfTheMost_24 ?_
        refine g_icmp_le hC 30 dX1_ownerOfTheMost_25 (by decide) (fun c_25 => ?_) (fun c_25 => ?_)
        · refine g_iinc (v := nI ((k + 1) + 1)) hC [(3, .int (nI ((k + 1) + 1))), (2, .int (nI (bO I j k))), (0, .ref (G.2.1 5)), (1, .int (nI j))] dX1_ownerOfTheMost_30 0 rfl (nI_i1 _) (by decide) rfl ?_
          refine g_goto hC 4 dX1_ownerOfTheMost_33 (by decide) ?_
          refine g_at rfl (lv2 := [(3, .int (nI (k + 1 + 1))), (2, .int (nI (bO I j (k + 1)))), (0, .ref (G.2.1 5)), (1, .int (nI j))]) (by rw [show bO I j (k + 1) = (if I (47 + (k + 1)) j ≤ I (47 + bO I j k) j then bO I j k else k + 1) from rfl]; first | rw [if_pos c_25] | rw [if_neg c_25]) rfl ?_
          exact ih (k + 1) (by omega) (by omega)
        · refine g_iload_n hC dX1_ownerOfTheMost_28 rfl 0 rfl ?_
          refine g_istore_n hC [(2, .int (nI (k + 1))), (3, .int (nI (k + 1))), (0, .ref (G.2.1 5)), (1, .int (nI j))] dX1_ownerOfTheMost_29 rfl (by decide) rfl ?_
          refine g_iinc (v := nI ((k + 1) + 1)) hC [(3, .int (nI ((k + 1) + 1))), (2, .int (nI (k + 1))), (0, .ref (G.2.1 5)), (1, .int (nI j))] dX1_ownerOfTheMost_30 1 rfl (nI_i1 _) (by decide) rfl ?_
          refine g_goto hC 4 dX1_ownerOfTheMost_33 (by decide) ?_
          refine g_at rfl (lv2 := [(3, .int (nI (k + 1 + 1))), (2, .int (nI (bO I j (k + 1)))), (0, .ref (G.2.1 5)), (1, .int (nI j))]) (by rw [show bO I j (k + 1) = (if I (47 + (k + 1)) j ≤ I (47 + bO I j k) j then bO I j k else k + 1) from rfl]; first | rw [if_pos c_25] | rw [if_neg c_25]) rfl ?_
          exact ih (k + 1) (by omega) (by omega)
  refine g_iconst (v := nI 0) hC dX1_ownerOfTheMost_0 (by decide) ?_
  refine g_istore_n hC [(2, .int (nI 0)), (0, .ref (G.2.1 5)), (1, .int (nI j))] dX1_ownerOfTheMost_1 rfl (by decide) rfl ?_
  refine g_iconst (v := nI 1) hC dX1_ownerOfTheMost_2 (by decide) ?_
  refine g_istore_n hC [(3, .int (nI 1)), (2, .int (nI 0)), (0, .ref (G.2.1 5)), (1, .int (nI j))] dX1_ownerOfTheMost_3 rfl (by decide) rfl ?_
  exact lp_4 4 0 (by omega) (by omega)

set_option maxRecDepth 100000 in
theorem m_X1_shareOf {l : Launch} {G : wG} (hl : l.stackTraces = false) (hG : wD G) (V : wV) (I : wI) (J : wJ) (j o : Nat) (m : Int32) (h1 : j < 100) (h2 : o < 4) : Ctr l yX1_shareOf cX1_shareOf 7 (some .int) { frames := 1, cells := 0, slots := 0, locals := 24 } G [.ref (G.2.1 5), .int (nI j), .int (nI o), .int m] V I J (pU (some (.int (shr I j o m))) V I J) (noX) := by
  refine ctr_of hl hG (by decide) (Nat.le_of_ble_eq_true rfl) [(0, .ref (G.2.1 5)), (1, .int (nI j)), (2, .int (nI o)), (3, .int m)] rfl ?_
  intro K hC hKl hRm hr hT
  subst hKl
  have hC : Cx K G RX1 cX1_shareOf 7 := hC
  have hb := bO_le I j 3
  have lp_47 : ∀ (k9 : Nat) (a : Nat) (ha : a ≤ 4) (hk : 4 < a + k9) (hw : m < wh I j) (ho : o = bO I j 3), WW K G 0 0 (QM K G { frames := 1, cells := 0, slots := 0, locals := 24 } (pU (some (.int (shr I j o m))) V I J) (noX)) V I J 47 [(6, .int (nI a)), (5, .int (lf I j o m (wh I j) a)), (4, .int (wh I j)), (0, .ref (G.2.1 5)), (1, .int (nI j)), (2, .int (nI o)), (3, .int m)] [] := by
    intro k9
    induction k9 with
    | zero =>
      intro a ha hk hw ho
      omega
    | succ k9 ih =>
      intro a ha hk hw ho
      refine g_iload hC dX1_shareOf_47 0 rfl ?_
      refine g_iconst (v := nI 4) hC dX1_shareOf_49 (by decide) ?_
      refine g_icmp_ge hC 80 dX1_shareOf_50 (by decide) (fun c_50 => ?_) (fun c_50 => ?_)
      · have d_50 : 4 ≤ a := (nI_leI (by omega) (by omega)).mp c_50
        refine g_iload hC dX1_shareOf_80 1 rfl ?_
        exact g_iret hC hr dX1_shareOf_82 (Nat.le_of_ble_eq_true rfl) (Nat.le_of_ble_eq_true rfl) ⟨by unfold shr; rw [if_pos hw, if_pos ho, show a = 4 by omega], rfl, rfl, rfl⟩
      · have d_50 : ¬ 4 ≤ a := fun q => c_50 ((nI_leI (by omega) (by omega)).mpr q)
        refine g_iload hC dX1_shareOf_53 0 rfl ?_
        refine g_iload_n hC dX1_shareOf_55 rfl 5 rfl ?_
        refine g_icmp_eq hC 74 dX1_shareOf_56 (by decide) (fun c_56 => ?_) (fun c_56 => ?_)
        · have d_56 : a = o := (nI_eq (by omega) (by omega)).mp c_56
          refine g_iinc (v := nI (a + 1)) hC [(6, .int (nI (a + 1))), (5, .int (lf I j o m (wh I j) a)), (4, .int (wh I j)), (0, .ref (G.2.1 5)), (1, .int (nI j)), (2, .int (nI o)), (3, .int m)] dX1_shareOf_74 0 rfl (nI_i1 _) (by decide) rfl ?_
          refine g_goto hC 47 dX1_shareOf_77 (by decide) ?_
          refine g_at rfl (lv2 := [(6, .int (nI (a + 1))), (5, .int (lf I j o m (wh I j) (a + 1))), (4, .int (wh I j)), (0, .ref (G.2.1 5)), (1, .int (nI j)), (2, .int (nI o)), (3, .int m)]) (by rw [show lf I j o m (wh I j) (a + 1) = (if a = o then lf I j o m (wh I j) a else lf I j o m (wh I j) a - cs I j a m (wh I j)) from rfl]; first | rw [if_pos d_56] | rw [if_neg d_56]) rfl ?_
          exact ih (a + 1) (by omega) (by omega) hw ho
        · have d_56 : ¬ a = o := fun q => c_56 ((nI_eq (by omega) (by omega)).mpr q)
          refine g_iload hC dX1_shareOf_59 1 rfl ?_
          refine g_aload_n hC dX1_shareOf_61 rfl 3 rfl ?_
          refine g_iload_n hC dX1_shareOf_62 rfl 4 rfl ?_
          refine g_iload hC dX1_shareOf_63 0 rfl ?_
          refine g_iload_n hC dX1_shareOf_65 rfl 6 rfl ?_
          refine g_iload hC dX1_shareOf_66 2 rfl ?_
          refine g_cV hC [.int (nI j), .int (nI a), .int m, .int (wh I j)] 5 (m_X1_cutShare hl hG V I J j a m (wh I j) (by omega) (by omega)) rfl (st2 := [.int (cs I j a m (wh I j)), .int (lf I j o m (wh I j) a)]) rfl (by decide) rfl rfl rfl tw_362 tw_364 tw_7 tw_36 tw_365 pd_X1_cutShare ⟨rfl, rfl⟩ (by rw [hRm]; exact ⟨Nat.le_of_ble_eq_true rfl, Nat.le_of_ble_eq_true rfl, Nat.le_of_ble_eq_true rfl, Nat.le_of_ble_eq_true rfl⟩) (Nat.le_of_ble_eq_true rfl) dX1_shareOf_68 ?_
          refine g_isub hC dX1_shareOf_71 ?_
          refine g_istore hC [(5, .int ((lf I j o m (wh I j) a) - (cs I j a m (wh I j)))), (6, .int (nI a)), (4, .int (wh I j)), (0, .ref (G.2.1 5)), (1, .int (nI j)), (2, .int (nI o)), (3, .int m)] dX1_shareOf_72 (by decide) rfl ?_
          refine g_iinc (v := nI (a + 1)) hC [(6, .int (nI (a + 1))), (5, .int ((lf I j o m (wh I j) a) - (cs I j a m (wh I j)))), (4, .int (wh I j)), (0, .ref (G.2.1 5)), (1, .int (nI j)), (2, .int (nI o)), (3, .int m)] dX1_shareOf_74 1 rfl (nI_i1 _) (by decide) rfl ?_
          refine g_goto hC 47 dX1_shareOf_77 (by decide) ?_
          refine g_at rfl (lv2 := [(6, .int (nI (a + 1))), (5, .int (lf I j o m (wh I j) (a + 1))), (4, .int (wh I j)), (0, .ref (G.2.1 5)), (1, .int (nI j)), (2, .int (nI o)), (3, .int m)]) (by rw [show lf I j o m (wh I j) (a + 1) = (if a = o then lf I j o m (wh I j) a else lf I j o m (wh I j) a - cs I j a m (wh I j)) from rfl]; first | rw [if_pos d_56] | rw [if_neg d_56]) rfl ?_
          exact ih (a + 1) (by omega) (by omega) hw ho
  refine g_aload_n hC dX1_shareOf_0 rfl 0 rfl ?_
  refine g_iload_n hC dX1_shareOf_1 rfl 1 rfl ?_
  refine g_cV hC [.int (nI j)] 5 (m_X1_wholeOf hl hG V I J j (by omega)) rfl (st2 := [.int (wh I j)]) rfl (by decide) rfl rfl rfl tw_339 tw_341 tw_5 tw_36 tw_342 pd_X1_wholeOf ⟨rfl, rfl⟩ (by rw [hRm]; exact ⟨Nat.le_of_ble_eq_true rfl, Nat.le_of_ble_eq_true rfl, Nat.le_of_ble_eq_true rfl, Nat.le_of_ble_eq_true rfl⟩) (Nat.le_of_ble_eq_true rfl) dX1_shareOf_2 ?_
  refine g_istore hC [(4, .int (wh I j)), (0, .ref (G.2.1 5)), (1, .int (nI j)), (2, .int (nI o)), (3, .int m)] dX1_shareOf_5 (by decide) rfl ?_
  refine g_iload hC dX1_shareOf_7 0 rfl ?_
  refine g_iload_n hC dX1_shareOf_9 rfl 4 rfl ?_
  refine g_icmp_gt hC 22 dX1_shareOf_10 (by decide) (fun c_10 => ?_) (fun c_10 => ?_)
  · refine g_iload_n hC dX1_shareOf_22 rfl 3 rfl ?_
    refine g_aload_n hC dX1_shareOf_23 rfl 1 rfl ?_
    refine g_iload_n hC dX1_shareOf_24 rfl 2 rfl ?_
    refine g_cV hC [.int (nI j)] 5 (m_X1_ownerOfTheMost hl hG V I J j (by omega)) rfl (st2 := [.int (nI (bO I j 3)), .int (nI o)]) rfl (by decide) rfl rfl rfl tw_358 tw_360 tw_6 tw_36 tw_361 pd_X1_ownerOfTheMost ⟨rfl, rfl⟩ (by rw [hRm]; exact ⟨Nat.le_of_ble_eq_true rfl, Nat.le_of_ble_eq_true rfl, Nat.le_of_ble_eq_true rfl, Nat.le_of_ble_eq_true rfl⟩) (Nat.le_of_ble_eq_true rfl) dX1_shareOf_25 ?_
    refine g_icmp_eq hC 41 dX1_shareOf_28 (by decide) (fun c_28 => ?_) (fun c_28 => ?_)
    · have d_28 : o = (bO I j 3) := (nI_eq (by omega) (by omega)).mp c_28
      refine g_iload_n hC dX1_shareOf_41 rfl 4 rfl ?_
      refine g_istore hC [(5, .int m), (4, .int (wh I j)), (0, .ref (G.2.1 5)), (1, .int (nI j)), (2, .int (nI o)), (3, .int m)] dX1_shareOf_42 (by decide) rfl ?_
      refine g_iconst (v := nI 0) hC dX1_shareOf_44 (by decide) ?_
      refine g_istore hC [(6, .int (nI 0)), (5, .int m), (4, .int (wh I j)), (0, .ref (G.2.1 5)), (1, .int (nI j)), (2, .int (nI o)), (3, .int m)] dX1_shareOf_45 (by decide) rfl ?_
      exact lp_47 5 0 (by omega) (by omega) c_10 d_28
    · have d_28 : ¬ o = (bO I j 3) := fun q => c_28 ((nI_eq (by omega) (by omega)).mpr q)
      refine g_aload_n hC dX1_shareOf_31 rfl 1 rfl ?_
      refine g_iload_n hC dX1_shareOf_32 rfl 2 rfl ?_
      refine g_iload_n hC dX1_shareOf_33 rfl 3 rfl ?_
      refine g_iload_n hC dX1_shareOf_34 rfl 4 rfl ?_
      refine g_iload hC dX1_shareOf_35 0 rfl ?_
      refine g_cV hC [.int (nI j), .int (nI o), .int m, .int (wh I j)] 5 (m_X1_cutShare hl hG V I J j o m (wh I j) (by omega) (by omega)) rfl (st2 := [.int (cs I j o m (wh I j))]) rfl (by decide) rfl rfl rfl tw_362 tw_364 tw_7 tw_36 tw_365 pd_X1_cutShare ⟨rfl, rfl⟩ (by rw [hRm]; exact ⟨Nat.le_of_ble_eq_true rfl, Nat.le_of_ble_eq_true rfl, Nat.le_of_ble_eq_true rfl, Nat.le_of_ble_eq_true rfl⟩) (Nat.le_of_ble_eq_true rfl) dX1_shareOf_37 ?_
      exact g_iret hC hr dX1_shareOf_40 (Nat.le_of_ble_eq_true rfl) (Nat.le_of_ble_eq_true rfl) ⟨by unfold shr; rw [if_pos c_10, if_neg d_28], rfl, rfl, rfl⟩
  · refine g_aload_n hC dX1_shareOf_13 rfl 1 rfl ?_
    refine gf_X1_23 hC dX1_shareOf_14 ?_
    refine g_iload_n hC dX1_shareOf_17 rfl 3 rfl ?_
    refine n_aald34 hC o (show o < 4 by omega) dX1_shareOf_18 ?_
    refine g_iload_n hC dX1_shareOf_19 rfl 2 rfl ?_
    refine n_iald hC (47 + o) (ar_34 (show o < 4 by omega)) j (by rw [al_34 (show o < 4 by omega)]; omega) dX1_shareOf_20 ?_
    exact g_iret hC hr dX1_shareOf_21 (Nat.le_of_ble_eq_true rfl) (Nat.le_of_ble_eq_true rfl) ⟨by unfold shr; rw [if_neg c_10], rfl, rfl, rfl⟩

set_option maxRecDepth 100000 in
theorem m_X1_sumFares {l : Launch} {G : wG} (hl : l.stackTraces = false) (hG : wD G) (V : wV) (I : wI) (J : wJ) (c : Nat) (now m : Int32) (hn : V 6 = nI c) (h1 : c ≤ 100) : Ctr l yX1_sumFares cX1_sumFares 6 (some .long) { frames := 2, cells := 0, slots := 0, locals := 45 } G [.ref (G.2.1 5), .int now, .int m] V I J (pU (some (.long (sF I now m c))) V I J) (noX) := by
  refine ctr_of hl hG (by decide) (Nat.le_of_ble_eq_true rfl) [(0, .ref (G.2.1 5)), (1, .int now), (2, .int m)] rfl ?_
  intro K hC hKl hRm hr hT
  subst hKl
  have hC : Cx K G RX1 cX1_sumFares 6 := hC
  have lp_5 : ∀ (k9 : Nat) (j : Nat) (hj : j ≤ c) (hk : c < j + k9), WW K G 0 0 (QM K G { frames := 2, cells := 0, slots := 0, locals := 45 } (pU (some (.long (sF I now m c))) V I J) (noX)) V I J 5 [(5, .int (nI j)), (3, .long (sF I now m j)), (0, .ref (G.2.1 5)), (1, .int now), (2, .int m)] [] := by
    intro k9
    induction k9 with
    | zero =>
      intro j hj hk
      omega
    | succ k9 ih =>
      intro j hj hk
      refine g_iload hC dX1_sumFares_5 0 rfl ?_
      refine g_aload_n hC dX1_sumFares_7 rfl 2 rfl ?_
      refine gf_X1_33 hC dX1_sumFares_8 ?_
      refine g_eqI (x' := nI c) (by rw [hn]) ?_
      refine g_icmp_ge hC 41 dX1_sumFares_11 (by decide) (fun c_11 => ?_) (fun c_11 => ?_)
      · have d_11 : c ≤ j := (nI_leI (by omega) (by omega)).mp c_11
        refine g_lload_n hC dX1_sumFares_41 rfl 1 rfl ?_
        exact g_lret hC hr dX1_sumFares_42 (Nat.le_of_ble_eq_true rfl) (Nat.le_of_ble_eq_true rfl) ⟨by rw [show j = c by omega], rfl, rfl, rfl⟩
      · have d_11 : ¬ c ≤ j := fun q => c_11 ((nI_leI (by omega) (by omega)).mpr q)
        refine g_aload_n hC dX1_sumFares_14 rfl 2 rfl ?_
        refine g_iload hC dX1_sumFares_15 0 rfl ?_
        refine g_iload_n hC dX1_sumFares_17 rfl 3 rfl ?_
        refine g_cV hC [.int (nI j), .int now] 5 (m_X1_isOver hl hG V I J j now (by omega)) rfl (st2 := [.int ((if now - I 25 j < nI 60 then nI 0 else nI 1))]) rfl (by decide) rfl rfl rfl tw_331 tw_332 tw_333 tw_36 tw_334 pd_X1_isOver ⟨rfl, rfl⟩ (by rw [hRm]; exact ⟨Nat.le_of_ble_eq_true rfl, Nat.le_of_ble_eq_true rfl, Nat.le_of_ble_eq_true rfl, Nat.le_of_ble_eq_true rfl⟩) (Nat.le_of_ble_eq_true rfl) dX1_sumFares_18 ?_
        refine g_if_eq hC 35 dX1_sumFares_21 (by decide) (fun c_21 => ?_) (fun c_21 => ?_)
        · refine g_iinc (v := nI (j + 1)) hC [(5, .int (nI (j + 1))), (3, .long (sF I now m j)), (0, .ref (G.2.1 5)), (1, .int now), (2, .int m)] dX1_sumFares_35 0 rfl (nI_i1 _) (by decide) rfl ?_
          refine g_goto hC 5 dX1_sumFares_38 (by decide) ?_
          refine g_at rfl (lv2 := [(5, .int (nI (j + 1))), (3, .long (sF I now m (j + 1))), (0, .ref (G.2.1 5)), (1, .int now), (2, .int m)]) (by rw [show sF I now m (j + 1) = (if now - I 25 j < nI 60 then sF I now m j else sF I now m j + (fr I j m).toInt64) from rfl]; first | rw [if_pos (ite01_f c_21)] | rw [if_neg (ite01_t c_21)]) rfl ?_
          exact ih (j + 1) (by omega) (by omega)
        · refine g_lload_n hC dX1_sumFares_24 rfl 1 rfl ?_
          refine g_aload_n hC dX1_sumFares_25 rfl 2 rfl ?_
          refine g_iload hC dX1_sumFares_26 0 rfl ?_
          refine g_iload_n hC dX1_sumFares_28 rfl 4 rfl ?_
          refine g_cV hC [.int (nI j), .int m] 5 (m_X1_fareOf hl hG V I J j m (by omega)) rfl (st2 := [.int (fr I j m), .long (sF I now m j)]) rfl (by decide) rfl rfl rfl tw_335 tw_336 tw_337 tw_36 tw_338 pd_X1_fareOf ⟨rfl, rfl⟩ (by rw [hRm]; exact ⟨Nat.le_of_ble_eq_true rfl, Nat.le_of_ble_eq_true rfl, Nat.le_of_ble_eq_true rfl, Nat.le_of_ble_eq_true rfl⟩) (Nat.le_of_ble_eq_true rfl) dX1_sumFares_29 ?_
          refine g_i2l hC dX1_sumFares_32 ?_
          refine g_ladd hC dX1_sumFares_33 ?_
          refine g_lstore_n hC [(3, .long ((sF I now m j) + ((fr I j m).toInt64))), (5, .int (nI j)), (0, .ref (G.2.1 5)), (1, .int now), (2, .int m)] dX1_sumFares_34 rfl (by decide) rfl ?_
          refine g_iinc (v := nI (j + 1)) hC [(5, .int (nI (j + 1))), (3, .long ((sF I now m j) + ((fr I j m).toInt64))), (0, .ref (G.2.1 5)), (1, .int now), (2, .int m)] dX1_sumFares_35 1 rfl (nI_i1 _) (by decide) rfl ?_
          refine g_goto hC 5 dX1_sumFares_38 (by decide) ?_
          refine g_at rfl (lv2 := [(5, .int (nI (j + 1))), (3, .long (sF I now m (j + 1))), (0, .ref (G.2.1 5)), (1, .int now), (2, .int m)]) (by rw [show sF I now m (j + 1) = (if now - I 25 j < nI 60 then sF I now m j else sF I now m j + (fr I j m).toInt64) from rfl]; first | rw [if_pos (ite01_f c_21)] | rw [if_neg (ite01_t c_21)]) rfl ?_
          exact ih (j + 1) (by omega) (by omega)
  refine g_lconst (v := 0) hC dX1_sumFares_0 (by decide) ?_
  refine g_lstore_n hC [(3, .long 0), (0, .ref (G.2.1 5)), (1, .int now), (2, .int m)] dX1_sumFares_1 rfl (by decide) rfl ?_
  refine g_iconst (v := nI 0) hC dX1_sumFares_2 (by decide) ?_
  refine g_istore hC [(5, .int (nI 0)), (3, .long 0), (0, .ref (G.2.1 5)), (1, .int now), (2, .int m)] dX1_sumFares_3 (by decide) rfl ?_
  exact lp_5 (c + 1) 0 (by omega) (by omega)

set_option maxRecDepth 100000 in
theorem m_X1_sumShares {l : Launch} {G : wG} (hl : l.stackTraces = false) (hG : wD G) (V : wV) (I : wI) (J : wJ) (c o : Nat) (now m : Int32) (hn : V 6 = nI c) (h1 : c ≤ 100) (h2 : o < 4) : Ctr l yX1_sumShares cX1_sumShares 7 (some .long) { frames := 2, cells := 0, slots := 0, locals := 50 } G [.ref (G.2.1 5), .int (nI o), .int now, .int m] V I J (pU (some (.long (sS I o now m c))) V I J) (noX) := by
  refine ctr_of hl hG (by decide) (Nat.le_of_ble_eq_true rfl) [(0, .ref (G.2.1 5)), (1, .int (nI o)), (2, .int now), (3, .int m)] rfl ?_
  intro K hC hKl hRm hr hT
  subst hKl
  have hC : Cx K G RX1 cX1_sumShares 7 := hC
  have lp_6 : ∀ (k9 : Nat) (j : Nat) (hj : j ≤ c) (hk : c < j + k9), WW K G 0 0 (QM K G { frames := 2, cells := 0, slots := 0, locals := 50 } (pU (some (.long (sS I o now m c))) V I J) (noX)) V I J 6 [(6, .int (nI j)), (4, .long (sS I o now m j)), (0, .ref (G.2.1 5)), (1, .int (nI o)), (2, .int now), (3, .int m)] [] := by
    intro k9
    induction k9 with
    | zero =>
      intro j hj hk
      omega
    | succ k9 ih =>
      intro j hj hk
      refine g_iload hC dX1_sumShares_6 0 rfl ?_
      refine g_aload_n hC dX1_sumShares_8 rfl 2 rfl ?_
      refine gf_X1_33 hC dX1_sumShares_9 ?_
      refine g_eqI (x' := nI c) (by rw [hn]) ?_
      refine g_icmp_ge hC 45 dX1_sumShares_12 (by decide) (fun c_12 => ?_) (fun c_12 => ?_)
      · have d_12 : c ≤ j := (nI_leI (by omega) (by omega)).mp c_12
        refine g_lload hC dX1_sumShares_45 1 rfl ?_
        exact g_lret hC hr dX1_sumShares_47 (Nat.le_of_ble_eq_true rfl) (Nat.le_of_ble_eq_true rfl) ⟨by rw [show j = c by omega], rfl, rfl, rfl⟩
      · have d_12 : ¬ c ≤ j := fun q => c_12 ((nI_leI (by omega) (by omega)).mpr q)
        refine g_aload_n hC dX1_sumShares_15 rfl 2 rfl ?_
        refine g_iload hC dX1_sumShares_16 0 rfl ?_
        refine g_iload_n hC dX1_sumShares_18 rfl 4 rfl ?_
        refine g_cV hC [.int (nI j), .int now] 5 (m_X1_isOver hl hG V I J j now (by omega)) rfl (st2 := [.int ((if now - I 25 j < nI 60 then nI 0 else nI 1))]) rfl (by decide) rfl rfl rfl tw_331 tw_332 tw_333 tw_36 tw_334 pd_X1_isOver ⟨rfl, rfl⟩ (by rw [hRm]; exact ⟨Nat.le_of_ble_eq_true rfl, Nat.le_of_ble_eq_true rfl, Nat.le_of_ble_eq_true rfl, Nat.le_of_ble_eq_true rfl⟩) (Nat.le_of_ble_eq_true rfl) dX1_sumShares_19 ?_
        refine g_if_eq hC 39 dX1_sumShares_22 (by decide) (fun c_22 => ?_) (fun c_22 => ?_)
        · refine g_iinc (v := nI (j + 1)) hC [(6, .int (nI (j + 1))), (4, .long (sS I o now m j)), (0, .ref (G.2.1 5)), (1, .int (nI o)), (2, .int now), (3, .int m)] dX1_sumShares_39 0 rfl (nI_i1 _) (by decide) rfl ?_
          refine g_goto hC 6 dX1_sumShares_42 (by decide) ?_
          refine g_at rfl (lv2 := [(6, .int (nI (j + 1))), (4, .long (sS I o now m (j + 1))), (0, .ref (G.2.1 5)), (1, .int (nI o)), (2, .int now), (3, .int m)]) (by rw [show sS I o now m (j + 1) = (if now - I 25 j < nI 60 then sS I o now m j else sS I o now m j + (shr I j o m).toInt64) from rfl]; first | rw [if_pos (ite01_f c_22)] | rw [if_neg (ite01_t c_22)]) rfl ?_
          exact ih (j + 1) (by omega) (by omega)
        · refine g_lload hC dX1_sumShares_25 1 rfl ?_
          refine g_aload_n hC dX1_sumShares_27 rfl 2 rfl ?_
          refine g_iload hC dX1_sumShares_28 0 rfl ?_
          refine g_iload_n hC dX1_sumShares_30 rfl 3 rfl ?_
          refine g_iload_n hC dX1_sumShares_31 rfl 5 rfl ?_
          refine g_cV hC [.int (nI j), .int (nI o), .int m] 5 (m_X1_shareOf hl hG V I J j o m (by omega) (by omega)) rfl (st2 := [.int (shr I j o m), .long (sS I o now m j)]) rfl (by decide) rfl rfl rfl tw_354 tw_355 tw_356 tw_36 tw_357 pd_X1_shareOf ⟨rfl, rfl⟩ (by rw [hRm]; exact ⟨Nat.le_of_ble_eq_true rfl, Nat.le_of_ble_eq_true rfl, Nat.le_of_ble_eq_true rfl, Nat.le_of_ble_eq_true rfl⟩) (Nat.le_of_ble_eq_true rfl) dX1_sumShares_32 ?_
          refine g_i2l hC dX1_sumShares_35 ?_
          refine g_ladd hC dX1_sumShares_36 ?_
          refine g_lstore hC [(4, .long ((sS I o now m j) + ((shr I j o m).toInt64))), (6, .int (nI j)), (0, .ref (G.2.1 5)), (1, .int (nI o)), (2, .int now), (3, .int m)] dX1_sumShares_37 (by decide) rfl ?_
          refine g_iinc (v := nI (j + 1)) hC [(6, .int (nI (j + 1))), (4, .long ((sS I o now m j) + ((shr I j o m).toInt64))), (0, .ref (G.2.1 5)), (1, .int (nI o)), (2, .int now), (3, .int m)] dX1_sumShares_39 1 rfl (nI_i1 _) (by decide) rfl ?_
          refine g_goto hC 6 dX1_sumShares_42 (by decide) ?_
          refine g_at rfl (lv2 := [(6, .int (nI (j + 1))), (4, .long (sS I o now m (j + 1))), (0, .ref (G.2.1 5)), (1, .int (nI o)), (2, .int now), (3, .int m)]) (by rw [show sS I o now m (j + 1) = (if now - I 25 j < nI 60 then sS I o now m j else sS I o now m j + (shr I j o m).toInt64) from rfl]; first | rw [if_pos (ite01_f c_22)] | rw [if_neg (ite01_t c_22)]) rfl ?_
          exact ih (j + 1) (by omega) (by omega)
  refine g_lconst (v := 0) hC dX1_sumShares_0 (by decide) ?_
  refine g_lstore hC [(4, .long 0), (0, .ref (G.2.1 5)), (1, .int (nI o)), (2, .int now), (3, .int m)] dX1_sumShares_1 (by decide) rfl ?_
  refine g_iconst (v := nI 0) hC dX1_sumShares_3 (by decide) ?_
  refine g_istore hC [(6, .int (nI 0)), (4, .long 0), (0, .ref (G.2.1 5)), (1, .int (nI o)), (2, .int now), (3, .int m)] dX1_sumShares_4 (by decide) rfl ?_
  exact lp_6 (c + 1) 0 (by omega) (by omega)

set_option maxRecDepth 100000 in
theorem m_X0_forgetShares {l : Launch} {G : wG} (hl : l.stackTraces = false) (hG : wD G) (V : wV) (I : wI) (J : wJ)  : Ctr l yX0_forgetShares cX0_forgetShares 2 none { frames := 0, cells := 0, slots := 0, locals := 0 } G [.ref (G.2.1 6)] V I J (pU none V I (sJ (sJ (sJ (sJ J 32 0 0) 32 1 0) 32 2 0) 32 3 0)) (noX) := by
  refine ctr_of hl hG (by decide) (Nat.le_of_ble_eq_true rfl) [(0, .ref (G.2.1 6))] rfl ?_
  intro K hC hKl hRm hr hT
  subst hKl
  have hC : Cx K G RX0 cX0_forgetShares 2 := hC
  refine g_iconst (v := nI 0) hC dX0_forgetShares_0 (by decide) ?_
  refine g_istore_n hC [(1, .int (nI 0)), (0, .ref (G.2.1 6))] dX0_forgetShares_1 rfl (by decide) rfl ?_
  refine g_iload_n hC dX0_forgetShares_2 rfl 0 rfl ?_
  refine g_iconst (v := nI 4) hC dX0_forgetShares_3 (by decide) ?_
  refine g_icmp_ge hC 20 dX0_forgetShares_4 (by decide) (fun c_4 => ?_) (fun c_4 => ?_)
  · exact absurd c_4 (by decide)
  · refine g_aload_n hC dX0_forgetShares_7 rfl 1 rfl ?_
    refine gf_X0_21 hC dX0_forgetShares_8 ?_
    refine g_iload_n hC dX0_forgetShares_11 rfl 0 rfl ?_
    refine g_lconst (v := 0) hC dX0_forgetShares_12 (by decide) ?_
    refine n_last hC 32 aa_32 0 (show 0 < 4 by omega) dX0_forgetShares_13 ?_
    refine g_iinc (v := nI 1) hC [(1, .int (nI 1)), (0, .ref (G.2.1 6))] dX0_forgetShares_14 0 rfl (nI_i1 _) (by decide) rfl ?_
    refine g_goto hC 2 dX0_forgetShares_17 (by decide) ?_
    refine g_iload_n hC dX0_forgetShares_2 rfl 0 rfl ?_
    refine g_iconst (v := nI 4) hC dX0_forgetShares_3 (by decide) ?_
    refine g_icmp_ge hC 20 dX0_forgetShares_4 (by decide) (fun c_4 => ?_) (fun c_4 => ?_)
    · exact absurd c_4 (by decide)
    · refine g_aload_n hC dX0_forgetShares_7 rfl 1 rfl ?_
      refine gf_X0_21 hC dX0_forgetShares_8 ?_
      refine g_iload_n hC dX0_forgetShares_11 rfl 0 rfl ?_
      refine g_lconst (v := 0) hC dX0_forgetShares_12 (by decide) ?_
      refine n_last hC 32 aa_32 1 (show 1 < 4 by omega) dX0_forgetShares_13 ?_
      refine g_iinc (v := nI 2) hC [(1, .int (nI 2)), (0, .ref (G.2.1 6))] dX0_forgetShares_14 0 rfl (nI_i1 _) (by decide) rfl ?_
      refine g_goto hC 2 dX0_forgetShares_17 (by decide) ?_
      refine g_iload_n hC dX0_forgetShares_2 rfl 0 rfl ?_
      refine g_iconst (v := nI 4) hC dX0_forgetShares_3 (by decide) ?_
      refine g_icmp_ge hC 20 dX0_forgetShares_4 (by decide) (fun c_4 => ?_) (fun c_4 => ?_)
      · exact absurd c_4 (by decide)
      · refine g_aload_n hC dX0_forgetShares_7 rfl 1 rfl ?_
        refine gf_X0_21 hC dX0_forgetShares_8 ?_
        refine g_iload_n hC dX0_forgetShares_11 rfl 0 rfl ?_
        refine g_lconst (v := 0) hC dX0_forgetShares_12 (by decide) ?_
        refine n_last hC 32 aa_32 2 (show 2 < 4 by omega) dX0_forgetShares_13 ?_
        refine g_iinc (v := nI 3) hC [(1, .int (nI 3)), (0, .ref (G.2.1 6))] dX0_forgetShares_14 0 rfl (nI_i1 _) (by decide) rfl ?_
        refine g_goto hC 2 dX0_forgetShares_17 (by decide) ?_
        refine g_iload_n hC dX0_forgetShares_2 rfl 0 rfl ?_
        refine g_iconst (v := nI 4) hC dX0_forgetShares_3 (by decide) ?_
        refine g_icmp_ge hC 20 dX0_forgetShares_4 (by decide) (fun c_4 => ?_) (fun c_4 => ?_)
        · exact absurd c_4 (by decide)
        · refine g_aload_n hC dX0_forgetShares_7 rfl 1 rfl ?_
          refine gf_X0_21 hC dX0_forgetShares_8 ?_
          refine g_iload_n hC dX0_forgetShares_11 rfl 0 rfl ?_
          refine g_lconst (v := 0) hC dX0_forgetShares_12 (by decide) ?_
          refine n_last hC 32 aa_32 3 (show 3 < 4 by omega) dX0_forgetShares_13 ?_
          refine g_iinc (v := nI 4) hC [(1, .int (nI 4)), (0, .ref (G.2.1 6))] dX0_forgetShares_14 0 rfl (nI_i1 _) (by decide) rfl ?_
          refine g_goto hC 2 dX0_forgetShares_17 (by decide) ?_
          refine g_iload_n hC dX0_forgetShares_2 rfl 0 rfl ?_
          refine g_iconst (v := nI 4) hC dX0_forgetShares_3 (by decide) ?_
          refine g_icmp_ge hC 20 dX0_forgetShares_4 (by decide) (fun c_4 => ?_) (fun c_4 => ?_)
          · exact g_vret hC hr dX0_forgetShares_20 (Nat.le_of_ble_eq_true rfl) (Nat.le_of_ble_eq_true rfl) ⟨rfl, rfl, rfl, rfl⟩
          · exact absurd c_4 (by decide)

set_option maxRecDepth 100000 in
theorem m_X0_chargeN {l : Launch} {G : wG} (hl : l.stackTraces = false) (hG : wD G) (V : wV) (I : wI) (J : wJ) (p : Nat) (due : Int64) (h1 : p < 10) : Ctr l yX0_charge cX0_charge 7 (some .long) { frames := 0, cells := 0, slots := 0, locals := 0 } G [.ref (G.2.1 6), .int (nI p), .int ((-1)), .long due] V I J (pU (some (.long (due - J 31 p))) V I (sJ (sJ J 31 p due) 30 p (J 30 p - (due - J 31 p)))) (noX) := by
  refine ctr_of hl hG (by decide) (Nat.le_of_ble_eq_true rfl) [(0, .ref (G.2.1 6)), (1, .int (nI p)), (2, .int ((-1))), (3, .long due)] rfl ?_
  intro K hC hKl hRm hr hT
  subst hKl
  have hC : Cx K G RX0 cX0_charge 7 := hC
  refine g_lload_n hC dX0_charge_0 rfl 3 rfl ?_
  refine g_aload_n hC dX0_charge_1 rfl 0 rfl ?_
  refine gf_X0_18 hC dX0_charge_2 ?_
  refine g_iload_n hC dX0_charge_5 rfl 1 rfl ?_
  refine n_lald hC 31 aa_31 p (show p < 10 by omega) dX0_charge_6 ?_
  refine g_lsub hC dX0_charge_7 ?_
  refine g_lstore hC [(5, .long ((due) - (J 31 p))), (0, .ref (G.2.1 6)), (1, .int (nI p)), (2, .int ((-1))), (3, .long due)] dX0_charge_8 (by decide) rfl ?_
  refine g_aload_n hC dX0_charge_10 rfl 1 rfl ?_
  refine gf_X0_18 hC dX0_charge_11 ?_
  refine g_iload_n hC dX0_charge_14 rfl 2 rfl ?_
  refine g_lload_n hC dX0_charge_15 rfl 4 rfl ?_
  refine n_last hC 31 aa_31 p (show p < 10 by omega) dX0_charge_16 ?_
  refine g_iload_n hC dX0_charge_17 rfl 3 rfl ?_
  refine g_iconst (v := (-1)) hC dX0_charge_18 (by decide) ?_
  refine g_icmp_ne hC 36 dX0_charge_19 (by decide) (fun c_19 => ?_) (fun c_19 => ?_)
  · exact absurd c_19 (by decide)
  · refine g_aload_n hC dX0_charge_22 rfl 1 rfl ?_
    refine gf_X0_15 hC dX0_charge_23 ?_
    refine g_iload_n hC dX0_charge_26 rfl 2 rfl ?_
    refine g_dup2 hC dX0_charge_27 rfl rfl ?_
    refine n_lald hC 30 aa_30 p (show p < 10 by omega) dX0_charge_28 ?_
    refine g_lload hC dX0_charge_29 0 rfl ?_
    refine g_lsub hC dX0_charge_31 ?_
    refine n_last hC 30 aa_30 p (show p < 10 by omega) dX0_charge_32 ?_
    refine g_goto hC 47 dX0_charge_33 (by decide) ?_
    refine g_lload hC dX0_charge_47 0 rfl ?_
    exact g_lret hC hr dX0_charge_49 (Nat.le_of_ble_eq_true rfl) (Nat.le_of_ble_eq_true rfl) ⟨rfl, rfl, rfl, rfl⟩

set_option maxRecDepth 100000 in
theorem m_X0_charge {l : Launch} {G : wG} (hl : l.stackTraces = false) (hG : wD G) (V : wV) (I : wI) (J : wJ) (p h : Nat) (due : Int64) (h1 : p < 10) (h2 : h < 6) : Ctr l yX0_charge cX0_charge 7 (some .long) { frames := 0, cells := 0, slots := 0, locals := 0 } G [.ref (G.2.1 6), .int (nI p), .int (nI h), .long due] V I J (pU (some (.long (due - J 31 p))) V I (sJ (sJ J 31 p due) 29 h (J 29 h - (due - J 31 p)))) (noX) := by
  refine ctr_of hl hG (by decide) (Nat.le_of_ble_eq_true rfl) [(0, .ref (G.2.1 6)), (1, .int (nI p)), (2, .int (nI h)), (3, .long due)] rfl ?_
  intro K hC hKl hRm hr hT
  subst hKl
  have hC : Cx K G RX0 cX0_charge 7 := hC
  refine g_lload_n hC dX0_charge_0 rfl 3 rfl ?_
  refine g_aload_n hC dX0_charge_1 rfl 0 rfl ?_
  refine gf_X0_18 hC dX0_charge_2 ?_
  refine g_iload_n hC dX0_charge_5 rfl 1 rfl ?_
  refine n_lald hC 31 aa_31 p (show p < 10 by omega) dX0_charge_6 ?_
  refine g_lsub hC dX0_charge_7 ?_
  refine g_lstore hC [(5, .long ((due) - (J 31 p))), (0, .ref (G.2.1 6)), (1, .int (nI p)), (2, .int (nI h)), (3, .long due)] dX0_charge_8 (by decide) rfl ?_
  refine g_aload_n hC dX0_charge_10 rfl 1 rfl ?_
  refine gf_X0_18 hC dX0_charge_11 ?_
  refine g_iload_n hC dX0_charge_14 rfl 2 rfl ?_
  refine g_lload_n hC dX0_charge_15 rfl 4 rfl ?_
  refine n_last hC 31 aa_31 p (show p < 10 by omega) dX0_charge_16 ?_
  refine g_iload_n hC dX0_charge_17 rfl 3 rfl ?_
  refine g_iconst (v := (-1)) hC dX0_charge_18 (by decide) ?_
  refine g_icmp_ne hC 36 dX0_charge_19 (by decide) (fun c_19 => ?_) (fun c_19 => ?_)
  · refine g_aload_n hC dX0_charge_36 rfl 1 rfl ?_
    refine gf_X0_9 hC dX0_charge_37 ?_
    refine g_iload_n hC dX0_charge_40 rfl 3 rfl ?_
    refine g_dup2 hC dX0_charge_41 rfl rfl ?_
    refine n_lald hC 29 aa_29 h (show h < 6 by omega) dX0_charge_42 ?_
    refine g_lload hC dX0_charge_43 0 rfl ?_
    refine g_lsub hC dX0_charge_45 ?_
    refine n_last hC 29 aa_29 h (show h < 6 by omega) dX0_charge_46 ?_
    refine g_lload hC dX0_charge_47 0 rfl ?_
    exact g_lret hC hr dX0_charge_49 (Nat.le_of_ble_eq_true rfl) (Nat.le_of_ble_eq_true rfl) ⟨rfl, rfl, rfl, rfl⟩
  · exact absurd c_19 (nI_m1 (by omega))

set_option maxRecDepth 100000 in
theorem m_X3_add {l : Launch} {G : wG} (hl : l.stackTraces = false) (hG : wD G) (V : wV) (I : wI) (J : wJ) (n : Nat) (g p m : Int32) (hn : V 5 = nI n) (h1 : n < 100) (ho : wfO I n) : Ctr l yX3_add cX3_add 6 (some .int) { frames := 0, cells := 0, slots := 0, locals := 0 } G [.ref (G.2.1 4), .int g, .int p, .int m] V I J (fun r V9 I9 J9 => r = some (.int (nI n)) ∧ V9 = upd V 5 (nI (n + 1)) ∧ J9 = J ∧ ∃ q, q ≤ n ∧ I9 = uI (rdI I n g p m) 23 (upd (shf (I 23) n q) q (nI n)) ∧ (q = 0 ∨ I 21 (I 23 (q - 1)).toNatClampNeg ≤ m) ∧ ∀ z, q ≤ z → z < n → m < I 21 (I 23 z).toNatClampNeg) (noX) := by
  refine ctr_of hl hG (by decide) (Nat.le_of_ble_eq_true rfl) [(0, .ref (G.2.1 4)), (1, .int g), (2, .int p), (3, .int m)] rfl ?_
  intro K hC hKl hRm hr hT
  subst hKl
  have hC : Cx K G RX3 cX3_add 6 := hC
  have lp_36 : ∀ (k9 : Nat) (q : Nat) (hq : q ≤ n) (hk : q < k9) (hz : ∀ z, q ≤ z → z < n → m < I 21 (I 23 z).toNatClampNeg), WW K G 0 0 (QM K G { frames := 0, cells := 0, slots := 0, locals := 0 } (fun r V9 I9 J9 => r = some (.int (nI n)) ∧ V9 = upd V 5 (nI (n + 1)) ∧ J9 = J ∧ ∃ q, q ≤ n ∧ I9 = uI (rdI I n g p m) 23 (upd (shf (I 23) n q) q (nI n)) ∧ (q = 0 ∨ I 21 (I 23 (q - 1)).toNatClampNeg ≤ m) ∧ ∀ z, q ≤ z → z < n → m < I 21 (I 23 z).toNatClampNeg) (noX)) V (uI (rdI I n g p m) 23 (shf (I 23) n q)) J 36 [(5, .int (nI q)), (4, .int (nI n)), (0, .ref (G.2.1 4)), (1, .int g), (2, .int p), (3, .int m)] [] := by
    intro k9
    induction k9 with
    | zero =>
      intro q hq hk hz
      omega
    | succ k9 ih =>
      intro q hq hk hz
      refine g_iload hC dX3_add_36 0 rfl ?_
      refine g_if_le hC 81 dX3_add_38 (by decide) (fun c_38 => ?_) (fun c_38 => ?_)
      · rw [← nI_0] at c_38
        have d_38 : q ≤ 0 := (nI_leI (by omega) (by omega)).mp c_38
        refine g_aload_n hC dX3_add_81 rfl 2 rfl ?_
        refine gf_X3_25 hC dX3_add_82 ?_
        refine g_iload hC dX3_add_85 0 rfl ?_
        refine g_iload hC dX3_add_87 1 rfl ?_
        refine n_iast hC 23 aa_23 q (show q < 100 by omega) dX3_add_89 ?_
        refine g_aload_n hC dX3_add_90 rfl 2 rfl ?_
        refine g_dup hC dX3_add_91 rfl ?_
        refine gf_X3_28 hC dX3_add_92 ?_
        refine g_eqI (x' := nI n) (by rw [hn]) ?_
        refine g_iconst (v := nI 1) hC dX3_add_95 (by decide) ?_
        refine g_iadd hC dX3_add_96 ?_
        refine g_eqI (x' := nI (n + 1)) (nI_add _ _) ?_
        refine gp_X3_28 hC dX3_add_97 ?_
        refine g_iload hC dX3_add_100 1 rfl ?_
        exact g_iret hC hr dX3_add_102 (Nat.le_of_ble_eq_true rfl) (Nat.le_of_ble_eq_true rfl) ⟨rfl, rfl, rfl, q, hq, by rw [show uI (rdI I n g p m) 23 (shf (I 23) n q) 23 = shf (I 23) n q from uI_s, uI_uI], (by first | exact Or.inl (by omega) | exact Or.inr c_56), hz⟩
      · rw [← nI_0] at c_38
        have d_38 : ¬ q ≤ 0 := fun q => c_38 ((nI_leI (by omega) (by omega)).mpr q)
        have hq0 : 0 < q := by omega
        obtain ⟨r, hr1, hr2⟩ := ho (q - 1) (by omega)
        have hsh : shf (I 23) n q (q - 1) = I 23 (q - 1) := if_neg (by omega)
        have hcl : (I 23 (q - 1)).toNatClampNeg = r := by rw [hr2]; exact nI_clamp (by omega)
        refine g_aload_n hC dX3_add_41 rfl 2 rfl ?_
        refine gf_X3_18 hC dX3_add_42 ?_
        refine g_aload_n hC dX3_add_45 rfl 2 rfl ?_
        refine gf_X3_25 hC dX3_add_46 ?_
        refine g_iload hC dX3_add_49 0 rfl ?_
        refine g_iconst (v := nI 1) hC dX3_add_51 (by decide) ?_
        refine g_isub hC dX3_add_52 ?_
        refine g_eqI (x' := nI (q - 1)) (nI_s1 (by omega)) ?_
        refine n_iald hC 23 aa_23 (q - 1) (show q - 1 < 100 by omega) dX3_add_53 ?_
        refine g_eqI (x' := nI r) (by rw [uI_s, hsh, hr2]) ?_
        refine n_iald hC 21 aa_21 r (show r < 100 by omega) dX3_add_54 ?_
        refine g_eqI (x' := I 21 (I 23 (q - 1)).toNatClampNeg) (by rw [uI_n (by decide), hcl]; show upd (I 21) n m r = _; exact pk_un (by omega)) ?_
        refine g_iload_n hC dX3_add_55 rfl 5 rfl ?_
        refine g_icmp_le hC 81 dX3_add_56 (by decide) (fun c_56 => ?_) (fun c_56 => ?_)
        · refine g_aload_n hC dX3_add_81 rfl 2 rfl ?_
          refine gf_X3_25 hC dX3_add_82 ?_
          refine g_iload hC dX3_add_85 0 rfl ?_
          refine g_iload hC dX3_add_87 1 rfl ?_
          refine n_iast hC 23 aa_23 q (show q < 100 by omega) dX3_add_89 ?_
          refine g_aload_n hC dX3_add_90 rfl 2 rfl ?_
          refine g_dup hC dX3_add_91 rfl ?_
          refine gf_X3_28 hC dX3_add_92 ?_
          refine g_eqI (x' := nI n) (by rw [hn]) ?_
          refine g_iconst (v := nI 1) hC dX3_add_95 (by decide) ?_
          refine g_iadd hC dX3_add_96 ?_
          refine g_eqI (x' := nI (n + 1)) (nI_add _ _) ?_
          refine gp_X3_28 hC dX3_add_97 ?_
          refine g_iload hC dX3_add_100 1 rfl ?_
          exact g_iret hC hr dX3_add_102 (Nat.le_of_ble_eq_true rfl) (Nat.le_of_ble_eq_true rfl) ⟨rfl, rfl, rfl, q, hq, by rw [show uI (rdI I n g p m) 23 (shf (I 23) n q) 23 = shf (I 23) n q from uI_s, uI_uI], (by first | exact Or.inl (by omega) | exact Or.inr c_56), hz⟩
        · refine g_aload_n hC dX3_add_59 rfl 2 rfl ?_
          refine gf_X3_25 hC dX3_add_60 ?_
          refine g_iload hC dX3_add_63 0 rfl ?_
          refine g_aload_n hC dX3_add_65 rfl 2 rfl ?_
          refine gf_X3_25 hC dX3_add_66 ?_
          refine g_iload hC dX3_add_69 0 rfl ?_
          refine g_iconst (v := nI 1) hC dX3_add_71 (by decide) ?_
          refine g_isub hC dX3_add_72 ?_
          refine g_eqI (x' := nI (q - 1)) (nI_s1 (by omega)) ?_
          refine n_iald hC 23 aa_23 (q - 1) (show q - 1 < 100 by omega) dX3_add_73 ?_
          refine g_eqI (x' := I 23 (q - 1)) (by rw [uI_s, hsh]) ?_
          refine n_iast hC 23 aa_23 q (show q < 100 by omega) dX3_add_74 ?_
          refine g_iinc (v := nI (q - 1)) hC [(5, .int (nI (q - 1))), (4, .int (nI n)), (0, .ref (G.2.1 4)), (1, .int g), (2, .int p), (3, .int m)] dX3_add_75 0 rfl (nI_im (by omega)) (by decide) rfl ?_
          refine g_goto hC 36 dX3_add_78 (by decide) ?_
          refine g_st (V1 := V) (I1 := (uI (rdI I n g p m) 23 (shf (I 23) n (q - 1)))) (J1 := J) rfl (by rw [show uI (rdI I n g p m) 23 (shf (I 23) n q) 23 = shf (I 23) n q from uI_s, uI_uI, shf_s hq0 hq]) rfl ?_
          exact ih (q - 1) (by omega) (by omega) (fun z z1 z2 => by rcases Nat.lt_or_ge z q with y | y; exact (by rw [show z = q - 1 by omega]; exact Int32.not_le.mp c_56); exact hz z y z2)
  refine g_aload_n hC dX3_add_0 rfl 0 rfl ?_
  refine gf_X3_28 hC dX3_add_1 ?_
  refine g_eqI (x' := nI n) (by rw [hn]) ?_
  refine g_istore hC [(4, .int (nI n)), (0, .ref (G.2.1 4)), (1, .int g), (2, .int p), (3, .int m)] dX3_add_4 (by decide) rfl ?_
  refine g_aload_n hC dX3_add_6 rfl 1 rfl ?_
  refine gf_X3_9 hC dX3_add_7 ?_
  refine g_iload hC dX3_add_10 0 rfl ?_
  refine g_iload_n hC dX3_add_12 rfl 2 rfl ?_
  refine n_iast hC 19 aa_19 n (show n < 100 by omega) dX3_add_13 ?_
  refine g_aload_n hC dX3_add_14 rfl 1 rfl ?_
  refine gf_X3_15 hC dX3_add_15 ?_
  refine g_iload hC dX3_add_18 0 rfl ?_
  refine g_iload_n hC dX3_add_20 rfl 3 rfl ?_
  refine n_iast hC 20 aa_20 n (show n < 100 by omega) dX3_add_21 ?_
  refine g_aload_n hC dX3_add_22 rfl 1 rfl ?_
  refine gf_X3_18 hC dX3_add_23 ?_
  refine g_iload hC dX3_add_26 0 rfl ?_
  refine g_iload_n hC dX3_add_28 rfl 4 rfl ?_
  refine n_iast hC 21 aa_21 n (show n < 100 by omega) dX3_add_29 ?_
  refine g_aload_n hC dX3_add_30 rfl 1 rfl ?_
  refine gf_X3_28 hC dX3_add_31 ?_
  refine g_eqI (x' := nI n) (by rw [hn]) ?_
  refine g_istore hC [(5, .int (nI n)), (4, .int (nI n)), (0, .ref (G.2.1 4)), (1, .int g), (2, .int p), (3, .int m)] dX3_add_34 (by decide) rfl ?_
  refine g_st (V1 := V) (I1 := (uI (rdI I n g p m) 23 (shf (I 23) n n))) (J1 := J) rfl (by rw [shf_n]; exact (uI_self (rdI I n g p m) 23).symm) rfl ?_
  exact lp_36 (n + 1) n (Nat.le_refl _) (by omega) (fun z z1 z2 => by omega)
end
