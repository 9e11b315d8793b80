section
-- ===== PART A: goes FIRST, ahead of the names: the tables' words, and 'selects' of the private methods out of them =====
/-- a private method of a class that the tables say can be made, by its rows of tables_1 -/
def lw_okq (q : MethodName × Nat) : Prop := (q.1.cls ≠ "java/lang/invoke/MethodHandle" ∧ q.1.cls ≠ "java/lang/invoke/VarHandle") ∧ Cond.instantiable q.1.cls q.2 ∈ tables_1 ∧ Cond.privateMethod q.1 ∈ tables_1 ∧ Cond.instanceMethod q.1 ∈ tables_1
theorem lw_p0 : lw_okq (⟨"Tollweave", "findJourneys", "(I)V"⟩, 7) := ⟨⟨by decide +kernel, by decide +kernel⟩, List.mem_of_getElem? (i := 17) (by decide +kernel), List.mem_of_getElem? (i := 230) (by decide +kernel), List.mem_of_getElem? (i := 231) (by decide +kernel)⟩
theorem lw_p1 : lw_okq (⟨"Tollweave", "placeReading", "(II)I"⟩, 7) := ⟨⟨by decide +kernel, by decide +kernel⟩, List.mem_of_getElem? (i := 17) (by decide +kernel), List.mem_of_getElem? (i := 238) (by decide +kernel), List.mem_of_getElem? (i := 239) (by decide +kernel)⟩
theorem lw_p2 : lw_okq (⟨"Tollweave", "isDoubleOf", "(II)Z"⟩, 7) := ⟨⟨by decide +kernel, by decide +kernel⟩, List.mem_of_getElem? (i := 17) (by decide +kernel), List.mem_of_getElem? (i := 246) (by decide +kernel), List.mem_of_getElem? (i := 247) (by decide +kernel)⟩
theorem lw_p3 : lw_okq (⟨"Tollweave", "goesOnFrom", "(II)Z"⟩, 7) := ⟨⟨by decide +kernel, by decide +kernel⟩, List.mem_of_getElem? (i := 17) (by decide +kernel), List.mem_of_getElem? (i := 258) (by decide +kernel), List.mem_of_getElem? (i := 259) (by decide +kernel)⟩
theorem lw_p4 : lw_okq (⟨"Tollweave", "payWay", "(III)V"⟩, 7) := ⟨⟨by decide +kernel, by decide +kernel⟩, List.mem_of_getElem? (i := 17) (by decide +kernel), List.mem_of_getElem? (i := 270) (by decide +kernel), List.mem_of_getElem? (i := 271) (by decide +kernel)⟩
theorem lw_p5 : lw_okq (⟨"Tollweave$Journeys", "wholeOf", "(I)I"⟩, 7) := ⟨⟨by decide +kernel, by decide +kernel⟩, List.mem_of_getElem? (i := 141) (by decide +kernel), List.mem_of_getElem? (i := 310) (by decide +kernel), List.mem_of_getElem? (i := 311) (by decide +kernel)⟩
theorem lw_p6 : lw_okq (⟨"Tollweave$Journeys", "ownerOfTheMost", "(I)I"⟩, 7) := ⟨⟨by decide +kernel, by decide +kernel⟩, List.mem_of_getElem? (i := 141) (by decide +kernel), List.mem_of_getElem? (i := 329) (by decide +kernel), List.mem_of_getElem? (i := 330) (by decide +kernel)⟩
theorem lw_p7 : lw_okq (⟨"Tollweave$Journeys", "cutShare", "(IIII)I"⟩, 7) := ⟨⟨by decide +kernel, by decide +kernel⟩, List.mem_of_getElem? (i := 141) (by decide +kernel), List.mem_of_getElem? (i := 333) (by decide +kernel), List.mem_of_getElem? (i := 334) (by decide +kernel)⟩
theorem lw_p8 : lw_okq (⟨"java/lang/Throwable", "fillInStackTrace", "(I)Ljava/lang/Throwable;"⟩, 6) := ⟨⟨by decide +kernel, by decide +kernel⟩, List.mem_of_getElem? (i := 383) (by decide +kernel), List.mem_of_getElem? (i := 381) (by decide +kernel), List.mem_of_getElem? (i := 382) (by decide +kernel)⟩
theorem lw_p9 : lw_okq (⟨"Tollweave", "requireGate", "(I)V"⟩, 7) := ⟨⟨by decide +kernel, by decide +kernel⟩, List.mem_of_getElem? (i := 17) (by decide +kernel), List.mem_of_getElem? (i := 426) (by decide +kernel), List.mem_of_getElem? (i := 427) (by decide +kernel)⟩
theorem lw_p10 : lw_okq (⟨"Tollweave$Roads", "shortenDistances", "(III)V"⟩, 7) := ⟨⟨by decide +kernel, by decide +kernel⟩, List.mem_of_getElem? (i := 25) (by decide +kernel), List.mem_of_getElem? (i := 471) (by decide +kernel), List.mem_of_getElem? (i := 472) (by decide +kernel)⟩
theorem lw_p11 : lw_okq (⟨"Tollweave", "requireReading", "(I)V"⟩, 7) := ⟨⟨by decide +kernel, by decide +kernel⟩, List.mem_of_getElem? (i := 17) (by decide +kernel), List.mem_of_getElem? (i := 544) (by decide +kernel), List.mem_of_getElem? (i := 545) (by decide +kernel)⟩
theorem lw_p12 : lw_okq (⟨"Tollweave", "isDoubleNow", "(I)Z"⟩, 7) := ⟨⟨by decide +kernel, by decide +kernel⟩, List.mem_of_getElem? (i := 17) (by decide +kernel), List.mem_of_getElem? (i := 603) (by decide +kernel), List.mem_of_getElem? (i := 604) (by decide +kernel)⟩
theorem lw_p13 : lw_okq (⟨"Tollweave", "journeyNow", "(I)I"⟩, 7) := ⟨⟨by decide +kernel, by decide +kernel⟩, List.mem_of_getElem? (i := 17) (by decide +kernel), List.mem_of_getElem? (i := 607) (by decide +kernel), List.mem_of_getElem? (i := 608) (by decide +kernel)⟩
theorem lw_p14 : lw_okq (⟨"Tollweave", "dueToOwner", "(I)J"⟩, 7) := ⟨⟨by decide +kernel, by decide +kernel⟩, List.mem_of_getElem? (i := 17) (by decide +kernel), List.mem_of_getElem? (i := 647) (by decide +kernel), List.mem_of_getElem? (i := 648) (by decide +kernel)⟩
theorem lw_p15 : lw_okq (⟨"TollweaveModel", "measures", "()V"⟩, 37) := ⟨⟨by decide +kernel, by decide +kernel⟩, List.mem_of_getElem? (i := 651) (by decide +kernel), List.mem_of_getElem? (i := 777) (by decide +kernel), List.mem_of_getElem? (i := 778) (by decide +kernel)⟩
def lw_privs_1 : List (MethodName × Nat) := [(⟨"Tollweave", "findJourneys", "(I)V"⟩, 7), (⟨"Tollweave", "placeReading", "(II)I"⟩, 7), (⟨"Tollweave", "isDoubleOf", "(II)Z"⟩, 7), (⟨"Tollweave", "goesOnFrom", "(II)Z"⟩, 7), (⟨"Tollweave", "payWay", "(III)V"⟩, 7), (⟨"Tollweave$Journeys", "wholeOf", "(I)I"⟩, 7), (⟨"Tollweave$Journeys", "ownerOfTheMost", "(I)I"⟩, 7), (⟨"Tollweave$Journeys", "cutShare", "(IIII)I"⟩, 7), (⟨"java/lang/Throwable", "fillInStackTrace", "(I)Ljava/lang/Throwable;"⟩, 6), (⟨"Tollweave", "requireGate", "(I)V"⟩, 7), (⟨"Tollweave$Roads", "shortenDistances", "(III)V"⟩, 7), (⟨"Tollweave", "requireReading", "(I)V"⟩, 7), (⟨"Tollweave", "isDoubleNow", "(I)Z"⟩, 7), (⟨"Tollweave", "journeyNow", "(I)I"⟩, 7), (⟨"Tollweave", "dueToOwner", "(I)J"⟩, 7), (⟨"TollweaveModel", "measures", "()V"⟩, 37)]
theorem lw_r1 : ∀ q ∈ lw_privs_1, lw_okq q := List.forall_mem_cons.mpr ⟨lw_p0, List.forall_mem_cons.mpr ⟨lw_p1, List.forall_mem_cons.mpr ⟨lw_p2, List.forall_mem_cons.mpr ⟨lw_p3, List.forall_mem_cons.mpr ⟨lw_p4, List.forall_mem_cons.mpr ⟨lw_p5, List.forall_mem_cons.mpr ⟨lw_p6, List.forall_mem_cons.mpr ⟨lw_p7, List.forall_mem_cons.mpr ⟨lw_p8, List.forall_mem_cons.mpr ⟨lw_p9, List.forall_mem_cons.mpr ⟨lw_p10, List.forall_mem_cons.mpr ⟨lw_p11, List.forall_mem_cons.mpr ⟨lw_p12, List.forall_mem_cons.mpr ⟨lw_p13, List.forall_mem_cons.mpr ⟨lw_p14, List.forall_mem_cons.mpr ⟨lw_p15, fun _ h => absurd h List.not_mem_nil⟩⟩⟩⟩⟩⟩⟩⟩⟩⟩⟩⟩⟩⟩⟩⟩
theorem lw_p16 : lw_okq (⟨"TollweaveModel", "isGate", "(I)Z"⟩, 37) := ⟨⟨by decide +kernel, by decide +kernel⟩, List.mem_of_getElem? (i := 651) (by decide +kernel), List.mem_of_getElem? (i := 786) (by decide +kernel), List.mem_of_getElem? (i := 787) (by decide +kernel)⟩
theorem lw_p17 : lw_okq (⟨"TollweaveModel", "isReading", "(I)Z"⟩, 37) := ⟨⟨by decide +kernel, by decide +kernel⟩, List.mem_of_getElem? (i := 651) (by decide +kernel), List.mem_of_getElem? (i := 828) (by decide +kernel), List.mem_of_getElem? (i := 829) (by decide +kernel)⟩
theorem lw_p18 : lw_okq (⟨"TollweaveModel", "dueOf", "(I)J"⟩, 37) := ⟨⟨by decide +kernel, by decide +kernel⟩, List.mem_of_getElem? (i := 651) (by decide +kernel), List.mem_of_getElem? (i := 840) (by decide +kernel), List.mem_of_getElem? (i := 841) (by decide +kernel)⟩
theorem lw_p19 : lw_okq (⟨"TollweaveModel", "goes", "(I)V"⟩, 37) := ⟨⟨by decide +kernel, by decide +kernel⟩, List.mem_of_getElem? (i := 651) (by decide +kernel), List.mem_of_getElem? (i := 844) (by decide +kernel), List.mem_of_getElem? (i := 845) (by decide +kernel)⟩
theorem lw_p20 : lw_okq (⟨"TollweaveModel", "nextReading", "(I)I"⟩, 37) := ⟨⟨by decide +kernel, by decide +kernel⟩, List.mem_of_getElem? (i := 651) (by decide +kernel), List.mem_of_getElem? (i := 848) (by decide +kernel), List.mem_of_getElem? (i := 849) (by decide +kernel)⟩
theorem lw_p21 : lw_okq (⟨"TollweaveModel", "away", "(II)I"⟩, 37) := ⟨⟨by decide +kernel, by decide +kernel⟩, List.mem_of_getElem? (i := 651) (by decide +kernel), List.mem_of_getElem? (i := 852) (by decide +kernel), List.mem_of_getElem? (i := 853) (by decide +kernel)⟩
theorem lw_p22 : lw_okq (⟨"TollweaveModel", "pays", "(IIII)V"⟩, 37) := ⟨⟨by decide +kernel, by decide +kernel⟩, List.mem_of_getElem? (i := 651) (by decide +kernel), List.mem_of_getElem? (i := 856) (by decide +kernel), List.mem_of_getElem? (i := 857) (by decide +kernel)⟩
theorem lw_p23 : lw_okq (⟨"TollweaveModel", "isExempt", "(II)Z"⟩, 37) := ⟨⟨by decide +kernel, by decide +kernel⟩, List.mem_of_getElem? (i := 651) (by decide +kernel), List.mem_of_getElem? (i := 860) (by decide +kernel), List.mem_of_getElem? (i := 861) (by decide +kernel)⟩
theorem lw_p24 : lw_okq (⟨"TollweaveModel", "next", "(II)I"⟩, 37) := ⟨⟨by decide +kernel, by decide +kernel⟩, List.mem_of_getElem? (i := 651) (by decide +kernel), List.mem_of_getElem? (i := 864) (by decide +kernel), List.mem_of_getElem? (i := 865) (by decide +kernel)⟩
theorem lw_p25 : lw_okq (⟨"TollweaveModel", "otherEnd", "(II)I"⟩, 37) := ⟨⟨by decide +kernel, by decide +kernel⟩, List.mem_of_getElem? (i := 651) (by decide +kernel), List.mem_of_getElem? (i := 869) (by decide +kernel), List.mem_of_getElem? (i := 870) (by decide +kernel)⟩
theorem lw_p26 : lw_okq (⟨"TollweaveModel", "begins", "(I)V"⟩, 37) := ⟨⟨by decide +kernel, by decide +kernel⟩, List.mem_of_getElem? (i := 651) (by decide +kernel), List.mem_of_getElem? (i := 873) (by decide +kernel), List.mem_of_getElem? (i := 874) (by decide +kernel)⟩
theorem lw_p27 : lw_okq (⟨"TollweaveModel", "shares", "(I)V"⟩, 37) := ⟨⟨by decide +kernel, by decide +kernel⟩, List.mem_of_getElem? (i := 651) (by decide +kernel), List.mem_of_getElem? (i := 877) (by decide +kernel), List.mem_of_getElem? (i := 878) (by decide +kernel)⟩
theorem lw_p28 : lw_okq (⟨"TollweaveModel", "isOver", "(I)Z"⟩, 37) := ⟨⟨by decide +kernel, by decide +kernel⟩, List.mem_of_getElem? (i := 651) (by decide +kernel), List.mem_of_getElem? (i := 881) (by decide +kernel), List.mem_of_getElem? (i := 882) (by decide +kernel)⟩
theorem lw_p29 : lw_okq (⟨"TollweaveModel", "dueTo", "(I)J"⟩, 37) := ⟨⟨by decide +kernel, by decide +kernel⟩, List.mem_of_getElem? (i := 651) (by decide +kernel), List.mem_of_getElem? (i := 885) (by decide +kernel), List.mem_of_getElem? (i := 886) (by decide +kernel)⟩
def lw_privs_2 : List (MethodName × Nat) := [(⟨"TollweaveModel", "isGate", "(I)Z"⟩, 37), (⟨"TollweaveModel", "isReading", "(I)Z"⟩, 37), (⟨"TollweaveModel", "dueOf", "(I)J"⟩, 37), (⟨"TollweaveModel", "goes", "(I)V"⟩, 37), (⟨"TollweaveModel", "nextReading", "(I)I"⟩, 37), (⟨"TollweaveModel", "away", "(II)I"⟩, 37), (⟨"TollweaveModel", "pays", "(IIII)V"⟩, 37), (⟨"TollweaveModel", "isExempt", "(II)Z"⟩, 37), (⟨"TollweaveModel", "next", "(II)I"⟩, 37), (⟨"TollweaveModel", "otherEnd", "(II)I"⟩, 37), (⟨"TollweaveModel", "begins", "(I)V"⟩, 37), (⟨"TollweaveModel", "shares", "(I)V"⟩, 37), (⟨"TollweaveModel", "isOver", "(I)Z"⟩, 37), (⟨"TollweaveModel", "dueTo", "(I)J"⟩, 37)]
theorem lw_r2 : ∀ q ∈ lw_privs_2, lw_okq q := List.forall_mem_cons.mpr ⟨lw_p16, List.forall_mem_cons.mpr ⟨lw_p17, List.forall_mem_cons.mpr ⟨lw_p18, List.forall_mem_cons.mpr ⟨lw_p19, List.forall_mem_cons.mpr ⟨lw_p20, List.forall_mem_cons.mpr ⟨lw_p21, List.forall_mem_cons.mpr ⟨lw_p22, List.forall_mem_cons.mpr ⟨lw_p23, List.forall_mem_cons.mpr ⟨lw_p24, List.forall_mem_cons.mpr ⟨lw_p25, List.forall_mem_cons.mpr ⟨lw_p26, List.forall_mem_cons.mpr ⟨lw_p27, List.forall_mem_cons.mpr ⟨lw_p28, List.forall_mem_cons.mpr ⟨lw_p29, fun _ h => absurd h List.not_mem_nil⟩⟩⟩⟩⟩⟩⟩⟩⟩⟩⟩⟩⟩⟩
def lw_privs : List (MethodName × Nat) := lw_privs_1 ++ (lw_privs_2)
def lw_tbl : List Cond := k2_sels lw_privs ++ tables_1
theorem lw_privs_ok : ∀ q ∈ lw_privs, lw_okq q := by
  show ∀ q ∈ lw_privs_1 ++ (lw_privs_2), lw_okq q
  exact List.forall_mem_append.mpr ⟨lw_r1, lw_r2⟩
-- ===== end of PART A; then your names; then what follows =====
end
section
/-- the tables say: there is an array class over arrays of ty (the printed rows name this word and the kit has it not: written here) -/
def va_AOA (ty : FieldType) (s : State) : Prop := ∀ args : Array Value, (Cond.arrayOver (.array ty)).before args s = true
theorem va_AOA.use {ty : FieldType} {s : State} {args : Array Value} (h : va_AOA ty s) : (Cond.arrayOver (.array ty)).before args s = true := h args
/-! ===== BEGIN words of one list among another's, by their places ===== -/
theorem goodIn_r {big : List Cond} (ws : List Cond) (ps : List Nat) (hp : ws = ps.filterMap (fun i => big[i]?)) (h : ws.all goodWord = true) : GoodIn big ws := by
  intro w hw
  have h1 := List.all_eq_true.mp h w hw
  rw [hp] at hw
  obtain ⟨i, -, hi⟩ := List.mem_filterMap.mp hw
  have hm : w ∈ big := by first | exact List.mem_of_getElem? hi | exact List.getElem?_mem hi
  exact ⟨hm, good_of_word h1⟩
theorem goodIn_app {big a b : List Cond} (ha : GoodIn big a) (hb : GoodIn big b) : GoodIn big (a ++ b) := fun w h => (List.mem_append.mp h).elim (ha w) (hb w)
theorem goodIn_ca {big a b : List Cond} {c : Cond} (ha : GoodIn big (c :: a)) (hb : GoodIn big b) : GoodIn big (c :: (a ++ b)) := fun w h => (List.mem_cons.mp h).elim (fun e => ha w (List.mem_cons.mpr (Or.inl e))) (fun h => (List.mem_append.mp h).elim (fun h => ha w (List.mem_cons.mpr (Or.inr h))) (hb w))
theorem goodIn_sub {big ws : List Cond} (hm : ∀ w ∈ ws, w ∈ big) (h : ws.all goodWord = true) : GoodIn big ws := fun w hw => ⟨hm w hw, good_of_word (List.all_eq_true.mp h w hw)⟩
/-! ===== END ===== -/

/-! ===== BEGIN new T[n][m]: the outer array a place, the inner ones among the pooled ===== -/
/-- f, but v at every address of l -/
def vr_up {α : Type} (f : Nat → α) (l : List Nat) (v : α) : Nat → α := fun a => if a ∈ l then v else f a
theorem vr_up_in {α : Type} {f : Nat → α} {l : List Nat} {v : α} {a : Nat} (h : a ∈ l) : vr_up f l v a = v := if_pos h
theorem vr_up_ne {α : Type} {f : Nat → α} {l : List Nat} {v : α} {a : Nat} (h : a ∉ l) : vr_up f l v a = f a := if_neg h
theorem vr_rows {L l : List Nat} {f : Nat → va_E} {e : va_E} (h : ∀ a, a ∈ l → a ∉ L) : va_pl L f ++ l.map (fun a => (a, e)) = va_pl (L ++ l) (vr_up f l e) := by
  unfold va_pl
  rw [List.map_append]
  congr 1
  · apply List.map_congr_left
    intro a ha
    rw [vr_up_ne (fun q => h a q ha)]
  · apply List.map_congr_left
    intro a ha
    rw [vr_up_in ha]
theorem vr_lay {X rows : va_W} {x : Nat × va_E} {pl : va_W} {D : va_G} {cl : List vw_C} {H : Heap} (hP : va_P D cl (((X ++ pl) ++ [x]) ++ rows) H) : va_P D cl ((X ++ [x]) ++ (pl ++ rows)) H := by
  rw [List.append_assoc (X ++ pl)] at hP
  have h := va_P.swap hP
  rw [← List.append_assoc X] at h
  have h2 := va_P.swap h
  rw [List.append_assoc (X ++ [x])] at h2
  exact h2
theorem vr_layD {X rows : va_W} {x : Nat × va_E} {pl : va_W} {A : Nat → Prop} (hD : va_D A (((X ++ pl) ++ [x]) ++ rows)) : va_D A ((X ++ [x]) ++ (pl ++ rows)) := by
  rw [List.append_assoc (X ++ pl)] at hD
  have h := va_D.swap hD
  rw [← List.append_assoc X] at h
  have h2 := va_D.swap h
  rw [List.append_assoc (X ++ [x])] at h2
  exact h2
theorem vr_outer (c : ClassId) (N h0 : Nat) : ∀ i : Nat, Jvm.Free.Multi.outerC c N h0 i = arrV c N (fun j => va_rf (if j < i then some (h0 + 1 + j) else none))
  | 0 => by
    show ({ cls := c, slots := Array.replicate N .null, vm := .none } : Cell) = _
    rw [arrV_new]
    refine congrArg (arrV c N) (funext fun j => ?_)
    simp [va_rf]
  | i + 1 => by
    show (Jvm.Free.Multi.outerC c N h0 i).setSlot i (.ref (h0 + 1 + i)) = _
    rw [vr_outer c N h0 i, arrV_store]
    refine congrArg (arrV c N) (funext fun j => ?_)
    by_cases e : j = i
    · subst e
      simp [updV, va_rf]
    · by_cases h : j < i
      · simp [updV, e, h, Nat.lt_succ_of_lt h]
      · simp [updV, e, h, show ¬ j < i + 1 by omega]
section VGM
variable {p : Program} {l : Launch} {e : Env} {R : Room} {s : State} {m : MethodId} {args : Array Value} {below : List Frame} {meth : Method} {c : Code} {H : Heap} {locs : List Loc} {cells slots : Nat} {Q : State → Prop}
variable {cc : ByteArray} {pc : Nat} {ls : Array Slot} {rest : List Value} {D : va_G} {cl : List vw_C} {A : Nat → Prop} {a : Nat} {tys : List (ClassId × FieldType)} {ws : va_W} {H0 : Heap}
theorem va_mna {X : va_W} {L : List Nat} {f : Nat → va_E} {cc : ByteArray} (hexec : p.tables.exec = Jvm.exec) (hb : c.code = cc) {own : String} {index : Nat} {ty : FieldType} {cy : ClassId} (hown : s.vm.findClass own = some m.cls) (hclink : (Cond.classLink own index ("[" ++ (FieldType.array ty).toString)).before args s = true) (hover : va_AOA ty s) (harr : (Cond.arrayClass ty).before args s = true) (hcy : s.vm.findClass (FieldType.array ty).toString = some cy)
    (hK : va_K D cl tys s) (hP : va_P D cl (X ++ va_pl L f) H) (hD : va_D A (X ++ va_pl L f)) (hS : va_S A H0 H locs) (hA : ∀ q, H0.size ≤ q → A q) {n k : Int32} {N' K' : Nat} {z : vp_A} (hn : ¬ n < 0) (hk : ¬ k < 0) (hN : n.toNatClampNeg = N') (hM : k.toNatClampNeg = K')
    (hb1 : N' * 4 ≤ 536870912) (hb2 : K' * componentBytes ty ≤ 536870912) (hb3 : K' ≤ 536870912) (hdf : fits ty (defaultValue ty) = true) (hdd : (defaultValue ty).isDefault = true) (hcells : cells + (1 + N') ≤ R.cells) (hslots : slots + (N' + N' * K') ≤ R.slots) (hz : ∀ c : ClassId, Jvm.Free.Multi.innerC c K' (defaultValue ty) = vp_cell c z) (hdg : decode cc pc = .ok (.multianewarray index 2, 4))
    (kk : ∀ (q : Nat) (r : Nat → Nat) (cA : ClassId) (H1 : Heap), (∀ i j : Nat, i < N' → j < N' → r i = r j → i = j) → (∀ i : Nat, i < N' → r i ∉ L) → va_K D cl (tys ++ [(cA, .array ty)]) s →
      va_P D cl ((X ++ [(q, .inl (cA, N', .inr (.inr (.inr (.inr (fun i => if i < N' then some (r i) else none))))))]) ++ va_pl (L ++ (List.range N').map r) (vr_up f ((List.range N').map r) (.inl (cy, z)))) H1 → va_D A ((X ++ [(q, .inl (cA, N', .inr (.inr (.inr (.inr (fun i => if i < N' then some (r i) else none))))))]) ++ va_pl (L ++ (List.range N').map r) (vr_up f ((List.range N').map r) (.inl (cy, z)))) → va_S A H0 H1 locs →
      W p l e R s m args below meth c H1 locs (cells + 1 + N') (slots + N' + N' * K') Q (F0 m (pc + 4) ls (.ref q :: rest))) : W p l e R s m args below meth c H locs cells slots Q (F0 m pc ls (.int k :: .int n :: rest)) := by
  subst hN
  subst hM
  intro T hT Xs
  obtain ⟨vm₁, cA, comp, -, fA, fC, hO, -, X', step⟩ := Xs.multianewarray2F hexec hown hclink (va_AOA.use hover) harr (g := F0 m pc ls (.int k :: .int n :: rest)) rfl (by rw [hb]; exact hdg) rfl hn hk hb1 hb2 hb3 hdf hdd hcells hslots
  have ec : some cy = some comp := hcy.symm.trans fC
  cases ec
  generalize hF : Jvm.Free.Multi.fill (T.setVm vm₁) cA cy n.toNatClampNeg k.toNatClampNeg (defaultValue ty) n.toNatClampNeg = F at X' step
  have hTh : (T.setVm vm₁).heap = H := hT
  obtain ⟨f1, f2, -, -⟩ := Jvm.Free.Multi.fill_facts (T.setVm vm₁) cA cy n.toNatClampNeg k.toNatClampNeg (defaultValue ty) n.toNatClampNeg
  rw [hF, hTh] at f1 f2
  have hold : ∀ x : Nat, x < H.size → F.heap[x]? = H[x]? := fun x hx => by
    have := Jvm.Free.Multi.fill_old (T.setVm vm₁) cA cy n.toNatClampNeg k.toNatClampNeg (defaultValue ty) (a := x) (by rw [hTh]; exact hx) n.toNatClampNeg
    rw [hF, hTh] at this
    exact this
  have hrow : ∀ j : Nat, j < n.toNatClampNeg → F.heap[H.size + 1 + j]? = some (vp_cell cy z) := fun j hj => by
    have := Jvm.Free.Multi.fill_inner (T.setVm vm₁) cA cy n.toNatClampNeg k.toNatClampNeg (defaultValue ty) n.toNatClampNeg j hj
    rw [hF, hTh, hz] at this
    exact this
  have hout : Jvm.Free.Multi.outerC cA n.toNatClampNeg H.size n.toNatClampNeg = vp_cell cA (n.toNatClampNeg, .inr (.inr (.inr (.inr (fun i => if i < n.toNatClampNeg then some (H.size + 1 + i) else none))))) := by
    rw [vp_cell_q]
    exact vr_outer cA n.toNatClampNeg H.size n.toNatClampNeg
  rw [hout] at f2
  have hlt : ∀ a, a ∈ L → a < H.size := fun a ha => by
    obtain ⟨k9, hk9⟩ := va_pl_get (X := X) (f := f) ha
    exact (hP k9 _ hk9).lt
  have hnl : ∀ i : Nat, i < n.toNatClampNeg → H.size + 1 + i ∉ L := fun i _ h => by
    have := hlt _ h
    omega
  have hnm : ∀ a, a ∈ (List.range n.toNatClampNeg).map (fun i => H.size + 1 + i) → a ∉ L := fun a ha h => by
    obtain ⟨i, -, rfl⟩ := List.mem_map.mp ha
    have := hlt _ h
    omega
  have hP0 : va_P D cl (X ++ va_pl L f) F.heap := hP.kept (fun k9 x hx => hold x.1 ((hP k9 x hx).lt))
  have hP1 : va_P D cl ((X ++ va_pl L f) ++ [(H.size, .inl (cA, n.toNatClampNeg, .inr (.inr (.inr (.inr (fun i => if i < n.toNatClampNeg then some (H.size + 1 + i) else none))))))]) F.heap := hP0.app (fun k9 x hx => by
    have h0 : k9 < 1 := (List.getElem?_eq_some_iff.mp hx).1
    rw [show k9 = 0 by omega] at hx
    cases hx
    exact f2)
  have hP2 : va_P D cl (((X ++ va_pl L f) ++ [(H.size, .inl (cA, n.toNatClampNeg, .inr (.inr (.inr (.inr (fun i => if i < n.toNatClampNeg then some (H.size + 1 + i) else none))))))]) ++ ((List.range n.toNatClampNeg).map (fun i => H.size + 1 + i)).map (fun a => (a, .inl (cy, z)))) F.heap := hP1.app (fun k9 x hx => by
    obtain ⟨a, ha, rfl⟩ := List.mem_map.mp (List.mem_of_getElem? hx)
    obtain ⟨i, hi, rfl⟩ := List.mem_map.mp ha
    exact hrow i (List.mem_range.mp hi))
  have hD2 : va_D A (((X ++ va_pl L f) ++ [(H.size, .inl (cA, n.toNatClampNeg, .inr (.inr (.inr (.inr (fun i => if i < n.toNatClampNeg then some (H.size + 1 + i) else none))))))]) ++ ((List.range n.toNatClampNeg).map (fun i => H.size + 1 + i)).map (fun a => (a, .inl (cy, z)))) := by
    have hD1 := hD.push (e := .inl (cA, n.toNatClampNeg, .inr (.inr (.inr (.inr (fun i => if i < n.toNatClampNeg then some (H.size + 1 + i) else none)))))) hP rfl (hA _ hS.1)
    generalize hW1 : (X ++ va_pl L f) ++ [(H.size, .inl (cA, n.toNatClampNeg, .inr (.inr (.inr (.inr (fun i => if i < n.toNatClampNeg then some (H.size + 1 + i) else none))))))] = W1 at hD1 hP1 ⊢
    have hle : ∀ (k9 : Nat) (x : Nat × va_E), W1[k9]? = some x → x.1 ≤ H.size := fun k9 x hx => by
      rw [← hW1] at hx
      by_cases hl : k9 < (X ++ va_pl L f).length
      · rw [List.getElem?_append_left hl] at hx
        exact Nat.le_of_lt ((hP k9 x hx).lt)
      · rw [List.getElem?_append_right (by omega)] at hx
        have h0 : k9 - (X ++ va_pl L f).length < 1 := (List.getElem?_eq_some_iff.mp hx).1
        rw [show k9 - (X ++ va_pl L f).length = 0 by omega] at hx
        cases hx
        exact Nat.le_refl _
    have hr : ∀ (k9 : Nat) (x : Nat × va_E), (((List.range n.toNatClampNeg).map (fun i => H.size + 1 + i)).map (fun a => ((a, .inl (cy, z)) : Nat × va_E)))[k9]? = some x → x.1 = H.size + 1 + k9 := fun k9 x hx => by
      rw [List.getElem?_map, List.getElem?_map] at hx
      by_cases h9 : k9 < n.toNatClampNeg
      · rw [List.getElem?_range h9] at hx
        cases hx
        rfl
      · have hn0 : (List.range n.toNatClampNeg)[k9]? = none := List.getElem?_eq_none (by rw [List.length_range]; omega)
        rw [hn0] at hx
        cases hx
    refine ⟨fun i j x y hi hj hxy => ?_, fun k9 x hx => ?_⟩
    · by_cases h1 : i < W1.length <;> by_cases h2 : j < W1.length
      · rw [List.getElem?_append_left h1] at hi
        rw [List.getElem?_append_left h2] at hj
        exact hD1.1 i j x y hi hj hxy
      · rw [List.getElem?_append_left h1] at hi
        rw [List.getElem?_append_right (by omega)] at hj
        have := hle _ _ hi
        have := hr _ _ hj
        omega
      · rw [List.getElem?_append_right (by omega)] at hi
        rw [List.getElem?_append_left h2] at hj
        have := hle _ _ hj
        have := hr _ _ hi
        omega
      · rw [List.getElem?_append_right (by omega)] at hi hj
        have := hr _ _ hi
        have := hr _ _ hj
        omega
    · by_cases h1 : k9 < W1.length
      · rw [List.getElem?_append_left h1] at hx
        exact hD1.2 k9 x hx
      · rw [List.getElem?_append_right (by omega)] at hx
        have := hr _ _ hx
        exact hA _ (by have := hS.1; omega)
  have hAr : ArrOfT s cA (.array ty) := fun N9 z9 => by
    obtain ⟨-, k9, hk9, cm9, hkk9⟩ := (hO 0 0 0).1
    exact ⟨(fun q hq => by cases hq), k9, hk9, cm9, hkk9⟩
  have hK2 : va_K D cl (tys ++ [(cA, .array ty)]) s := ⟨hK.1, fun k9 x hx => by
    by_cases hl : k9 < tys.length
    · rw [List.getElem?_append_left hl] at hx
      exact hK.2 k9 x hx
    · rw [List.getElem?_append_right (by omega)] at hx
      have h0 : k9 - tys.length < 1 := (List.getElem?_eq_some_iff.mp hx).1
      rw [show k9 - tys.length = 0 by omega] at hx
      cases hx
      exact ⟨hAr, fA⟩⟩
  obtain ⟨t, a1, b1⟩ := kk H.size (fun i => H.size + 1 + i) cA F.heap (fun i j _ _ h => by have h9 : H.size + 1 + i = H.size + 1 + j := h; omega) hnl hK2 (by rw [← vr_rows hnm]; exact vr_lay hP2) (by rw [← vr_rows hnm]; exact vr_layD hD2) ⟨by rw [f1]; have := hS.1; omega, fun x h1 h2 => (hold x (Nat.lt_of_lt_of_le h1 hS.1)).trans (hS.2.1 x h1 h2), hS.2.2⟩ F rfl X'
  refine ⟨t, step t ?_, b1⟩
  have e : T.heap.size = H.size := by rw [hT]
  rw [e]
  exact a1
end VGM
/-! ===== END ===== -/

/-! ===== BEGIN exceptions that leave a method, and their catching by the caller (launches without stack traces) ===== -/
section VXA
/-! The laws vx_back, vx_callV, vx_callS, vx_callSW, vx_throw0, vx_throwS follow proofs of the library, with one case more: JvmDerived/Free/Laws.lean (Back.of_free), Shelf42/LK1.lean (callV, callS), Shelf/KitTraced.lean (throwNew0V, throwNewS). -/
/-- where a method has thrown q: the class by its name, the cell, what was written, the world -/
def vx_T (XC : String → State → State → Prop) (st : State) (q : Addr) (t : State) (mc ms : Nat) (free : Addr → Prop) : Prop :=
  ∃ (E : String) (ce : Cell) (L : List Loc), XC E st t ∧ t.heap[q]? = some ce ∧ ce.vm = .none ∧ st.vm.findClass E = some ce.cls ∧ st.WarmedH t.vm ∧ st.sameButNew ({ t with vm := st.vm } : State) L mc ms ∧ ∀ z ∈ L, free z.base
def vx_Q (Qc : Array Value → State → Outcome → State → Prop) (XC : String → State → State → Prop) (mc ms : Nat) (free : Addr → Prop) : Array Value → State → Outcome → State → Prop := fun a st o t =>
  (Qc a st o t ∧ ∃ L, FrameEnd st o t L mc ms ∧ ∀ q ∈ L, free q.base) ∨ ∃ q, o = .threw q ∧ vx_T XC st q t mc ms free
/-- a callee that returns or throws -/
def vx_Met (l : Launch) (y : MethodName) (ws : List Cond) (rm : Room) (Pc : Array Value → State → Prop) (Qc : Array Value → State → Outcome → State → Prop) (XC : String → State → State → Prop) (mc ms : Nat) (free : Addr → Prop) : Prop :=
  MetFree l y (headSpec ws rm) Pc (fun _ _ _ _ _ => True) (vx_Q Qc XC mc ms free)
def vx_Post (XC : String → State → State → Prop) (mc ms : Nat) (free : Addr → Prop) : Pt → Array Value → Addr → Pt → Prop := fun A a q B =>
  ∃ (g : JFrame) (mk : MethodId) (t : State) (L : List Loc) (E : String) (ce : Cell), B.U.heap = t.heap ∧ B.U.vm = t.vm ∧ XC E (A.U.calling g mk a) t ∧ t.heap[q]? = some ce ∧ ce.vm = .none ∧ A.U.vm.findClass E = some ce.cls ∧ B.locs = A.locs ++ L ∧ (∀ z ∈ L, free z.base) ∧ B.cells = A.cells + mc ∧ B.slots = A.slots + ms
def vx_Back (l : Launch) (R : Room) (p : Program) (e : Env) (below : List Frame) (s : State) (sargs : Array Value) (y : MethodName) (len W9 : Nat)
    (Pre : Pt → Array Value → Prop) (Post : Pt → Array Value → Option Value → Pt → Prop) (PostX : Pt → Array Value → Addr → Pt → Prop) : Prop :=
  ∀ (m : MethodId) (meth : Method) (c : Code) (A : Pt) (g : JFrame) (ig : Instr) (mk : MethodId) (a : Array Value),
    Stand p l e R s m sargs below meth c A.U A.locs A.cells A.slots → g.method = m → g.locals.size = c.maxLocals → decode c.code g.pc = .ok (ig, len) →
    2 * g.monitorRoom + (g.stack.map fun v => v.category).sum ≤ W9 → A.U.methodNamed? y = some mk → Pre A a →
    (∃ (v : Option Value) (B : Pt), Stand p l e R s m sargs below meth c B.U B.locs B.cells B.slots ∧ Post A a v B ∧
      Steps p.tables e below (doInvoke e (A.U.setTop g) [] mk a).1 (B.U.setTop { g with pc := g.pc + len, stack := v.toList ++ g.stack })) ∨
    (∃ (q : Addr) (B : Pt), Stand p l e R s m sargs below meth c B.U B.locs B.cells B.slots ∧ PostX A a q B ∧
      Steps p.tables e below (doInvoke e (A.U.setTop g) [] mk a).1 ((B.U.setTop g).pushFrame (.throwing q)))
section Payer
variable {l : Launch} {R : Room} {p : Program} {e : Env} {below : List Frame} {s : State} {sargs : Array Value} {y : MethodName} {len W9 : Nat}
theorem vx_back {ws : List Cond} {rm : Room} {Pc : Array Value → State → Prop} {Qc : Array Value → State → Outcome → State → Prop} {XC : String → State → State → Prop} {mc ms : Nat} {free : Addr → Prop} {bytes : ByteArray} {maxL : Nat} {ret : Option FieldType}
    (hM : vx_Met l y ws rm Pc Qc XC mc ms free) (hblind : FrameBlind Pc) (hrc : rm.cells = mc) (hrs : rm.slots = ms)
    (hframes : rm.frames + 1 ≤ R.frames) (hlocals : W9 + (maxL + 11) + rm.locals ≤ R.locals)
    (hws : ∀ w ∈ ws, ∀ a' U, s.WarmedH U.vm → w.before a' U = true) (hcode : Cond.code y bytes maxL ret ∈ ws) (hinit : ∀ a' U, s.WarmedH U.vm → (Cond.initialized y.cls).before a' U = true) :
    vx_Back l R p e below s sargs y len W9 (PreOf R mc ms Pc) (PostOf Qc mc ms free) (vx_Post XC mc ms free) := by
  intro m meth c A g ig mk a X hg hsize hdg hW hn hp
  have h1 : (headSpec ws rm).pre.before a A.U = true := atoms_intro fun w hw => hws w hw _ _ X.warmed
  have h2 : (Cond.code y bytes maxL ret).before a A.U = true := hws _ hcode _ _ X.warmed
  have h3 : (Cond.initialized y.cls).before a A.U = true := hinit _ _ X.warmed
  have h4 : A.cells + (headSpec ws rm).room.cells ≤ R.cells := by rw [show (headSpec ws rm).room.cells = mc from hrc]; exact hp.1
  have h5 : A.slots + (headSpec ws rm).room.slots ≤ R.slots := by rw [show (headSpec ws rm).room.slots = ms from hrs]; exact hp.2.1
  have hPc : Pc a (A.U.calling g mk a) := hblind _ _ _ _ hp.2.2
  obtain ⟨U, Ls, c0, s0⟩ := A
  dsimp only [Pt.U, Pt.locs, Pt.cells, Pt.slots] at h1 h2 h3 h4 h5 X hn hPc ⊢
  obtain ⟨methY, cY, hmY, hcY, -, hlY, -, -, -, -⟩ := Cond.code_spec hn h2
  obtain ⟨kY, hkY, -⟩ := className_of_methodNamed hn
  have hinitY : kY.init = .initialized := Cond.initialized_spec (findClass_of_methodNamed hn) hkY h3
  have h : At U g.method c below := by rw [hg]; exact X.here
  have hlocals9 : W9 + (maxL + 11) + (headSpec ws rm).room.locals ≤ R.locals := hlocals
  have happ : (headSpec ws rm).appliesLoose y e.platform (U.calling g mk a) = true :=
    Spec.appliesLoose_calling (g := g) h hdg hn hkY hinitY
      (X.room_calling (g := g) (R' := (headSpec ws rm).room) hsize hmY hcY hframes (by rw [hlY]; omega) h4 h5) h1
  obtain ⟨mid, hmid⟩ := h.above
  have hfr : (U.setTop g).frames = (.java g :: mid) ++ below := by rw [State.frames_setTop' g h.top, hmid]; rfl
  obtain ⟨o, s₂, hsteps, -, hend, hq⟩ := Steps.callFree hM p X.admits X.cas X.clock (acts := []) hfr happ hPc trivial
  have hq' : vx_Q Qc XC mc ms free a (U.calling g mk a) o s₂ := hq
  rw [State.frames_setTop' g h.top] at hend
  obtain ⟨g₀, hg0⟩ := Option.isSome_iff_exists.mp h.top
  obtain ⟨r, hr⟩ := State.topJava?_eq_some.mp hg0
  have hr' : (({ U with heap := s₂.heap, slotsUsed := s₂.slotsUsed } : State).setVm s₂.vm).frames = .java g₀ :: r := hr
  rcases hq' with ⟨hqc, L, hfe, hL⟩ | ⟨q, rfl, E, ce, L, hx, hce, hcv, hcl, hW₂, hsm, hL⟩
  · obtain ⟨⟨v, rfl⟩, hW₂, e2, q2, q3, q4, q5, q6⟩ := id hfe
    have e3 : s₂ = ({ (U.calling g mk a).setFrames s₂.frames with heap := s₂.heap, slotsUsed := s₂.slotsUsed } : State).setVm s₂.vm := by
      have : s₂ = ({ s₂ with vm := (U.calling g mk a).vm } : State).setVm s₂.vm := rfl
      rw [e2] at this
      exact this
    obtain ⟨c₂, i₂, len₂, hc₂, hd₂, hf₂⟩ := hend
    have hW' : U.WarmedH s₂.vm := hW₂
    have hcc : c₂ = c := by
      have h1 : s₂.code? g.method = U.code? g.method := by
        rw [State.code?_eq, State.code?_eq, hW'.alike.method?]
      exact Option.some.inj (hc₂.symm.trans (h1.trans h.code))
    subst hcc
    have hlen : len₂ = len := by rw [hdg] at hd₂; cases hd₂; rfl
    subst hlen
    have hs₂ : s₂ = (({ U with heap := s₂.heap, slotsUsed := s₂.slotsUsed } : State).setVm s₂.vm).setTop { g with pc := g.pc + len₂, stack := v.toList ++ g.stack } := by
      refine e3.trans ?_
      rw [hf₂, State.calling_eq h.top, State.setFrames_setFrames, State.setTop_of_frames _ hr', hr]
      rfl
    have hsame : U.sameButNew ({ U with heap := s₂.heap, slotsUsed := s₂.slotsUsed } : State) L mc ms := by
      refine ⟨?_, q2, q3, q4, q5, q6⟩
      obtain ⟨t, ht, -⟩ := State.frames_cons hr
      show ({ U with heap := s₂.heap, slotsUsed := s₂.slotsUsed } : State) = { U.setFrames U.frames with heap := s₂.heap, slotsUsed := s₂.slotsUsed }
      rw [State.setFrames_self ht]
    subst hg
    refine Or.inl ⟨v, ⟨(({ U with heap := s₂.heap, slotsUsed := s₂.slotsUsed } : State).setVm s₂.vm), Ls ++ L, c0 + mc, s0 + ms⟩,
      ⟨X.admits, X.cas, X.clock, X.frames, X.room, X.hears, X.method, X.code, (X.here.setHeapUsed s₂.heap s₂.slotsUsed).setVm hW'.alike, X.tail, State.WarmedH.trans X.warmed hW', X.limits, X.bytes, X.same.trans (hsame.setVm s.vm)⟩,
      ⟨g, mk, s₂, L, rfl, rfl, hqc, rfl, hL, rfl, rfl⟩, ?_⟩
    show Steps p.tables e below _ ((({ U with heap := s₂.heap, slotsUsed := s₂.slotsUsed } : State).setVm s₂.vm).setTop { g with pc := g.pc + len₂, stack := v.toList ++ g.stack })
    rw [← hs₂]
    exact hsteps
  · obtain ⟨e2, q2, q3, q4, q5, q6⟩ := id hsm
    have e3 : s₂ = ({ (U.calling g mk a).setFrames s₂.frames with heap := s₂.heap, slotsUsed := s₂.slotsUsed } : State).setVm s₂.vm := by
      have : s₂ = ({ s₂ with vm := (U.calling g mk a).vm } : State).setVm s₂.vm := rfl
      rw [e2] at this
      exact this
    have hf₂ : s₂.frames = .throwing q :: .java g :: U.frames.tail := hend
    have hW' : U.WarmedH s₂.vm := hW₂
    have hs₂ : s₂ = ((({ U with heap := s₂.heap, slotsUsed := s₂.slotsUsed } : State).setVm s₂.vm).setTop g).pushFrame (.throwing q) := by
      refine e3.trans ?_
      rw [hf₂, State.calling_eq h.top, State.setFrames_setFrames, State.pushFrame, State.frames_setTop _ hr', State.setTop_of_frames _ hr', State.setFrames_setFrames, hr]
      rfl
    have hsame : U.sameButNew ({ U with heap := s₂.heap, slotsUsed := s₂.slotsUsed } : State) L mc ms := by
      refine ⟨?_, q2, q3, q4, q5, q6⟩
      obtain ⟨t, ht, -⟩ := State.frames_cons hr
      show ({ U with heap := s₂.heap, slotsUsed := s₂.slotsUsed } : State) = { U.setFrames U.frames with heap := s₂.heap, slotsUsed := s₂.slotsUsed }
      rw [State.setFrames_self ht]
    subst hg
    refine Or.inr ⟨q, ⟨(({ U with heap := s₂.heap, slotsUsed := s₂.slotsUsed } : State).setVm s₂.vm), Ls ++ L, c0 + mc, s0 + ms⟩,
      ⟨X.admits, X.cas, X.clock, X.frames, X.room, X.hears, X.method, X.code, (X.here.setHeapUsed s₂.heap s₂.slotsUsed).setVm hW'.alike, X.tail, State.WarmedH.trans X.warmed hW', X.limits, X.bytes, X.same.trans (hsame.setVm s.vm)⟩,
      ⟨g, mk, s₂, L, E, ce, rfl, rfl, hx, hce, hcv, hcl, rfl, hL, rfl, rfl⟩, ?_⟩
    show Steps p.tables e below _ (((({ U with heap := s₂.heap, slotsUsed := s₂.slotsUsed } : State).setVm s₂.vm).setTop g).pushFrame (.throwing q))
    rw [← hs₂]
    exact hsteps
end Payer
section Calls
variable {p : Program} {l : Launch} {e : Env} {R : Room} {s : State} {m : MethodId} {args : Array Value} {below : List Frame} {meth : Method} {c : Code} {T : State} {locs : List Loc} {cells slots : Nat}
theorem vx_callV (X : Stand p l e R s m args below meth c T locs cells slots) (hexec : p.tables.exec = Jvm.exec) {own C : String} {index : Nat} {y : MethodName} {bytes : ByteArray} {maxL : Nat} {ret : Option FieldType}
    (hown : s.vm.findClass own = some m.cls) (hlink : (Cond.methodLink own index y).before args s = true) (hinst : (Cond.instanceMethod y).before args s = true) (hsel : (Cond.selects C y y).before args s = true)
    (hcode : (Cond.code y bytes maxL ret).before args s = true) (hy : y.cls ≠ "java/lang/invoke/MethodHandle" ∧ y.cls ≠ "java/lang/invoke/VarHandle")
    {W9 : Nat} {Pre : Pt → Array Value → Prop} {Post : Pt → Array Value → Option Value → Pt → Prop} {PostX : Pt → Array Value → Addr → Pt → Prop} (hK : vx_Back l R p e below s args y 3 W9 Pre Post PostX)
    {b : Addr} {cellB : Cell} (hcell : T.heap[b]? = some cellB) (hobj : cellB.vm.isStatics = false) (hcls : s.vm.findClass C = some cellB.cls)
    {g : JFrame} (hg : g.method = m) (hsize : g.locals.size = c.maxLocals) {argsL rest : List Value} (hlen : ∀ sig, parseMethodDescriptor y.desc = some sig → argsL.length = sig.parameters.length)
    (hstack : g.stack = argsL.reverse ++ .ref b :: rest) (hW : 2 * g.monitorRoom + (rest.map fun v => v.category).sum ≤ W9) (hdg : decode c.code g.pc = .ok (.invokevirtual index, 3))
    (hpre : ∀ vm₁, s.WarmedH vm₁ → Pre ⟨T.setVm vm₁, locs, cells, slots⟩ (Value.ref b :: argsL).toArray) :
    (∃ (v : Option Value) (vm₁ : Vm) (B : Pt), s.WarmedH vm₁ ∧ Stand p l e R s m args below meth c B.U B.locs B.cells B.slots ∧ Post ⟨T.setVm vm₁, locs, cells, slots⟩ (Value.ref b :: argsL).toArray v B ∧
      ∀ target, Steps p.tables e below (B.U.setTop { g with pc := g.pc + 3, stack := v.toList ++ rest }) target → Steps p.tables e below (T.setTop g) target) ∨
    (∃ (q : Addr) (vm₁ : Vm) (B : Pt), s.WarmedH vm₁ ∧ Stand p l e R s m args below meth c B.U B.locs B.cells B.slots ∧ PostX ⟨T.setVm vm₁, locs, cells, slots⟩ (Value.ref b :: argsL).toArray q B ∧
      Steps p.tables e below (T.setTop g) ((B.U.setTop { g with stack := rest }).pushFrame (.throwing q))) := by
  obtain ⟨mk, methM, hnamed, hmethM, hstM, habM⟩ := Cond.instanceMethod_spec hinst
  obtain ⟨methM', cM, hmethM', -, -, -, -, -, -, hsigM⟩ := Cond.code_spec hnamed hcode
  cases hmethM.symm.trans hmethM'
  obtain ⟨c2, r2, m2, q1, q2, q3, q4, kP, hkP, hkPi⟩ := Cond.selects_spec hsel
  cases hcls.symm.trans q1
  cases (State.methodFound?_of_named hnamed hy).symm.trans q2
  cases hnamed.symm.trans q3
  have hselP : selectMethod e.platform s.vm cellB.cls mk = .method mk := by rw [Launch.admits_selectMethod X.admits]; exact q4
  obtain ⟨vm₁, X₁, hstep₁⟩ := X.invokevirtual hexec hown hlink hnamed hmethM hstM hkP hkPi hy (a := b) (cell := cellB) hcell
    (fun z h => by rw [h] at hobj; cases hobj) hselP hmethM habM hkP hkPi (g := g) hg (argsL := argsL) (rest := rest) (hlen _ hsigM) hstack hdg
  rcases hK m meth c ⟨T.setVm vm₁, locs, cells, slots⟩ { g with stack := rest } (.invokevirtual index) mk (Value.ref b :: argsL).toArray X₁ hg hsize hdg hW (X₁.named hnamed) (hpre vm₁ X₁.warmed) with ⟨v, B, X', hpost, hsteps⟩ | ⟨q, B, X', hpost, hsteps⟩
  · exact Or.inl ⟨v, vm₁, B, X₁.warmed, X', hpost, fun target h => hstep₁ _ fun acts => by rw [doInvoke_state]; exact hsteps.trans h⟩
  · exact Or.inr ⟨q, vm₁, B, X₁.warmed, X', hpost, hstep₁ _ fun acts => by rw [doInvoke_state]; exact hsteps⟩
theorem vx_callS (X : Stand p l e R s m args below meth c T locs cells slots) (hexec : p.tables.exec = Jvm.exec) {own : String} {index : Nat} {y : MethodName} {bytes : ByteArray} {maxL : Nat} {ret : Option FieldType}
    (hown : s.vm.findClass own = some m.cls) (hlink : (Cond.methodLink own index y).before args s = true) (hstat : (Cond.static y).before args s = true) (hinit : (Cond.initialized y.cls).before args s = true)
    (hcode : (Cond.code y bytes maxL ret).before args s = true) (hy : y.cls ≠ "java/lang/invoke/MethodHandle" ∧ y.cls ≠ "java/lang/invoke/VarHandle")
    {W9 : Nat} {Pre : Pt → Array Value → Prop} {Post : Pt → Array Value → Option Value → Pt → Prop} {PostX : Pt → Array Value → Addr → Pt → Prop} (hK : vx_Back l R p e below s args y 3 W9 Pre Post PostX)
    {g : JFrame} (hg : g.method = m) (hsize : g.locals.size = c.maxLocals) {argsL rest : List Value} (hlen : ∀ sig, parseMethodDescriptor y.desc = some sig → argsL.length = sig.parameters.length)
    (hstack : g.stack = argsL.reverse ++ rest) (hW : 2 * g.monitorRoom + (rest.map fun v => v.category).sum ≤ W9) (hdg : decode c.code g.pc = .ok (.invokestatic index, 3))
    (hpre : ∀ vm₁, s.WarmedH vm₁ → Pre ⟨T.setVm vm₁, locs, cells, slots⟩ argsL.toArray) :
    (∃ (v : Option Value) (vm₁ : Vm) (B : Pt), s.WarmedH vm₁ ∧ Stand p l e R s m args below meth c B.U B.locs B.cells B.slots ∧ Post ⟨T.setVm vm₁, locs, cells, slots⟩ argsL.toArray v B ∧
      ∀ target, Steps p.tables e below (B.U.setTop { g with pc := g.pc + 3, stack := v.toList ++ rest }) target → Steps p.tables e below (T.setTop g) target) ∨
    (∃ (q : Addr) (vm₁ : Vm) (B : Pt), s.WarmedH vm₁ ∧ Stand p l e R s m args below meth c B.U B.locs B.cells B.slots ∧ PostX ⟨T.setVm vm₁, locs, cells, slots⟩ argsL.toArray q B ∧
      Steps p.tables e below (T.setTop g) ((B.U.setTop { g with stack := rest }).pushFrame (.throwing q))) := by
  obtain ⟨mk, hnamed⟩ := Cond.code_named hcode
  obtain ⟨methM, cM, hmethM, -, -, -, -, -, -, hsigM⟩ := Cond.code_spec hnamed hcode
  have hstatic : methM.isStatic = true := Cond.static_spec hnamed hmethM hstat
  obtain ⟨kP, hkP, -⟩ := className_of_methodNamed hnamed
  have hinitP : kP.init = .initialized := Cond.initialized_spec (findClass_of_methodNamed hnamed) hkP hinit
  obtain ⟨vm₁, X₁, hstep₁⟩ := X.invokestatic hexec hown hlink hnamed hmethM hstatic hkP hinitP hy (g := g) hg (argsL := argsL) (rest := rest) (hlen _ hsigM) hstack hdg
  rcases hK m meth c ⟨T.setVm vm₁, locs, cells, slots⟩ { g with stack := rest } (.invokestatic index) mk argsL.toArray X₁ hg hsize hdg hW (X₁.named hnamed) (hpre vm₁ X₁.warmed) with ⟨v, B, X', hpost, hsteps⟩ | ⟨q, B, X', hpost, hsteps⟩
  · exact Or.inl ⟨v, vm₁, B, X₁.warmed, X', hpost, fun target h => hstep₁ _ fun acts => by rw [doInvoke_state]; exact hsteps.trans h⟩
  · exact Or.inr ⟨q, vm₁, B, X₁.warmed, X', hpost, hstep₁ _ fun acts => by rw [doInvoke_state]; exact hsteps⟩
end Calls
theorem vx_cls {s : State} {T : State} {vm₁ : Vm} {E : String} {k : ClassId} (hW : s.WarmedH vm₁) (h : (T.setVm vm₁).vm.findClass E = some k) : s.vm.findClass E = some k := by
  have h1 : vm₁.findClass E = some k := h
  rw [hW.alike.findClass] at h1
  exact h1
/-- the method's frame g, with q thrown over it -/
def vx_W (p : Program) (l : Launch) (e : Env) (R : Room) (s : State) (m : MethodId) (args : Array Value) (below : List Frame) (meth : Method) (c : Code) (H : Heap) (locs : List Loc) (cells slots : Nat) (Q : State → Prop) (g : JFrame) (q : Addr) : Prop :=
  ∀ T : State, T.heap = H → Stand p l e R s m args below meth c T locs cells slots → ∃ t, Steps p.tables e below ((T.setTop g).pushFrame (.throwing q)) t ∧ Q t
def vx_Run (p : Program) (l : Launch) (e : Env) (R : Room) (s : State) (m : MethodId) (args : Array Value) (below : List Frame) (meth : Method) (c : Code) (H : Heap) (locs : List Loc) (cells slots mc ms : Nat) (g : JFrame) (rest : List Value) (Qa : State → Outcome → State → Prop) (XC : String → State → State → Prop) (free : Addr → Prop) : Prop :=
  ∀ T : State, T.heap = H → Stand p l e R s m args below meth c T locs cells slots →
    (∃ (v : Option Value) (st₀ t T' : State) (L : List Loc), st₀.heap = H ∧ Stand p l e R s m args below meth c T' (locs ++ L) (cells + mc) (slots + ms) ∧ (∀ q ∈ L, free q.base) ∧ T'.heap = t.heap ∧ T'.vm = t.vm ∧ Qa st₀ (.returned v) t ∧
      Goes p e below T g T' { g with pc := g.pc + 3, stack := v.toList ++ rest }) ∨
    (∃ (q : Addr) (st₀ t T' : State) (L : List Loc) (E : String) (ce : Cell), st₀.heap = H ∧ Stand p l e R s m args below meth c T' (locs ++ L) (cells + mc) (slots + ms) ∧ (∀ z ∈ L, free z.base) ∧ T'.heap = t.heap ∧ T'.vm = t.vm ∧ XC E st₀ t ∧ t.heap[q]? = some ce ∧ ce.vm = .none ∧ s.vm.findClass E = some ce.cls ∧
      Steps p.tables e below (T.setTop g) ((T'.setTop { g with stack := rest }).pushFrame (.throwing q)))
def vx_X {S : Type} (px : S → Prop) (B : String → S → State → Prop) (A : Nat → Prop) : String → State → State → Prop := fun E st t => ∃ u : S, px u ∧ B E u t ∧ va_F A st t
section Runs
variable {p : Program} {l : Launch} {e : Env} {R : Room} {s : State} {m : MethodId} {args : Array Value} {below : List Frame} {meth : Method} {c : Code} {H : Heap} {locs : List Loc} {cells slots : Nat}
variable {y : MethodName} {bytes cc : ByteArray} {maxL nL mc ms n index : Nat} {ret : Option FieldType} {ws : List Cond} {rm : Room} {Pc : Array Value → State → Prop} {Qc : Array Value → State → Outcome → State → Prop} {XC : String → State → State → Prop} {free : Addr → Prop} {Ts : List Cond} {own C : String} {b : Addr} {As rest : List Value} {g : JFrame}
theorem vx_callBack (cb : CallB R s args own index y bytes maxL ret ws rm mc ms n) (hM : vx_Met l y ws rm Pc Qc XC mc ms free) (hbl : FrameBlind Pc) : vx_Back l R p e below s args y 3 8 (PreOf R mc ms Pc) (PostOf Qc mc ms free) (vx_Post XC mc ms free) := by
  obtain ⟨hrc, hrs, hfr, hlo, hws, hcw, -, hini, -⟩ := cb
  exact vx_back (bytes := bytes) (maxL := maxL) (ret := ret) hM hbl hrc hrs hfr hlo hws hcw (fun a' U hW => word_at hW (Or.inl (by first | rfl | simp [Cond.onTables, Cond.keeps, Cond.steady])) hini)
theorem vx_runV (S : CallFix p m c cc nL s args Ts own) (hM : vx_Met l y ws rm Pc Qc XC mc ms free) (cw : CallW R s args own C index y bytes maxL ret ws rm mc ms n) (hp : PreV s H C b Pc As)
    (hg : g.method = m) (hn : As.length = n) (hsize : g.locals.size = nL) (hstack : g.stack = As.reverse ++ .ref b :: rest) (hW : 2 * g.monitorRoom + (rest.map fun v => v.category).sum ≤ 8) (hdg : decode cc g.pc = .ok (.invokevirtual index, 3)) (hf : cells + mc ≤ R.cells ∧ slots + ms ≤ R.slots) :
    vx_Run p l e R s m args below meth c H locs cells slots mc ms g rest (Qc (Value.ref b :: As).toArray) XC free := by
  have hK : vx_Back l R p e below s args y 3 8 (PreOf R mc ms Pc) (PostOf Qc mc ms free) (vx_Post XC mc ms free) := vx_callBack cw.1 hM hp.1
  obtain ⟨⟨-, -, -, -, -, -, hcode, -, hy, hlen, hl⟩, hin, hse⟩ := cw
  obtain ⟨hx, hb, hml, ho, -⟩ := S
  obtain ⟨-, ⟨cellB, hcB, hoB, hclB⟩, hPc⟩ := hp
  intro T hT X
  rcases vx_callV X hx (C := C) (bytes := bytes) (maxL := maxL) (ret := ret) ho hl hin hse hcode hy hK (by rw [hT]; exact hcB) hoB hclB hg (hsize.trans hml.symm) (argsL := As) (rest := rest) (fun sig h => hn.trans (hlen sig h)) hstack hW (by rw [hb]; exact hdg)
    (fun vm₁ hW₁ => ⟨hf.1, hf.2, hPc (T.setVm vm₁) hT hW₁⟩) with ⟨v, vm₁, ⟨U', l2, c2, s2⟩, hW₁, X', ⟨g', mk, t, L, e1, e2, hq, h1, hL, h2, h3⟩, st⟩ | ⟨q, vm₁, ⟨U', l2, c2, s2⟩, hW₁, X', ⟨g', mk, t, L, E, ce, e1, e2, hq, hce, hcv, hcl, h1, hL, h2, h3⟩, st⟩
  · dsimp only [Pt.U, Pt.locs, Pt.cells, Pt.slots] at X' e1 e2 h1 h2 h3 st
    subst h1; subst h2; subst h3
    exact Or.inl ⟨v, (T.setVm vm₁).calling g' mk (Value.ref b :: As).toArray, t, U', L, hT, X', hL, e1, e2, hq, st⟩
  · dsimp only [Pt.U, Pt.locs, Pt.cells, Pt.slots] at X' e1 e2 h1 h2 h3 st hcl
    subst h1; subst h2; subst h3
    exact Or.inr ⟨q, (T.setVm vm₁).calling g' mk (Value.ref b :: As).toArray, t, U', L, E, ce, hT, X', hL, e1, e2, hq, hce, hcv, vx_cls hW₁ hcl, st⟩
theorem vx_runS (S : CallFix p m c cc nL s args Ts own) (hM : vx_Met l y ws rm Pc Qc XC mc ms free) (cw : CallB R s args own index y bytes maxL ret ws rm mc ms n ∧ (Cond.static y).before args s = true) (hp : PreS s H Pc As)
    (hg : g.method = m) (hn : As.length = n) (hsize : g.locals.size = nL) (hstack : g.stack = As.reverse ++ rest) (hW : 2 * g.monitorRoom + (rest.map fun v => v.category).sum ≤ 8) (hdg : decode cc g.pc = .ok (.invokestatic index, 3)) (hf : cells + mc ≤ R.cells ∧ slots + ms ≤ R.slots) :
    vx_Run p l e R s m args below meth c H locs cells slots mc ms g rest (Qc As.toArray) XC free := by
  have hK : vx_Back l R p e below s args y 3 8 (PreOf R mc ms Pc) (PostOf Qc mc ms free) (vx_Post XC mc ms free) := vx_callBack cw.1 hM hp.1
  obtain ⟨⟨-, -, -, -, -, -, hcode, hini, hy, hlen, hl⟩, hstt⟩ := cw
  obtain ⟨hx, hb, hml, ho, -⟩ := S
  intro T hT X
  rcases vx_callS X hx (bytes := bytes) (maxL := maxL) (ret := ret) ho hl hstt hini hcode hy hK hg (hsize.trans hml.symm) (argsL := As) (rest := rest) (fun sig h => hn.trans (hlen sig h)) hstack hW (by rw [hb]; exact hdg)
    (fun vm₁ hW₁ => ⟨hf.1, hf.2, hp.2 (T.setVm vm₁) hT hW₁⟩) with ⟨v, vm₁, ⟨U', l2, c2, s2⟩, hW₁, X', ⟨g', mk, t, L, e1, e2, hq, h1, hL, h2, h3⟩, st⟩ | ⟨q, vm₁, ⟨U', l2, c2, s2⟩, hW₁, X', ⟨g', mk, t, L, E, ce, e1, e2, hq, hce, hcv, hcl, h1, hL, h2, h3⟩, st⟩
  · dsimp only [Pt.U, Pt.locs, Pt.cells, Pt.slots] at X' e1 e2 h1 h2 h3 st
    subst h1; subst h2; subst h3
    exact Or.inl ⟨v, (T.setVm vm₁).calling g' mk As.toArray, t, U', L, hT, X', hL, e1, e2, hq, st⟩
  · dsimp only [Pt.U, Pt.locs, Pt.cells, Pt.slots] at X' e1 e2 h1 h2 h3 st hcl
    subst h1; subst h2; subst h3
    exact Or.inr ⟨q, (T.setVm vm₁).calling g' mk As.toArray, t, U', L, E, ce, hT, X', hL, e1, e2, hq, hce, hcv, vx_cls hW₁ hcl, st⟩
end Runs
section Rows
variable {p : Program} {l : Launch} {e : Env} {R : Room} {s : State} {m : MethodId} {args : Array Value} {below : List Frame} {meth : Method} {c : Code} {H : Heap} {locs : List Loc} {cells slots : Nat} {Q : State → Prop}
variable {mc ms : Nat} {free : Addr → Prop} {A0 A1 : Nat → Prop} {H0 : Heap} {a : Array Value} {pc : Nat} {ls : Array Slot} {st0 rest : List Value}
theorem vx_keep {st₀ t T' : State} {L : List Loc} (h0 : st₀.heap = H) (e1 : T'.heap = t.heap) (hS : va_S A0 H0 H locs) (hA : ∀ q, q < H.size → A1 q → A0 q) (hf : ∀ q, free q → A0 q) (hL : ∀ q ∈ L, free q.base) (hF : va_F A1 st₀ t) :
    H.size ≤ T'.heap.size ∧ (∀ q : Nat, q < H.size → ¬ A1 q → T'.heap[q]? = H[q]?) ∧ va_S A0 H0 T'.heap (locs ++ L) := by
  obtain ⟨hz, hk⟩ := hF
  rw [h0] at hz hk
  exact ⟨by rw [e1]; exact hz, fun q h1 h2 => by rw [e1]; exact hk q h1 h2,
    ⟨Nat.le_trans hS.1 (by rw [e1]; exact hz), fun q h1 h2 => by rw [e1, hk q (Nat.lt_of_lt_of_le h1 hS.1) (fun z => h2 (hA q (Nat.lt_of_lt_of_le h1 hS.1) z))]; exact hS.2.1 q h1 h2, fun q hq => by
      rcases List.mem_append.mp hq with h | h
      · exact hS.2.2 q h
      · exact hf _ (hL q h)⟩⟩
theorem vx_calli {S SX : Type} {post : Int32 → S → Prop} {px : SX → Prop} {B : S → State → Prop} {BX : String → SX → State → Prop} {AX : Nat → Prop} (hr : vx_Run p l e R s m args below meth c H locs cells slots mc ms (F0 m pc ls st0) rest (va_Qi post B A1 a) (vx_X px BX AX) free) (hS : va_S A0 H0 H locs) (hA : ∀ q, q < H.size → A1 q → A0 q) (hf : ∀ q, free q → A0 q) (hAX : ∀ q, q < H.size → AX q → A0 q)
    (kx : ∀ (E : String) (ce : Cell) (q9 : Addr) (u : SX) (t : State) (H1 : Heap) (locs1 : List Loc), t.heap = H1 → s.vm.Alike t.vm → px u → BX E u t → H.size ≤ H1.size → (∀ q : Nat, q < H.size → ¬ AX q → H1[q]? = H[q]?) → va_S A0 H0 H1 locs1 → H1[q9]? = some ce → ce.vm = .none → s.vm.findClass E = some ce.cls → vx_W p l e R s m args below meth c H1 locs1 (cells + mc) (slots + ms) Q (F0 m pc ls rest) q9)
    (kk : ∀ (r : Int32) (u : S) (t : State) (H1 : Heap) (locs1 : List Loc), t.heap = H1 → s.vm.Alike t.vm → post r u → B u t → H.size ≤ H1.size → (∀ q : Nat, q < H.size → ¬ A1 q → H1[q]? = H[q]?) → va_S A0 H0 H1 locs1 → W p l e R s m args below meth c H1 locs1 (cells + mc) (slots + ms) Q (F0 m (pc + 3) ls (.int r :: rest))) : W p l e R s m args below meth c H locs cells slots Q (F0 m pc ls st0) := by
  intro T hT X
  rcases hr T hT X with ⟨v, st₀, t, T', L, h0, X', hL, e1, e2, ⟨⟨r, u, hv, hp, hb⟩, hF⟩, st⟩ | ⟨q, st₀, t, T', L, E, ce, h0, X', hL, e1, e2, ⟨u, hp, hb, hF⟩, hce, hcv, hcl, st⟩
  · cases hv
    obtain ⟨k1, k2, k3⟩ := vx_keep h0 e1 hS hA hf hL hF
    obtain ⟨t2, a1, b1⟩ := kk r u t T'.heap (locs ++ L) e1.symm (by rw [← e2]; exact X'.warmed.alike) hp hb k1 k2 k3 T' rfl X'
    exact ⟨t2, st t2 a1, b1⟩
  · obtain ⟨k1, k2, k3⟩ := vx_keep h0 e1 hS hAX hf hL hF
    obtain ⟨t2, a1, b1⟩ := kx E ce q u t T'.heap (locs ++ L) e1.symm (by rw [← e2]; exact X'.warmed.alike) hp hb k1 k2 k3 (by rw [e1]; exact hce) hcv hcl T' rfl X'
    exact ⟨t2, st.trans a1, b1⟩
theorem vx_calll {S SX : Type} {post : Int64 → S → Prop} {px : SX → Prop} {B : S → State → Prop} {BX : String → SX → State → Prop} {AX : Nat → Prop} (hr : vx_Run p l e R s m args below meth c H locs cells slots mc ms (F0 m pc ls st0) rest (va_Ql post B A1 a) (vx_X px BX AX) free) (hS : va_S A0 H0 H locs) (hA : ∀ q, q < H.size → A1 q → A0 q) (hf : ∀ q, free q → A0 q) (hAX : ∀ q, q < H.size → AX q → A0 q)
    (kx : ∀ (E : String) (ce : Cell) (q9 : Addr) (u : SX) (t : State) (H1 : Heap) (locs1 : List Loc), t.heap = H1 → s.vm.Alike t.vm → px u → BX E u t → H.size ≤ H1.size → (∀ q : Nat, q < H.size → ¬ AX q → H1[q]? = H[q]?) → va_S A0 H0 H1 locs1 → H1[q9]? = some ce → ce.vm = .none → s.vm.findClass E = some ce.cls → vx_W p l e R s m args below meth c H1 locs1 (cells + mc) (slots + ms) Q (F0 m pc ls rest) q9)
    (kk : ∀ (r : Int64) (u : S) (t : State) (H1 : Heap) (locs1 : List Loc), t.heap = H1 → s.vm.Alike t.vm → post r u → B u t → H.size ≤ H1.size → (∀ q : Nat, q < H.size → ¬ A1 q → H1[q]? = H[q]?) → va_S A0 H0 H1 locs1 → W p l e R s m args below meth c H1 locs1 (cells + mc) (slots + ms) Q (F0 m (pc + 3) ls (.long r :: rest))) : W p l e R s m args below meth c H locs cells slots Q (F0 m pc ls st0) := by
  intro T hT X
  rcases hr T hT X with ⟨v, st₀, t, T', L, h0, X', hL, e1, e2, ⟨⟨r, u, hv, hp, hb⟩, hF⟩, st⟩ | ⟨q, st₀, t, T', L, E, ce, h0, X', hL, e1, e2, ⟨u, hp, hb, hF⟩, hce, hcv, hcl, st⟩
  · cases hv
    obtain ⟨k1, k2, k3⟩ := vx_keep h0 e1 hS hA hf hL hF
    obtain ⟨t2, a1, b1⟩ := kk r u t T'.heap (locs ++ L) e1.symm (by rw [← e2]; exact X'.warmed.alike) hp hb k1 k2 k3 T' rfl X'
    exact ⟨t2, st t2 a1, b1⟩
  · obtain ⟨k1, k2, k3⟩ := vx_keep h0 e1 hS hAX hf hL hF
    obtain ⟨t2, a1, b1⟩ := kx E ce q u t T'.heap (locs ++ L) e1.symm (by rw [← e2]; exact X'.warmed.alike) hp hb k1 k2 k3 (by rw [e1]; exact hce) hcv hcl T' rfl X'
    exact ⟨t2, st.trans a1, b1⟩
theorem vx_callf {S SX : Type} {post : UInt32 → S → Prop} {px : SX → Prop} {B : S → State → Prop} {BX : String → SX → State → Prop} {AX : Nat → Prop} (hr : vx_Run p l e R s m args below meth c H locs cells slots mc ms (F0 m pc ls st0) rest (va_Qf post B A1 a) (vx_X px BX AX) free) (hS : va_S A0 H0 H locs) (hA : ∀ q, q < H.size → A1 q → A0 q) (hf : ∀ q, free q → A0 q) (hAX : ∀ q, q < H.size → AX q → A0 q)
    (kx : ∀ (E : String) (ce : Cell) (q9 : Addr) (u : SX) (t : State) (H1 : Heap) (locs1 : List Loc), t.heap = H1 → s.vm.Alike t.vm → px u → BX E u t → H.size ≤ H1.size → (∀ q : Nat, q < H.size → ¬ AX q → H1[q]? = H[q]?) → va_S A0 H0 H1 locs1 → H1[q9]? = some ce → ce.vm = .none → s.vm.findClass E = some ce.cls → vx_W p l e R s m args below meth c H1 locs1 (cells + mc) (slots + ms) Q (F0 m pc ls rest) q9)
    (kk : ∀ (r : UInt32) (u : S) (t : State) (H1 : Heap) (locs1 : List Loc), t.heap = H1 → s.vm.Alike t.vm → post r u → B u t → H.size ≤ H1.size → (∀ q : Nat, q < H.size → ¬ A1 q → H1[q]? = H[q]?) → va_S A0 H0 H1 locs1 → W p l e R s m args below meth c H1 locs1 (cells + mc) (slots + ms) Q (F0 m (pc + 3) ls (.float r :: rest))) : W p l e R s m args below meth c H locs cells slots Q (F0 m pc ls st0) := by
  intro T hT X
  rcases hr T hT X with ⟨v, st₀, t, T', L, h0, X', hL, e1, e2, ⟨⟨r, u, hv, hp, hb⟩, hF⟩, st⟩ | ⟨q, st₀, t, T', L, E, ce, h0, X', hL, e1, e2, ⟨u, hp, hb, hF⟩, hce, hcv, hcl, st⟩
  · cases hv
    obtain ⟨k1, k2, k3⟩ := vx_keep h0 e1 hS hA hf hL hF
    obtain ⟨t2, a1, b1⟩ := kk r u t T'.heap (locs ++ L) e1.symm (by rw [← e2]; exact X'.warmed.alike) hp hb k1 k2 k3 T' rfl X'
    exact ⟨t2, st t2 a1, b1⟩
  · obtain ⟨k1, k2, k3⟩ := vx_keep h0 e1 hS hAX hf hL hF
    obtain ⟨t2, a1, b1⟩ := kx E ce q u t T'.heap (locs ++ L) e1.symm (by rw [← e2]; exact X'.warmed.alike) hp hb k1 k2 k3 (by rw [e1]; exact hce) hcv hcl T' rfl X'
    exact ⟨t2, st.trans a1, b1⟩
theorem vx_calld {S SX : Type} {post : UInt64 → S → Prop} {px : SX → Prop} {B : S → State → Prop} {BX : String → SX → State → Prop} {AX : Nat → Prop} (hr : vx_Run p l e R s m args below meth c H locs cells slots mc ms (F0 m pc ls st0) rest (va_Qd post B A1 a) (vx_X px BX AX) free) (hS : va_S A0 H0 H locs) (hA : ∀ q, q < H.size → A1 q → A0 q) (hf : ∀ q, free q → A0 q) (hAX : ∀ q, q < H.size → AX q → A0 q)
    (kx : ∀ (E : String) (ce : Cell) (q9 : Addr) (u : SX) (t : State) (H1 : Heap) (locs1 : List Loc), t.heap = H1 → s.vm.Alike t.vm → px u → BX E u t → H.size ≤ H1.size → (∀ q : Nat, q < H.size → ¬ AX q → H1[q]? = H[q]?) → va_S A0 H0 H1 locs1 → H1[q9]? = some ce → ce.vm = .none → s.vm.findClass E = some ce.cls → vx_W p l e R s m args below meth c H1 locs1 (cells + mc) (slots + ms) Q (F0 m pc ls rest) q9)
    (kk : ∀ (r : UInt64) (u : S) (t : State) (H1 : Heap) (locs1 : List Loc), t.heap = H1 → s.vm.Alike t.vm → post r u → B u t → H.size ≤ H1.size → (∀ q : Nat, q < H.size → ¬ A1 q → H1[q]? = H[q]?) → va_S A0 H0 H1 locs1 → W p l e R s m args below meth c H1 locs1 (cells + mc) (slots + ms) Q (F0 m (pc + 3) ls (.double r :: rest))) : W p l e R s m args below meth c H locs cells slots Q (F0 m pc ls st0) := by
  intro T hT X
  rcases hr T hT X with ⟨v, st₀, t, T', L, h0, X', hL, e1, e2, ⟨⟨r, u, hv, hp, hb⟩, hF⟩, st⟩ | ⟨q, st₀, t, T', L, E, ce, h0, X', hL, e1, e2, ⟨u, hp, hb, hF⟩, hce, hcv, hcl, st⟩
  · cases hv
    obtain ⟨k1, k2, k3⟩ := vx_keep h0 e1 hS hA hf hL hF
    obtain ⟨t2, a1, b1⟩ := kk r u t T'.heap (locs ++ L) e1.symm (by rw [← e2]; exact X'.warmed.alike) hp hb k1 k2 k3 T' rfl X'
    exact ⟨t2, st t2 a1, b1⟩
  · obtain ⟨k1, k2, k3⟩ := vx_keep h0 e1 hS hAX hf hL hF
    obtain ⟨t2, a1, b1⟩ := kx E ce q u t T'.heap (locs ++ L) e1.symm (by rw [← e2]; exact X'.warmed.alike) hp hb k1 k2 k3 (by rw [e1]; exact hce) hcv hcl T' rfl X'
    exact ⟨t2, st.trans a1, b1⟩
theorem vx_callv {S SX : Type} {post : S → Prop} {px : SX → Prop} {B : S → State → Prop} {BX : String → SX → State → Prop} {AX : Nat → Prop} (hr : vx_Run p l e R s m args below meth c H locs cells slots mc ms (F0 m pc ls st0) rest (va_Qv post B A1 a) (vx_X px BX AX) free) (hS : va_S A0 H0 H locs) (hA : ∀ q, q < H.size → A1 q → A0 q) (hf : ∀ q, free q → A0 q) (hAX : ∀ q, q < H.size → AX q → A0 q)
    (kx : ∀ (E : String) (ce : Cell) (q9 : Addr) (u : SX) (t : State) (H1 : Heap) (locs1 : List Loc), t.heap = H1 → s.vm.Alike t.vm → px u → BX E u t → H.size ≤ H1.size → (∀ q : Nat, q < H.size → ¬ AX q → H1[q]? = H[q]?) → va_S A0 H0 H1 locs1 → H1[q9]? = some ce → ce.vm = .none → s.vm.findClass E = some ce.cls → vx_W p l e R s m args below meth c H1 locs1 (cells + mc) (slots + ms) Q (F0 m pc ls rest) q9)
    (kk : ∀ (u : S) (t : State) (H1 : Heap) (locs1 : List Loc), t.heap = H1 → s.vm.Alike t.vm → post u → B u t → H.size ≤ H1.size → (∀ q : Nat, q < H.size → ¬ A1 q → H1[q]? = H[q]?) → va_S A0 H0 H1 locs1 → W p l e R s m args below meth c H1 locs1 (cells + mc) (slots + ms) Q (F0 m (pc + 3) ls (rest))) : W p l e R s m args below meth c H locs cells slots Q (F0 m pc ls st0) := by
  intro T hT X
  rcases hr T hT X with ⟨v, st₀, t, T', L, h0, X', hL, e1, e2, ⟨⟨u, hv, hp, hb⟩, hF⟩, st⟩ | ⟨q, st₀, t, T', L, E, ce, h0, X', hL, e1, e2, ⟨u, hp, hb, hF⟩, hce, hcv, hcl, st⟩
  · cases hv
    obtain ⟨k1, k2, k3⟩ := vx_keep h0 e1 hS hA hf hL hF
    obtain ⟨t2, a1, b1⟩ := kk u t T'.heap (locs ++ L) e1.symm (by rw [← e2]; exact X'.warmed.alike) hp hb k1 k2 k3 T' rfl X'
    exact ⟨t2, st t2 a1, b1⟩
  · obtain ⟨k1, k2, k3⟩ := vx_keep h0 e1 hS hAX hf hL hF
    obtain ⟨t2, a1, b1⟩ := kx E ce q u t T'.heap (locs ++ L) e1.symm (by rw [← e2]; exact X'.warmed.alike) hp hb k1 k2 k3 (by rw [e1]; exact hce) hcv hcl T' rfl X'
    exact ⟨t2, st.trans a1, b1⟩
/-- caught by the row x of this method's table; the rows ahead don't take it -/
theorem vx_catch {own name : String} {E : String} {ce : Cell} {q : Addr} (hown : s.vm.findClass own = some m.cls) (pre : List ExceptionTableEntry) (x : ExceptionTableEntry) (suf : List ExceptionTableEntry) (hsplit : c.exceptionTable.toList = pre ++ x :: suf)
    (hpass : ∀ z ∈ pre, covers z pc = false ∨ (z.catchType ≠ 0 ∧ ∃ nm : String, (Cond.classLink own z.catchType nm).before args s = true ∧ va_Nc E nm s)) (hx : covers x pc = true) (h0 : x.catchType ≠ 0)
    (hlink : (Cond.classLink own x.catchType name).before args s = true) (hcast : (Cond.castable E name).before args s = true) (hcell : H[q]? = some ce) (hv : ce.vm = .none) (hcl : s.vm.findClass E = some ce.cls)
    (kk : W p l e R s m args below meth c H locs cells slots Q (F0 m x.handlerPc ls [.ref q])) : vx_W p l e R s m args below meth c H locs cells slots Q (F0 m pc ls rest) q := by
  intro T hT X
  have hpl : e.platform.magicAccessors = ({} : Platform).magicAccessors := by rw [X.admits.platform]
  obtain ⟨c3, c4, hc3, hc4, hasg⟩ := Cond.castable_spec hcast
  cases Option.some.inj (hc3.symm.trans hcl)
  obtain ⟨c5, hc5, hcl5⟩ := Cond.classLink_spec hown hlink e.platform hpl
  cases Option.some.inj (hc4.symm.trans hc5)
  obtain ⟨vm', X', st⟩ := X.thenCaughtThrough q (g := F0 m pc ls rest) rfl (Steps.refl _) (by rw [hT]; exact hcell) (by rw [hv]; rfl) (by obtain ⟨k9, h9, -⟩ := Vm.findClass_spec hcl; exact ⟨k9, h9⟩) pre x suf hsplit
    (fun z hz => by
      rcases hpass z hz with h | ⟨hz0, nm, hl1, hn1⟩
      · exact Or.inl h
      · obtain ⟨c6, hc6, hcl6⟩ := Cond.classLink_spec hown hl1 e.platform hpl
        obtain ⟨a8, b8, h1, h2, h3⟩ := hn1
        cases Option.some.inj (h1.symm.trans hcl)
        cases Option.some.inj (h2.symm.trans hc6)
        exact Or.inr ⟨hz0, _, hcl6, h3⟩) hx (Or.inr ⟨h0, c4, hcl5, hasg⟩)
  obtain ⟨t, a1, b1⟩ := kk (T.setVm vm') hT X'
  exact ⟨t, st.trans a1, b1⟩
end Rows
section Ends
variable {p : Program} {l : Launch} {e : Env} {R : Room} {s : State} {m : MethodId} {args : Array Value} {below : List Frame} {meth : Method} {c : Code} {H : Heap} {locs : List Loc} {cells slots : Nat} {Q : State → Prop}
variable {mc ms : Nat} {free : Addr → Prop} {A0 A1 : Nat → Prop} {H0 : Heap} {a : Array Value} {ls : Array Slot} {st0 rest : List Value}
variable {Qc : Array Value → State → Outcome → State → Prop} {XC : String → State → State → Prop}
/-- what a body that may throw owes at its end -/
def vx_MQ (below : List Frame) (Qc : Array Value → State → Outcome → State → Prop) (XC : String → State → State → Prop) (a : Array Value) (s : State) (mc ms : Nat) (free : Addr → Prop) : State → Prop := fun t =>
  ∃ o, t.status = .running ∧ Ended t below o ∧ vx_Q Qc XC mc ms free a s o t
theorem vx_ret {g : JFrame} {mc ms : Nat} (k : W p l e R s m args below meth c H locs cells slots (MQ below Qc args s mc ms free) g) : W p l e R s m args below meth c H locs cells slots (vx_MQ below Qc XC args s mc ms free) g := by
  intro T hT X
  obtain ⟨t, a1, o, b1, b2, b3, b4⟩ := k T hT X
  exact ⟨t, a1, o, b1, b2, Or.inl ⟨b3, b4⟩⟩
/-- not caught here: it goes on to the caller -/
theorem vx_widen {g : JFrame} {q : Addr} {k n : Nat} (h1 : cells ≤ k) (h2 : slots ≤ n) (kk : vx_W p l e R s m args below meth c H locs k n Q g q) : vx_W p l e R s m args below meth c H locs cells slots Q g q := fun T hT X => kk T hT (stand_widen X h1 h2)
theorem vx_out {pc : Nat} {E : String} {ce : Cell} {q : Addr} {mc ms : Nat} (hout : ∀ x ∈ c.exceptionTable.toList, covers x pc = false) (hlocks : meth.locks = false) (hcell : H[q]? = some ce) (hv : ce.vm = .none) (hcl : s.vm.findClass E = some ce.cls)
    (hx : ∀ t : State, t.heap = H → s.vm.Alike t.vm → XC E s t) (hf : ∀ z ∈ locs, free z.base) (hc : cells ≤ mc) (hs : slots ≤ ms) :
    vx_W p l e R s m args below meth c H locs cells slots (vx_MQ below Qc XC args s mc ms free) (F0 m pc ls rest) q := by
  intro T hT X
  obtain ⟨st1, hrun, hend, hW, hsm⟩ := X.leaveThrown q (g := F0 m pc ls rest) rfl rfl rfl hout hlocks
  have hcell9 : (T.setFrames (.throwing q :: below)).heap[q]? = some ce := by
    show T.heap[q]? = some ce
    rw [hT]; exact hcell
  exact ⟨_, st1, .threw q, hrun, hend, Or.inr ⟨q, rfl, E, ce, locs, hx _ hT hW.alike, hcell9, hv, hcl, hW, hsm.mono hc hs, hf⟩⟩
theorem vx_frame {U : State} {k n : Nat} (h : s.sameButNew ({ U with vm := s.vm } : State) locs k n) : s.heap.size ≤ U.heap.size ∧ ∀ q : Nat, q < s.heap.size → (∀ z ∈ locs, z.base ≠ q) → U.heap[q]? = s.heap[q]? := by
  obtain ⟨-, h2, -, -, -, h6⟩ := h
  refine ⟨h2, fun q hq hz => ?_⟩
  obtain ⟨c9, e1, e2, e3, e4⟩ := h6 q _ (Array.getElem?_eq_getElem hq)
  have hs : c9.slots = (s.heap[q]).slots := Array.ext_getElem? fun i => e4 i fun hm => hz _ hm rfl
  have h9 : c9 = s.heap[q] := by
    rw [hs] at e2
    exact e2
  have e5 : U.heap[q]? = some c9 := e1
  rw [e5, h9, Array.getElem?_eq_getElem hq]
/-- the words of a throw but the four that speak of the heap -/
def vx_no (w : Cond) : Bool := decide (w ≠ .isRef (.static Bundle.tN "UNASSIGNED_STACK" Bundle.steD)) && decide (w ≠ .isRef (.static Bundle.tN "SUPPRESSED_SENTINEL" Bundle.listD)) && decide (w ≠ .laysStatic Bundle.tN "UNASSIGNED_STACK" Bundle.steD) && decide (w ≠ .laysStatic Bundle.tN "SUPPRESSED_SENTINEL" Bundle.listD)
def vx_at0 (own : String) (ic : Nat) (X : String) (names : List String) : List Cond := (Bundle.ownAtoms0 own ic X names).filter vx_no
def vx_atS (own : String) (ic : Nat) (X : String) (names : List String) : List Cond := (Bundle.ownAtoms own ic X names).filter vx_no
/-- a word that the tables alone decide, or a good one -/
def vx_ot (w : Cond) : Bool := w.onTables || goodWord w
theorem vx_ot_at {args a' : Array Value} {s U : State} {w : Cond} (hW : s.WarmedH U.vm) (hvm : s.vm = U.vm) (hg : vx_ot w = true) (h : w.before args s = true) : w.before a' U = true := by
  simp only [vx_ot, Bool.or_eq_true] at hg
  rcases hg with hg | hg
  · exact va_tabs hg hvm h
  · exact word_at hW (good_of_word hg) h
/-- a list's words: the good ones out of the method's own list, the others by premises of their own -/
theorem vx_hat {args : Array Value} {s : State} {L B : List Cond} (h1 : ∀ w ∈ L.filter goodWord, w.before args s = true) (h2 : ∀ w ∈ L.filter (fun w => !goodWord w), w ∈ B) (h3 : ∀ w ∈ B, w.before args s = true) : ∀ w ∈ L, w.before args s = true := by
  intro w hw
  by_cases g : goodWord w = true
  · exact h1 w (List.mem_filter.mpr ⟨hw, g⟩)
  · refine h3 w (h2 w (List.mem_filter.mpr ⟨hw, ?_⟩))
    show (!goodWord w) = true
    cases hgw : goodWord w
    · rfl
    · exact absurd hgw g
theorem vx_c {args : Array Value} {s : State} {w : Cond} {B : List Cond} (h : w.before args s = true) (t : ∀ w ∈ B, w.before args s = true) : ∀ w' ∈ w :: B, w'.before args s = true := fun w' h' => (List.mem_cons.mp h').elim (fun e => by rw [e]; exact h) (t w')
theorem vx_n {args : Array Value} {s : State} : ∀ w ∈ ([] : List Cond), w.before args s = true := fun _ h => nomatch h
theorem vx_own {args : Array Value} {s : State} {L : List Cond} (h1 : ∀ w ∈ L.filter vx_no, w.before args s = true)
    (hU : (Cond.isRef (.static Bundle.tN "UNASSIGNED_STACK" Bundle.steD)).before args s = true) (hN : (Cond.isRef (.static Bundle.tN "SUPPRESSED_SENTINEL" Bundle.listD)).before args s = true)
    (lU : (Cond.laysStatic Bundle.tN "UNASSIGNED_STACK" Bundle.steD).before args s = true) (lN : (Cond.laysStatic Bundle.tN "SUPPRESSED_SENTINEL" Bundle.listD).before args s = true) : ∀ w ∈ L, w.before args s = true := by
  intro w hw
  by_cases e1 : w = .isRef (.static Bundle.tN "UNASSIGNED_STACK" Bundle.steD)
  · rw [e1]; exact hU
  · by_cases e2 : w = .isRef (.static Bundle.tN "SUPPRESSED_SENTINEL" Bundle.listD)
    · rw [e2]; exact hN
    · by_cases e3 : w = .laysStatic Bundle.tN "UNASSIGNED_STACK" Bundle.steD
      · rw [e3]; exact lU
      · by_cases e4 : w = .laysStatic Bundle.tN "SUPPRESSED_SENTINEL" Bundle.listD
        · rw [e4]; exact lN
        · exact h1 w (List.mem_filter.mpr ⟨hw, by unfold vx_no; rw [decide_eq_true e1, decide_eq_true e2, decide_eq_true e3, decide_eq_true e4]; rfl⟩)
/-- where a static field lies, its class's statics cell in H -/
def vx_L (C n d : String) (A : Nat → Prop) (U : State) (H : Heap) : Prop := ∃ (c : ClassId) (k : Class) (i : Nat) (f : Field) (a : Nat) (cell : Cell), U.vm.findClass C = some c ∧ U.fieldFound? C n d = some (c, k, i, f) ∧ f.isStatic = true ∧ k.statics = some a ∧ H[a]? = some cell ∧ cell.vm.isStatics = true ∧ cell.cls = c ∧ f.slot < cell.slots.size ∧ k.staticTypes[f.slot]? = some f.type ∧ ¬ A a
theorem vx_L.moved {C n d : String} {A : Nat → Prop} {u U : State} {H : Heap} (hvm : u.vm.Alike U.vm) (h : vx_L C n d A u H) : vx_L C n d A U H := by
  obtain ⟨c, k, i, f, a, cell, h1, h2, h3, h4, h5, h6, h7, h8, h9, h10⟩ := h
  obtain ⟨k', hi', he⟩ := State.fieldFound?_setVm hvm h2
  exact ⟨c, k', i, f, a, cell, by rw [hvm.findClass]; exact h1, hi', h3, by rw [he]; exact h4, h5, h6, h7, h8, by rw [he]; exact h9, h10⟩
theorem vx_L.kept {C n d : String} {A : Nat → Prop} {U : State} {H H1 : Heap} (h : vx_L C n d A U H) (hq : ∀ a : Nat, a < H.size → ¬ A a → H1[a]? = H[a]?) : vx_L C n d A U H1 := by
  obtain ⟨c, k, i, f, a, cell, h1, h2, h3, h4, h5, h6, h7, h8, h9, h10⟩ := h
  exact ⟨c, k, i, f, a, cell, h1, h2, h3, h4, by rw [hq a (Array.getElem?_eq_some_iff.mp h5).1 h10]; exact h5, h6, h7, h8, h9, h10⟩
theorem vx_L.narrow {C n d : String} {A B : Nat → Prop} {U : State} {H : Heap} (h : vx_L C n d A U H) (hAB : ∀ q, B q → A q) : vx_L C n d B U H := by
  obtain ⟨c, k, i, f, a, cell, h1, h2, h3, h4, h5, h6, h7, h8, h9, h10⟩ := h
  exact ⟨c, k, i, f, a, cell, h1, h2, h3, h4, h5, h6, h7, h8, h9, fun z => h10 (hAB _ z)⟩
theorem vx_L.word {C n d : String} {A : Nat → Prop} {s : State} {args : Array Value} (h : vx_L C n d A s s.heap) : (Cond.laysStatic C n d).before args s = true := by
  obtain ⟨c, k, i, f, a, cell, h1, h2, h3, h4, h5, h6, h7, h8, h9, -⟩ := h
  show (Cond.laysStatic C n d).holds args s none s [] = true
  exact Cond.laysStatic_of h1 h2 h3 h4 h5 h6 h7 h8 h9
/-- .. and what it holds: null or some reference -/
def vx_Zq (C n d : String) (A : Nat → Prop) (U : State) (H : Heap) : Prop := va_Zq C n d A U H ∧ vx_L C n d A U H
theorem vx_Zq.moved {C n d : String} {A : Nat → Prop} {u U : State} {H : Heap} (hvm : u.vm.Alike U.vm) (h : vx_Zq C n d A u H) : vx_Zq C n d A U H := ⟨va_Zq.moved hvm h.1, vx_L.moved hvm h.2⟩
theorem vx_Zq.kept {C n d : String} {A : Nat → Prop} {U : State} {H H1 : Heap} (h : vx_Zq C n d A U H) (hq : ∀ a : Nat, a < H.size → ¬ A a → H1[a]? = H[a]?) : vx_Zq C n d A U H1 := ⟨va_Zq.kept h.1 hq, vx_L.kept h.2 hq⟩
theorem vx_Zq.narrow {C n d : String} {A B : Nat → Prop} {U : State} {H : Heap} (h : vx_Zq C n d A U H) (hAB : ∀ q, B q → A q) : vx_Zq C n d B U H := ⟨va_Zq.narrow h.1 hAB, vx_L.narrow h.2 hAB⟩
theorem vx_Zqof {args : Array Value} {s : State} {C n d : String} {A : Nat → Prop} (hl : (Cond.laysStatic C n d).before args s = true) (hini : (Cond.initialized C).before args s = true) (h : (Cond.isRef (.static C n d)).before args s = true) (hA : ∀ a : Nat, a < s.heap.size → ¬ A a) : vx_Zq C n d A s s.heap := by
  refine ⟨va_Zqof hl hini h hA, ?_⟩
  obtain ⟨c, k, i, f, a, cell, h1, h2, h3, h4, h5, h6, h7, h8, h9⟩ := Cond.laysStatic_spec hl
  exact ⟨c, k, i, f, a, cell, h1, h2, h3, h4, h5, h6, h7, h8, h9, hA a (Array.getElem?_eq_some_iff.mp h5).1⟩
theorem vx_isRef {C n d : String} {v : Value} {A : Nat → Prop} {s : State} {args : Array Value} (h : va_Z C n d v A s s.heap) (hv : v.isRef = true) : (Cond.isRef (.static C n d)).before args s = true := by
  obtain ⟨cf, kf, fi, f, a, cell, h1, h2, h3, h4, h5, h6, h7, -⟩ := h
  have he : (Term.static C n d).eval args s none [] s = some v := by
    simp [Term.eval, State.fieldNamed?, h1, h2, h4, h5, h6, h7]
  simp only [Cond.before, Cond.holds, Cond.value, he]
  cases v <;> simp_all [Value.isRef]
theorem vx_isRefq {C n d : String} {A : Nat → Prop} {s : State} {args : Array Value} (h : va_Zq C n d A s s.heap) : (Cond.isRef (.static C n d)).before args s = true := by
  rcases h with h | ⟨t, h⟩
  · exact vx_isRef h rfl
  · exact vx_isRef h rfl
/-- the same frame, seen from here: as if the method were called anew in this heap -/
theorem vx_rebase {T : State} (X : Stand p l e R s m args below meth c T locs cells slots) {R' : Room} (hf : R'.frames ≤ R.frames) (hl : R'.locals ≤ R.locals) (hc : cells + R'.cells ≤ R.cells) (hs : slots + R'.slots ≤ R.slots) :
    Stand p l e R' ((T.setVm s.vm).setFrames (.invoking m args :: below)) m args below meth c T [] 0 0 := by
  have htop : (T.setVm s.vm).topJava?.isSome := X.here.top
  have hF : ((T.setVm s.vm).setFrames (.invoking m args :: below)).frames = .invoking m args :: below := State.frames_setFrames _ (State.cur_lt_of_top htop)
  obtain ⟨g₀, hg0⟩ := Option.isSome_iff_exists.mp htop
  obtain ⟨r, hr⟩ := State.topJava?_eq_some.mp hg0
  have hl9 : e.platform.stackLimits (T.setVm s.vm).me = e.platform.stackLimits s.me := X.limits
  have hb9 : (T.setVm s.vm).me.stackBytes = s.me.stackBytes := X.bytes
  refine ⟨X.admits, X.cas, X.clock, hF, ?_, X.hears, X.method, X.code, X.here, X.tail, X.warmed, ?_, ?_, ?_⟩
  · have h := X.room
    have hU : ((T.setVm s.vm).setFrames (.invoking m args :: below)).localsInUse = s.localsInUse := by
      rw [State.localsInUse_invoking hF (meth := meth) (c := c) X.method X.code, State.localsInUse_invoking X.frames X.method X.code]
    simp only [State.hasRoom, Bool.and_eq_true, decide_eq_true_eq] at h ⊢
    obtain ⟨⟨⟨⟨h1, h2, h3, h4, h5, h6⟩, h7⟩, h8⟩, h9⟩ := h
    rw [X.frames, List.length_cons] at h2 h3
    have q1 := X.heapSize
    have q2 := X.used
    simp only [hF, hU, List.length_cons, State.stackLimits_setFrames, State.stackBytes_setFrames, hl9, hb9]
    refine ⟨⟨⟨⟨by omega, by omega, by omega, by omega, by omega, h6⟩, ?_⟩, ?_⟩, X.book⟩
    · show T.heap.size + R'.cells ≤ e.platform.maxCells
      omega
    · show T.slotsUsed + R'.slots ≤ e.platform.maxSlots
      omega
  · rw [State.stackLimits_setFrames]; rfl
  · rw [State.stackBytes_setFrames]; rfl
  · refine ⟨?_, Nat.le_refl _, Nat.le_refl _, ?_, ?_, fun a c9 h9 => ⟨c9, h9, rfl, rfl, fun _ _ => rfl⟩⟩
    · obtain ⟨t, ht, -⟩ := State.frames_cons hr
      show T.setVm s.vm = { ((T.setVm s.vm).setFrames (.invoking m args :: below)).setFrames (T.setVm s.vm).frames with heap := T.heap, slotsUsed := T.slotsUsed }
      rw [State.setFrames_setFrames, State.setFrames_self ht]
      rfl
    · show T.slotsUsed = T.slotsUsed + ((T.heap.toList.drop T.heap.size).map (·.slots.size)).sum
      rw [List.drop_eq_nil_of_le (Nat.le_of_eq Array.length_toList)]
      rfl
    · show ((T.heap.toList.drop T.heap.size).map (·.slots.size)).sum ≤ 0
      rw [List.drop_eq_nil_of_le (Nat.le_of_eq Array.length_toList)]
      exact Nat.le_refl _
/-- 'throw new E()': new; dup; invokespecial; athrow -/
theorem vx_throw0 {cc : ByteArray} {pc : Nat} (hexec : p.tables.exec = Jvm.exec) (hb : c.code = cc) (hl : l.stackTraces = false) {own cls : String} {names : List String} {ik ic mc ms : Nat} {A : Nat → Prop}
    (hown : s.vm.findClass own = some m.cls) (hcls : Bundle.fit cls = true) (hnames : ∀ n ∈ names, Bundle.fit n = true)
    (hk : (Cond.classLink own ik cls).before args s = true) (hini : (Cond.initialized cls).before args s = true) (hat : ∀ w ∈ vx_at0 own ic cls names, w.before args s = true)
    (hgood : ∀ w ∈ Cond.classLink own ik cls :: Cond.initialized cls :: vx_at0 own ic cls names, vx_ot w = true)
    (hU : vx_Zq Bundle.tN "UNASSIGNED_STACK" Bundle.steD A s s.heap) (hN : vx_Zq Bundle.tN "SUPPRESSED_SENTINEL" Bundle.listD A s s.heap) (hS : va_S A s.heap H locs) (hsize : ls.size = c.maxLocals)
    (d0 : decode cc pc = .ok (.new ik, 3)) (d3 : decode cc (pc + 3) = .ok (.dup, 1)) (d4 : decode cc (pc + 4) = .ok (.invokespecial ic, 3)) (d7 : decode cc (pc + 7) = .ok (.athrow, 1))
    (hout : ∀ x ∈ c.exceptionTable.toList, covers x (pc + 7) = false)
    (hRframes : names.length + 3 < R.frames) (hRlocals : (rest.map fun v => v.category).sum + (13 * (names.length + 1) + 42) ≤ R.locals) (hRcells : cells + 1 ≤ R.cells) (hRslots : slots + 6 ≤ R.slots) (hlocks : meth.locks = false)
    (hx : ∀ t : State, s.vm.Alike t.vm → H.size ≤ t.heap.size → (∀ q : Nat, q < H.size → t.heap[q]? = H[q]?) → XC cls s t)
    (hf : ∀ z ∈ locs, free z.base) (hc : cells + 1 ≤ mc) (hs : slots + 6 ≤ ms) :
    W p l e R s m args below meth c H locs cells slots (vx_MQ below Qc XC args s mc ms free) (F0 m pc ls rest) := by
  intro T hT X
  have htr : e.platform.stackTraces = false := (show e.platform.stackTraces = l.stackTraces by rw [X.admits.platform]).trans hl
  have Y := vx_rebase X (R' := { frames := R.frames, locals := R.locals, cells := 1, slots := 6 }) (Nat.le_refl _) (Nat.le_refl _) hRcells hRslots
  obtain ⟨s', hA⟩ : ∃ z, z = (T.setVm s.vm).setFrames (.invoking m args :: below) := ⟨_, rfl⟩
  rw [← hA] at Y
  have hvm : s'.vm = s.vm := by rw [hA]; rfl
  have hhp : s'.heap = H := by rw [hA]; exact hT
  have hW0 : s.WarmedH s'.vm := by rw [hvm]; exact State.WarmedH.refl s
  have hat' : ∀ w ∈ vx_at0 own ic cls names, w.before args s' = true := fun w hw => vx_ot_at hW0 hvm.symm (hgood w (List.mem_cons_of_mem _ (List.mem_cons_of_mem _ hw))) (hat w hw)
  have hk' : (Cond.classLink own ik cls).before args s' = true := vx_ot_at hW0 hvm.symm (hgood _ List.mem_cons_self) hk
  have hini' : (Cond.initialized cls).before args s' = true := vx_ot_at hW0 hvm.symm (hgood _ (List.mem_cons_of_mem _ List.mem_cons_self)) hini
  have hU' : vx_Zq Bundle.tN "UNASSIGNED_STACK" Bundle.steD A s' s'.heap := by rw [hhp]; exact vx_Zq.moved hW0.alike (hU.kept hS.2.1)
  have hN' : vx_Zq Bundle.tN "SUPPRESSED_SENTINEL" Bundle.listD A s' s'.heap := by rw [hhp]; exact vx_Zq.moved hW0.alike (hN.kept hS.2.1)
  have h : ∀ w ∈ Bundle.ownAtoms0 own ic cls names, w.before args s' = true := vx_own hat' (vx_isRefq hU'.1) (vx_isRefq hN'.1) hU'.2.word hN'.2.word
  have hown' : s'.vm.findClass own = some m.cls := by rw [hvm]; exact hown
  have hins : (Cond.instantiable cls 6).before args s' = true := h _ (by simp [Bundle.ownAtoms0])
  obtain ⟨vm₁, cX, kX, hfX, hkX, -, -, X₁, st1⟩ := Y.newCold hexec (own := own) (C := cls) (index := ik) (n := 6) hown' hk' hins hini'
    (g := F0 m pc ls rest) rfl (by rw [hb]; exact d0) (Nat.le_refl _) (Nat.le_refl _)
  generalize hT1 : (T.setVm vm₁).pushCell { cls := cX, slots := kX.instanceTypes.map defaultValue, vm := .none } = T1 at X₁ st1
  have hcat : (Value.ref T.heap.size).category = 1 := rfl
  have hcellA : T1.heap[T.heap.size]? = some (freshCell cX kX) := by rw [← hT1]; exact State.heap_pushCell_size _ _
  have d3' : decode c.code (pc + 3) = .ok (.dup, 1) := by rw [hb]; exact d3
  obtain ⟨U, hsteps, hrun, hend, hW, hsame, ce, hce, hO⟩ := X₁.ctorThrow0 hexec htr (own := own) (cls := cls) (names := names) (ic := ic) hown' hcls hnames h (fun x hx => nomatch hx) hfX hkX hcellA (by rw [hhp, hT]; exact Nat.le_refl _)
    (g := { method := m, pc := pc + 4, locals := ls, stack := .ref T.heap.size :: .ref T.heap.size :: rest, locked := none }) rfl hsize rfl rfl (rest := rest) rfl
    (by rw [hb]; exact d4) (by rw [hb]; exact d7) hout hRframes (by simp only [List.map_cons, List.sum_cons, hcat]; omega) hlocks
  obtain ⟨f1, f2⟩ := vx_frame hsame
  rw [hhp] at f1 f2
  have hWs : s.WarmedH U.vm := State.WarmedH.trans hW0 hW
  have hcl : s.vm.findClass cls = some ce.cls := by
    have h9 := hO.cls
    rw [hvm] at h9
    exact h9
  have hall : s.sameButNew ({ U with vm := s.vm } : State) locs mc ms := by
    subst hA
    obtain ⟨e1, e2⟩ := hsame
    rw [State.setFrames_setFrames] at e1
    have h2 : (T.setVm s.vm).sameButNew ({ U with vm := s.vm } : State) [] (0 + 1) (0 + 6) := ⟨e1, e2⟩
    have h3 := X.same.trans h2
    rw [List.append_nil] at h3
    exact h3.mono hc hs
  refine ⟨U, ?_, .threw T.heap.size, hrun, hend, Or.inr ⟨T.heap.size, rfl, cls, ce, locs, hx U hWs.alike f1 (fun q hq => f2 q hq (fun z hz => nomatch hz)), hce, hO.vm, hcl, hWs, hall, hf⟩⟩
  refine st1 _ ?_
  show Steps p.tables e below (T1.setTop { method := m, pc := pc + 3, locals := ls, stack := .ref T.heap.size :: rest, locked := none }) _
  jvm_step X₁.here [X₁.here.top, hexec, d3', Value.category]
  exact hsteps
/-- 'throw new E("text")': new; dup; ldc; invokespecial; athrow -/
theorem vx_throwS {cc : ByteArray} {pc : Nat} (hexec : p.tables.exec = Jvm.exec) (hb : c.code = cc) (hl : l.stackTraces = false) {own cls text : String} {names : List String} {ik is ic mc ms sa : Nat} {A : Nat → Prop}
    (hown : s.vm.findClass own = some m.cls) (hcls : Bundle.fit cls = true) (hnames : ∀ n ∈ names, Bundle.fit n = true)
    (hk : (Cond.classLink own ik cls).before args s = true) (hini : (Cond.initialized cls).before args s = true) (hstr : vk_R own is text sa s) (hat : ∀ w ∈ vx_atS own ic cls names, w.before args s = true)
    (hgood : ∀ w ∈ Cond.classLink own ik cls :: Cond.initialized cls :: vx_atS own ic cls names, vx_ot w = true)
    (hU : vx_Zq Bundle.tN "UNASSIGNED_STACK" Bundle.steD A s s.heap) (hN : vx_Zq Bundle.tN "SUPPRESSED_SENTINEL" Bundle.listD A s s.heap) (hS : va_S A s.heap H locs) (hsize : ls.size = c.maxLocals)
    (d0 : decode cc pc = .ok (.new ik, 3)) (d3 : decode cc (pc + 3) = .ok (.dup, 1)) (d4 : decode cc (pc + 4) = .ok (.ldc is, 2)) (d6 : decode cc (pc + 6) = .ok (.invokespecial ic, 3)) (d9 : decode cc (pc + 9) = .ok (.athrow, 1))
    (hout : ∀ x ∈ c.exceptionTable.toList, covers x (pc + 9) = false)
    (hRframes : names.length + 3 < R.frames) (hRlocals : (rest.map fun v => v.category).sum + (13 * (names.length + 1) + 43) ≤ R.locals) (hRcells : cells + 1 ≤ R.cells) (hRslots : slots + 6 ≤ R.slots) (hlocks : meth.locks = false)
    (hx : ∀ t : State, s.vm.Alike t.vm → H.size ≤ t.heap.size → (∀ q : Nat, q < H.size → t.heap[q]? = H[q]?) → XC cls s t)
    (hf : ∀ z ∈ locs, free z.base) (hc : cells + 1 ≤ mc) (hs : slots + 6 ≤ ms) :
    W p l e R s m args below meth c H locs cells slots (vx_MQ below Qc XC args s mc ms free) (F0 m pc ls rest) := by
  intro T hT X
  have htr : e.platform.stackTraces = false := (show e.platform.stackTraces = l.stackTraces by rw [X.admits.platform]).trans hl
  have Y := vx_rebase X (R' := { frames := R.frames, locals := R.locals, cells := 1, slots := 6 }) (Nat.le_refl _) (Nat.le_refl _) hRcells hRslots
  obtain ⟨s', hA⟩ : ∃ z, z = (T.setVm s.vm).setFrames (.invoking m args :: below) := ⟨_, rfl⟩
  rw [← hA] at Y
  have hvm : s'.vm = s.vm := by rw [hA]; rfl
  have hhp : s'.heap = H := by rw [hA]; exact hT
  have hW0 : s.WarmedH s'.vm := by rw [hvm]; exact State.WarmedH.refl s
  have hat' : ∀ w ∈ vx_atS own ic cls names, w.before args s' = true := fun w hw => vx_ot_at hW0 hvm.symm (hgood w (List.mem_cons_of_mem _ (List.mem_cons_of_mem _ hw))) (hat w hw)
  have hk' : (Cond.classLink own ik cls).before args s' = true := vx_ot_at hW0 hvm.symm (hgood _ List.mem_cons_self) hk
  have hini' : (Cond.initialized cls).before args s' = true := vx_ot_at hW0 hvm.symm (hgood _ (List.mem_cons_of_mem _ List.mem_cons_self)) hini
  have hU' : vx_Zq Bundle.tN "UNASSIGNED_STACK" Bundle.steD A s' s'.heap := by rw [hhp]; exact vx_Zq.moved hW0.alike (hU.kept hS.2.1)
  have hN' : vx_Zq Bundle.tN "SUPPRESSED_SENTINEL" Bundle.listD A s' s'.heap := by rw [hhp]; exact vx_Zq.moved hW0.alike (hN.kept hS.2.1)
  have h : ∀ w ∈ Bundle.ownAtoms own ic cls names, w.before args s' = true := vx_own hat' (vx_isRefq hU'.1) (vx_isRefq hN'.1) hU'.2.word hN'.2.word
  have hown' : s'.vm.findClass own = some m.cls := by rw [hvm]; exact hown
  have hins : (Cond.instantiable cls 6).before args s' = true := h _ (by simp [Bundle.ownAtoms])
  obtain ⟨vm₁, cX, kX, hfX, hkX, -, -, X₁, st1⟩ := Y.newCold hexec (own := own) (C := cls) (index := ik) (n := 6) hown' hk' hins hini'
    (g := F0 m pc ls rest) rfl (by rw [hb]; exact d0) (Nat.le_refl _) (Nat.le_refl _)
  generalize hT1 : (T.setVm vm₁).pushCell { cls := cX, slots := kX.instanceTypes.map defaultValue, vm := .none } = T1 at X₁ st1
  have hcat : (Value.ref T.heap.size).category = 1 := rfl
  have hcellA : T1.heap[T.heap.size]? = some (freshCell cX kX) := by rw [← hT1]; exact State.heap_pushCell_size _ _
  have d3' : decode c.code (pc + 3) = .ok (.dup, 1) := by rw [hb]; exact d3
  have d4' : decode c.code (pc + 4) = .ok (.ldc is, 2) := by rw [hb]; exact d4
  have hstr' : vk_R own is text sa s' := vk_R.warm hW0 hstr
  obtain ⟨U, hsteps, hrun, hend, hW, hsame, ce, hce, hO⟩ := X₁.ctorThrowS hexec htr (own := own) (cls := cls) (names := names) (ic := ic) hown' hcls hnames h (fun x hx => nomatch hx) hfX hkX hcellA (by rw [hhp, hT]; exact Nat.le_refl _) (msg := .ref sa) rfl
    (g := { method := m, pc := pc + 6, locals := ls, stack := .ref sa :: .ref T.heap.size :: .ref T.heap.size :: rest, locked := none }) rfl hsize rfl rfl (rest := rest) rfl
    (by rw [hb]; exact d6) (by rw [hb]; exact d9) hout hRframes (by simp only [List.map_cons, List.sum_cons, hcat]; omega) hlocks
  obtain ⟨f1, f2⟩ := vx_frame hsame
  rw [hhp] at f1 f2
  have hWs : s.WarmedH U.vm := State.WarmedH.trans hW0 hW
  have hcl : s.vm.findClass cls = some ce.cls := by
    have h9 := hO.cls
    rw [hvm] at h9
    exact h9
  have hall : s.sameButNew ({ U with vm := s.vm } : State) locs mc ms := by
    subst hA
    obtain ⟨e1, e2⟩ := hsame
    rw [State.setFrames_setFrames] at e1
    have h2 : (T.setVm s.vm).sameButNew ({ U with vm := s.vm } : State) [] (0 + 1) (0 + 6) := ⟨e1, e2⟩
    have h3 := X.same.trans h2
    rw [List.append_nil] at h3
    exact h3.mono hc hs
  refine ⟨U, ?_, .threw T.heap.size, hrun, hend, Or.inr ⟨T.heap.size, rfl, cls, ce, locs, hx U hWs.alike f1 (fun q hq => f2 q hq (fun z hz => nomatch hz)), hce, hO.vm, hcl, hWs, hall, hf⟩⟩
  refine st1 _ ?_
  show Steps p.tables e below (T1.setTop { method := m, pc := pc + 3, locals := ls, stack := .ref T.heap.size :: rest, locked := none }) _
  jvm_step X₁.here [X₁.here.top, hexec, d3', Value.category]
  exact X₁.ldcString hexec (own := own) (text := text) (index := is) (a := sa) hown' hstr'.1 hstr'.2
    (g := { method := m, pc := pc + 4, locals := ls, stack := .ref T.heap.size :: .ref T.heap.size :: rest, locked := none }) rfl d4' _ hsteps
/-- 'throw new E("text")', the text by a wide index -/
theorem vx_throwSW {cc : ByteArray} {pc : Nat} (hexec : p.tables.exec = Jvm.exec) (hb : c.code = cc) (hl : l.stackTraces = false) {own cls text : String} {names : List String} {ik is ic mc ms sa : Nat} {A : Nat → Prop}
    (hown : s.vm.findClass own = some m.cls) (hcls : Bundle.fit cls = true) (hnames : ∀ n ∈ names, Bundle.fit n = true)
    (hk : (Cond.classLink own ik cls).before args s = true) (hini : (Cond.initialized cls).before args s = true) (hstr : vk_R own is text sa s) (hat : ∀ w ∈ vx_atS own ic cls names, w.before args s = true)
    (hgood : ∀ w ∈ Cond.classLink own ik cls :: Cond.initialized cls :: vx_atS own ic cls names, vx_ot w = true)
    (hU : vx_Zq Bundle.tN "UNASSIGNED_STACK" Bundle.steD A s s.heap) (hN : vx_Zq Bundle.tN "SUPPRESSED_SENTINEL" Bundle.listD A s s.heap) (hS : va_S A s.heap H locs) (hsize : ls.size = c.maxLocals)
    (d0 : decode cc pc = .ok (.new ik, 3)) (d3 : decode cc (pc + 3) = .ok (.dup, 1)) (d4 : decode cc (pc + 4) = .ok (.ldc_w is, 3)) (d7 : decode cc (pc + 7) = .ok (.invokespecial ic, 3)) (d10 : decode cc (pc + 10) = .ok (.athrow, 1))
    (hout : ∀ x ∈ c.exceptionTable.toList, covers x (pc + 10) = false)
    (hRframes : names.length + 3 < R.frames) (hRlocals : (rest.map fun v => v.category).sum + (13 * (names.length + 1) + 43) ≤ R.locals) (hRcells : cells + 1 ≤ R.cells) (hRslots : slots + 6 ≤ R.slots) (hlocks : meth.locks = false)
    (hx : ∀ t : State, s.vm.Alike t.vm → H.size ≤ t.heap.size → (∀ q : Nat, q < H.size → t.heap[q]? = H[q]?) → XC cls s t)
    (hf : ∀ z ∈ locs, free z.base) (hc : cells + 1 ≤ mc) (hs : slots + 6 ≤ ms) :
    W p l e R s m args below meth c H locs cells slots (vx_MQ below Qc XC args s mc ms free) (F0 m pc ls rest) := by
  intro T hT X
  have htr : e.platform.stackTraces = false := (show e.platform.stackTraces = l.stackTraces by rw [X.admits.platform]).trans hl
  have Y := vx_rebase X (R' := { frames := R.frames, locals := R.locals, cells := 1, slots := 6 }) (Nat.le_refl _) (Nat.le_refl _) hRcells hRslots
  obtain ⟨s', hA⟩ : ∃ z, z = (T.setVm s.vm).setFrames (.invoking m args :: below) := ⟨_, rfl⟩
  rw [← hA] at Y
  have hvm : s'.vm = s.vm := by rw [hA]; rfl
  have hhp : s'.heap = H := by rw [hA]; exact hT
  have hW0 : s.WarmedH s'.vm := by rw [hvm]; exact State.WarmedH.refl s
  have hat' : ∀ w ∈ vx_atS own ic cls names, w.before args s' = true := fun w hw => vx_ot_at hW0 hvm.symm (hgood w (List.mem_cons_of_mem _ (List.mem_cons_of_mem _ hw))) (hat w hw)
  have hk' : (Cond.classLink own ik cls).before args s' = true := vx_ot_at hW0 hvm.symm (hgood _ List.mem_cons_self) hk
  have hini' : (Cond.initialized cls).before args s' = true := vx_ot_at hW0 hvm.symm (hgood _ (List.mem_cons_of_mem _ List.mem_cons_self)) hini
  have hU' : vx_Zq Bundle.tN "UNASSIGNED_STACK" Bundle.steD A s' s'.heap := by rw [hhp]; exact vx_Zq.moved hW0.alike (hU.kept hS.2.1)
  have hN' : vx_Zq Bundle.tN "SUPPRESSED_SENTINEL" Bundle.listD A s' s'.heap := by rw [hhp]; exact vx_Zq.moved hW0.alike (hN.kept hS.2.1)
  have h : ∀ w ∈ Bundle.ownAtoms own ic cls names, w.before args s' = true := vx_own hat' (vx_isRefq hU'.1) (vx_isRefq hN'.1) hU'.2.word hN'.2.word
  have hown' : s'.vm.findClass own = some m.cls := by rw [hvm]; exact hown
  have hins : (Cond.instantiable cls 6).before args s' = true := h _ (by simp [Bundle.ownAtoms])
  obtain ⟨vm₁, cX, kX, hfX, hkX, -, -, X₁, st1⟩ := Y.newCold hexec (own := own) (C := cls) (index := ik) (n := 6) hown' hk' hins hini'
    (g := F0 m pc ls rest) rfl (by rw [hb]; exact d0) (Nat.le_refl _) (Nat.le_refl _)
  generalize hT1 : (T.setVm vm₁).pushCell { cls := cX, slots := kX.instanceTypes.map defaultValue, vm := .none } = T1 at X₁ st1
  have hcat : (Value.ref T.heap.size).category = 1 := rfl
  have hcellA : T1.heap[T.heap.size]? = some (freshCell cX kX) := by rw [← hT1]; exact State.heap_pushCell_size _ _
  have d3' : decode c.code (pc + 3) = .ok (.dup, 1) := by rw [hb]; exact d3
  have d4' : decode c.code (pc + 4) = .ok (.ldc_w is, 3) := by rw [hb]; exact d4
  have hstr' : vk_R own is text sa s' := vk_R.warm hW0 hstr
  obtain ⟨U, hsteps, hrun, hend, hW, hsame, ce, hce, hO⟩ := X₁.ctorThrowS hexec htr (own := own) (cls := cls) (names := names) (ic := ic) hown' hcls hnames h (fun x hx => nomatch hx) hfX hkX hcellA (by rw [hhp, hT]; exact Nat.le_refl _) (msg := .ref sa) rfl
    (g := { method := m, pc := pc + 7, locals := ls, stack := .ref sa :: .ref T.heap.size :: .ref T.heap.size :: rest, locked := none }) rfl hsize rfl rfl (rest := rest) rfl
    (by rw [hb]; exact d7) (by rw [hb]; exact d10) hout hRframes (by simp only [List.map_cons, List.sum_cons, hcat]; omega) hlocks
  obtain ⟨f1, f2⟩ := vx_frame hsame
  rw [hhp] at f1 f2
  have hWs : s.WarmedH U.vm := State.WarmedH.trans hW0 hW
  have hcl : s.vm.findClass cls = some ce.cls := by
    have h9 := hO.cls
    rw [hvm] at h9
    exact h9
  have hall : s.sameButNew ({ U with vm := s.vm } : State) locs mc ms := by
    subst hA
    obtain ⟨e1, e2⟩ := hsame
    rw [State.setFrames_setFrames] at e1
    have h2 : (T.setVm s.vm).sameButNew ({ U with vm := s.vm } : State) [] (0 + 1) (0 + 6) := ⟨e1, e2⟩
    have h3 := X.same.trans h2
    rw [List.append_nil] at h3
    exact h3.mono hc hs
  refine ⟨U, ?_, .threw T.heap.size, hrun, hend, Or.inr ⟨T.heap.size, rfl, cls, ce, locs, hx U hWs.alike f1 (fun q hq => f2 q hq (fun z hz => nomatch hz)), hce, hO.vm, hcl, hWs, hall, hf⟩⟩
  refine st1 _ ?_
  show Steps p.tables e below (T1.setTop { method := m, pc := pc + 3, locals := ls, stack := .ref T.heap.size :: rest, locked := none }) _
  jvm_step X₁.here [X₁.here.top, hexec, d3', Value.category]
  exact X₁.ldcStringW hexec (own := own) (text := text) (index := is) (a := sa) hown' hstr'.1 hstr'.2
    (g := { method := m, pc := pc + 4, locals := ls, stack := .ref T.heap.size :: .ref T.heap.size :: rest, locked := none }) rfl d4' _ hsteps
end Ends
section Bodies
variable {l : Launch}
theorem vx_ofW {y : MethodName} {ws ws' : List Cond} {rm : Room} {Pc : Array Value → State → Prop} {Qc : Array Value → State → Outcome → State → Prop} {XC : String → State → State → Prop} {mc ms : Nat} {free : Addr → Prop} {cc : ByteArray} {maxL : Nat} {ret : Option FieldType}
    (hy : plainName y.cls = true) (hw : ws = Cond.code y cc maxL ret :: ws')
    (body : ∀ p e s m args below meth c s₁, BodyLoose p l y (headSpec ws rm) cc maxL ret e s m args below meth c s₁ → c.maxLocals = maxL → (∀ x ∈ c.exceptionTable.toList, False) → Pc args s →
      W p l e (headSpec ws rm).room s m args below meth c s.heap [] 0 0 (vx_MQ below Qc XC args s mc ms free) (entryFrame m args maxL)) : vx_Met l y ws rm Pc Qc XC mc ms free := by
  refine MetFree.of_bodyS (code := cc) (maxLocals := maxL) (ret := ret) hy ?_ ?_
  · intro args s m h hn
    obtain ⟨meth, c, h1, h2, h3, h4, h5, h6, -, -⟩ := Cond.code_spec hn (atoms_spec (ws := ws) h _ (by rw [hw]; exact List.mem_cons_self))
    exact ⟨meth, c, h1, h2, h3, h4, h5, h6⟩
  · intro p e s m args below meth c s₁ B hml hP _
    have hh0 : s₁.heap = s.heap := by rw [B.state]; rfl
    have ht : ∀ x ∈ c.exceptionTable.toList, False := by
      obtain ⟨meth9, c9, h1, h2, -, -, -, -, h7, -⟩ := Cond.code_spec B.named (atoms_spec (ws := ws) B.pre _ (by rw [hw]; exact List.mem_cons_self))
      cases Option.some.inj (h1.symm.trans B.method)
      cases Option.some.inj (h2.symm.trans (Stand.of_body B).code)
      intro x hx
      rw [Array.isEmpty_iff.mp h7] at hx
      cases hx
    obtain ⟨t, a1, o, b1, b2, b3⟩ := body p e s m args below meth c s₁ B hml ht hP s₁ hh0 (Stand.of_body B)
    exact ⟨t, o, a1, b1, b2, b3⟩
/-- the table of a body with handlers -/
theorem vx_table {p : Program} {x y : MethodName} {S : Spec} {cc bytes : ByteArray} {maxL maxL' : Nat} {ret ret' : Option FieldType} {e : Env} {s s₁ : State} {m : MethodId} {args : Array Value} {below : List Frame} {meth : Method} {c : Code} {hh : List (Nat × Nat × Nat × Nat)}
    (B : BodyLoose p l y S cc maxL ret e s m args below meth c s₁) (h : (Cond.codeWith y bytes maxL' ret' hh).before args s = true) : c.exceptionTable.toList = tableOf hh := by
  obtain ⟨m9, meth9, c9, hn9, h1, h2, -, -, h6, -⟩ := Cond.codeWith_spec h
  cases Option.some.inj (hn9.symm.trans B.named)
  cases Option.some.inj (h1.symm.trans B.method)
  cases Option.some.inj (h2.symm.trans (Stand.of_body B).code)
  rw [← h6, table_eq]
end Bodies
end VXA
/-! ===== END ===== -/
/-! ===== BEGIN a static call of a method with an exception table ===== -/
section VXS
variable {p : Program} {l : Launch} {e : Env} {R : Room} {s : State} {m : MethodId} {args : Array Value} {below : List Frame} {meth : Method} {c : Code} {T : State} {H : Heap} {locs : List Loc} {cells slots : Nat}
abbrev vx_CSW (R : Room) (s : State) (args : Array Value) (own : String) (index : Nat) (y : MethodName) (bytes : ByteArray) (maxL : Nat) (ret : Option FieldType) (hh : List (Nat × Nat × Nat × Nat)) (ws : List Cond) (rm : Room) (mc ms n : Nat) : Prop :=
  (rm.cells = mc ∧ rm.slots = ms ∧ rm.frames + 1 ≤ R.frames ∧ 8 + (maxL + 11) + rm.locals ≤ R.locals ∧ (∀ w ∈ ws, ∀ (a' : Array Value) (U : State), s.WarmedH U.vm → w.before a' U = true) ∧ Cond.codeWith y bytes maxL ret hh ∈ ws) ∧
  (Cond.codeWith y bytes maxL ret hh).before args s = true ∧ (Cond.initialized y.cls).before args s = true ∧ (y.cls ≠ "java/lang/invoke/MethodHandle" ∧ y.cls ≠ "java/lang/invoke/VarHandle") ∧
  (∀ sig, parseMethodDescriptor y.desc = some sig → n = sig.parameters.length) ∧ (Cond.methodLink own index y).before args s = true ∧ (Cond.static y).before args s = true
theorem vx_cwSW {own : String} {index maxL mc ms : Nat} {y : MethodName} {bytes : ByteArray} {ret : Option FieldType} {hh : List (Nat × Nat × Nat × Nat)} {Ts ws ws' : List Cond} {rm : Room} (n : Nat) (ht : ∀ w ∈ Ts, w.before args s = true) (hT : GoodIn Ts (va_wsS own index y ws)) (hw : ws = Cond.codeWith y bytes maxL ret hh :: ws') (hrc : rm.cells = mc) (hrs : rm.slots = ms)
    (hd : y.cls ≠ "java/lang/invoke/MethodHandle" ∧ y.cls ≠ "java/lang/invoke/VarHandle" ∧ (parseMethodDescriptor y.desc).map (fun d => d.parameters.length) = some n) (hR : rm.frames + 1 ≤ R.frames ∧ 8 + (maxL + 11) + rm.locals ≤ R.locals) :
    vx_CSW R s args own index y bytes maxL ret hh ws rm mc ms n := by
  have ok : ∀ w ∈ va_wsS own index y ws, w.before args s = true := fun w h => ht w (hT w h).1
  have hG : GoodIn Ts ws := fun w h => hT w (by unfold va_wsS; exact List.mem_append_right _ h)
  have hc : Cond.codeWith y bytes maxL ret hh ∈ ws := by rw [hw]; exact List.mem_cons_self
  refine ⟨⟨hrc, hrs, hR.1, hR.2, pay_in ht hG, hc⟩, ht _ (hG _ hc).1, ok _ (by simp [va_wsS]), ⟨hd.1, hd.2.1⟩, fun sig h => ?_, ok _ (by simp [va_wsS]), ok _ (by simp [va_wsS])⟩
  have h2 := hd.2.2
  rw [h] at h2
  exact (Option.some.inj h2).symm
theorem vx_callSW (X : Stand p l e R s m args below meth c T locs cells slots) (hexec : p.tables.exec = Jvm.exec) {own : String} {index : Nat} {y : MethodName} {bytes : ByteArray} {maxL : Nat} {ret : Option FieldType} {hh : List (Nat × Nat × Nat × Nat)}
    (hown : s.vm.findClass own = some m.cls) (hlink : (Cond.methodLink own index y).before args s = true) (hstat : (Cond.static y).before args s = true) (hinit : (Cond.initialized y.cls).before args s = true)
    (hcode : (Cond.codeWith y bytes maxL ret hh).before args s = true) (hy : y.cls ≠ "java/lang/invoke/MethodHandle" ∧ y.cls ≠ "java/lang/invoke/VarHandle")
    {W9 : Nat} {Pre : Pt → Array Value → Prop} {Post : Pt → Array Value → Option Value → Pt → Prop} (hK : Back l R p e below s args y 3 W9 Pre Post)
    {g : JFrame} (hg : g.method = m) (hsize : g.locals.size = c.maxLocals) {argsL rest : List Value} (hlen : ∀ sig, parseMethodDescriptor y.desc = some sig → argsL.length = sig.parameters.length)
    (hstack : g.stack = argsL.reverse ++ rest) (hW : 2 * g.monitorRoom + (rest.map fun v => v.category).sum ≤ W9) (hdg : decode c.code g.pc = .ok (.invokestatic index, 3))
    (hpre : ∀ vm₁, s.WarmedH vm₁ → Pre ⟨T.setVm vm₁, locs, cells, slots⟩ argsL.toArray) :
    ∃ (v : Option Value) (vm₁ : Vm) (B : Pt), s.WarmedH vm₁ ∧ Stand p l e R s m args below meth c B.U B.locs B.cells B.slots ∧ Post ⟨T.setVm vm₁, locs, cells, slots⟩ argsL.toArray v B ∧
      ∀ target, Steps p.tables e below (B.U.setTop { g with pc := g.pc + 3, stack := v.toList ++ rest }) target → Steps p.tables e below (T.setTop g) target := by
  obtain ⟨mk, methM, cM, hnamed, hmethM, -, -, -, -, -, -, hsigM⟩ := Cond.codeWith_spec hcode
  have hstatic : methM.isStatic = true := Cond.static_spec hnamed hmethM hstat
  obtain ⟨kP, hkP, -⟩ := className_of_methodNamed hnamed
  have hinitP : kP.init = .initialized := Cond.initialized_spec (findClass_of_methodNamed hnamed) hkP hinit
  obtain ⟨vm₁, X₁, hstep₁⟩ := X.invokestatic hexec hown hlink hnamed hmethM hstatic hkP hinitP hy (g := g) hg (argsL := argsL) (rest := rest) (hlen _ hsigM) hstack hdg
  obtain ⟨v, B, X', hpost, hsteps⟩ := hK m meth c ⟨T.setVm vm₁, locs, cells, slots⟩ { g with stack := rest } (.invokestatic index) mk argsL.toArray X₁ hg hsize hdg hW (X₁.named hnamed) (hpre vm₁ X₁.warmed)
  exact ⟨v, vm₁, B, X₁.warmed, X', hpost, fun target h => hstep₁ _ fun acts => by rw [doInvoke_state]; exact hsteps.trans h⟩
theorem vx_runSW {y : MethodName} {bytes cc : ByteArray} {maxL nL mc ms n index : Nat} {ret : Option FieldType} {hh : List (Nat × Nat × Nat × Nat)} {ws : List Cond} {rm : Room} {Pc : Array Value → State → Prop} {Qc : Array Value → State → Outcome → State → Prop} {free : Addr → Prop} {Ts : List Cond} {own : String} {As rest : List Value} {g : JFrame}
    (S : CallFix p m c cc nL s args Ts own) (hM : Met l y ws rm Pc Qc mc ms free) (cw : vx_CSW R s args own index y bytes maxL ret hh ws rm mc ms n) (hp : PreS s H Pc As)
    (hg : g.method = m) (hn : As.length = n) (hsize : g.locals.size = nL) (hstack : g.stack = As.reverse ++ rest) (hW : 2 * g.monitorRoom + (rest.map fun v => v.category).sum ≤ 8) (hdg : decode cc g.pc = .ok (.invokestatic index, 3)) (hf : cells + mc ≤ R.cells ∧ slots + ms ≤ R.slots) :
    va_Run p l e R s m args below meth c H locs cells slots mc ms g rest (Qc As.toArray) (free) := by
  obtain ⟨⟨hrc, hrs, hfr, hlo, hws, hcw⟩, hcode, hini, hy, hlen, hl, hstt⟩ := cw
  have hK : Back l R p e below s args y 3 8 (PreOf R mc ms Pc) (PostOf Qc mc ms free) := va_backW (hh := hh) (bytes := bytes) (maxL := maxL) (ret := ret) hM hp.1 hrc hrs hfr hlo hws hcw (fun a' U hW => word_at hW (Or.inl (by first | rfl | simp [Cond.onTables, Cond.keeps, Cond.steady])) hini)
  obtain ⟨hx, hb, hml, ho, -⟩ := S
  intro T hT X
  obtain ⟨v, vm₁, ⟨U', l2, c2, s2⟩, hW₁, X', ⟨g', mk, t, L, e1, e2, hq, h1, hL, h2, h3⟩, st⟩ := vx_callSW X hx (hh := hh) (bytes := bytes) (maxL := maxL) (ret := ret) ho hl hstt hini hcode hy hK hg (hsize.trans hml.symm) (argsL := As) (rest := rest) (fun sig h => hn.trans (hlen sig h)) hstack hW (by rw [hb]; exact hdg)
    (fun vm₁ hW₁ => ⟨hf.1, hf.2, hp.2 (T.setVm vm₁) hT hW₁⟩)
  dsimp only [Pt.U, Pt.locs, Pt.cells, Pt.slots] at X' e1 e2 h1 h2 h3 st
  subst h1; subst h2; subst h3
  exact ⟨v, (T.setVm vm₁).calling g' mk As.toArray, t, U', L, hT, X', hL, e1, e2, hq, st⟩
/-- not caught here, past rows that name other classes: it goes on to the caller -/
theorem vx_outP {p : Program} {l : Launch} {e : Env} {R : Room} {s : State} {m : MethodId} {args : Array Value} {below : List Frame} {meth : Method} {c : Code} {H : Heap} {locs : List Loc} {cells slots : Nat} {free : Addr → Prop} {ls : Array Slot} {rest : List Value} {Qc : Array Value → State → Outcome → State → Prop} {XC : String → State → State → Prop}
    {pc : Nat} {own E : String} {ce : Cell} {q : Addr} {mc ms : Nat} (hown : s.vm.findClass own = some m.cls) (hlocks : meth.locks = false)
    (hpass : ∀ z ∈ c.exceptionTable.toList, covers z pc = false ∨ (z.catchType ≠ 0 ∧ ∃ nm : String, (Cond.classLink own z.catchType nm).before args s = true ∧ va_Nc E nm s)) (hcell : H[q]? = some ce) (hv : ce.vm = .none) (hcl : s.vm.findClass E = some ce.cls)
    (hx : ∀ t : State, t.heap = H → s.vm.Alike t.vm → XC E s t) (hf : ∀ z ∈ locs, free z.base) (hc : cells ≤ mc) (hs : slots ≤ ms) :
    vx_W p l e R s m args below meth c H locs cells slots (vx_MQ below Qc XC args s mc ms free) (F0 m pc ls rest) q := by
  intro T hT X
  have hpl : e.platform.magicAccessors = ({} : Platform).magicAccessors := by rw [X.admits.platform]
  obtain ⟨vm', hW', X', st⟩ := X.outThrough hlocks q (g := F0 m pc ls rest) rfl rfl rfl (cell := ce) (by rw [hT]; exact hcell) (by rw [hv]; rfl)
    (by obtain ⟨k9, h9, -⟩ := Vm.findClass_spec hcl; exact ⟨k9, h9⟩) (fun z hz => by
      rcases hpass z hz with h | ⟨hz0, nm, hl1, hn1⟩
      · exact Or.inl h
      · obtain ⟨c6, hc6, hcl6⟩ := Cond.classLink_spec hown hl1 e.platform hpl
        obtain ⟨a8, b8, h1, h2, h3⟩ := hn1
        cases Option.some.inj (h1.symm.trans hcl)
        cases Option.some.inj (h2.symm.trans hc6)
        exact Or.inr ⟨hz0, _, hcl6, h3⟩)
  obtain ⟨g₀, hfr⟩ := X'.frames_eq
  have hcell9 : ((T.setVm vm').setFrames (.throwing q :: below)).heap[q]? = some ce := by
    show T.heap[q]? = some ce
    rw [hT]; exact hcell
  have hend : Ended ((T.setVm vm').setFrames (.throwing q :: below)) below (.threw q) := State.frames_setFrames _ (State.cur_lt_of_frames hfr)
  refine ⟨(T.setVm vm').setFrames (.throwing q :: below), ?_, .threw q, X'.here.running, hend, Or.inr ⟨q, rfl, E, ce, locs, hx _ hT (X'.ends _).1.alike, hcell9, hv, hcl, (X'.ends _).1, (X'.ends _).2.mono hc hs, hf⟩⟩
  rw [X.pushThrowing_eq]
  exact st
/-- a thing of a world lies in the heap -/
theorem vx_lt {D : va_G} {cl : List vw_C} {ws : va_W} {H1 : Heap} (h : va_P D cl ws H1) {k : Nat} {q : Nat × va_E} (hk : ws[k]? = some q) : q.1 < H1.size := (h k q hk).lt
end VXS
/-! ===== END ===== -/
/-! ===== BEGIN methods with a table of their own: called by a name, returning or throwing ===== -/
section VXH
/-! vx_backW, vx_callVX, vx_callSX, vx_callVW, vx_runVW, vx_runVX, vx_runSX, vx_ofWH follow the same proofs as their sisters above (Free/Laws.lean, Shelf42/LK1.lean); vx_outP calls Shelf42/NT130.lean (outThrough). -/
section
variable {l : Launch} {R : Room} {p : Program} {e : Env} {below : List Frame} {s : State} {sargs : Array Value} {y : MethodName} {len W9 : Nat}
theorem vx_backW {ws : List Cond} {rm : Room} {Pc : Array Value → State → Prop} {Qc : Array Value → State → Outcome → State → Prop} {XC : String → State → State → Prop} {mc ms : Nat} {free : Addr → Prop} {bytes : ByteArray} {maxL : Nat} {ret : Option FieldType} {hh : List (Nat × Nat × Nat × Nat)}
    (hM : vx_Met l y ws rm Pc Qc XC mc ms free) (hblind : FrameBlind Pc) (hrc : rm.cells = mc) (hrs : rm.slots = ms)
    (hframes : rm.frames + 1 ≤ R.frames) (hlocals : W9 + (maxL + 11) + rm.locals ≤ R.locals)
    (hws : ∀ w ∈ ws, ∀ a' U, s.WarmedH U.vm → w.before a' U = true) (hcode : Cond.codeWith y bytes maxL ret hh ∈ ws) (hinit : ∀ a' U, s.WarmedH U.vm → (Cond.initialized y.cls).before a' U = true) :
    vx_Back l R p e below s sargs y len W9 (PreOf R mc ms Pc) (PostOf Qc mc ms free) (vx_Post XC mc ms free) := by
  intro m meth c A g ig mk a X hg hsize hdg hW hn hp
  have h1 : (headSpec ws rm).pre.before a A.U = true := atoms_intro fun w hw => hws w hw _ _ X.warmed
  have h2 : (Cond.codeWith y bytes maxL ret hh).before a A.U = true := hws _ hcode _ _ X.warmed
  have h3 : (Cond.initialized y.cls).before a A.U = true := hinit _ _ X.warmed
  have h4 : A.cells + (headSpec ws rm).room.cells ≤ R.cells := by rw [show (headSpec ws rm).room.cells = mc from hrc]; exact hp.1
  have h5 : A.slots + (headSpec ws rm).room.slots ≤ R.slots := by rw [show (headSpec ws rm).room.slots = ms from hrs]; exact hp.2.1
  have hPc : Pc a (A.U.calling g mk a) := hblind _ _ _ _ hp.2.2
  obtain ⟨U, Ls, c0, s0⟩ := A
  dsimp only [Pt.U, Pt.locs, Pt.cells, Pt.slots] at h1 h2 h3 h4 h5 X hn hPc ⊢
  obtain ⟨m9, methY, cY, hn9, hmY, hcY, -, hlY, -⟩ := Cond.codeWith_spec h2
  cases Option.some.inj (hn9.symm.trans hn)
  obtain ⟨kY, hkY, -⟩ := className_of_methodNamed hn
  have hinitY : kY.init = .initialized := Cond.initialized_spec (findClass_of_methodNamed hn) hkY h3
  have h : At U g.method c below := by rw [hg]; exact X.here
  have hlocals9 : W9 + (maxL + 11) + (headSpec ws rm).room.locals ≤ R.locals := hlocals
  have happ : (headSpec ws rm).appliesLoose y e.platform (U.calling g mk a) = true :=
    Spec.appliesLoose_calling (g := g) h hdg hn hkY hinitY
      (X.room_calling (g := g) (R' := (headSpec ws rm).room) hsize hmY hcY hframes (by rw [hlY]; omega) h4 h5) h1
  obtain ⟨mid, hmid⟩ := h.above
  have hfr : (U.setTop g).frames = (.java g :: mid) ++ below := by rw [State.frames_setTop' g h.top, hmid]; rfl
  obtain ⟨o, s₂, hsteps, -, hend, hq⟩ := Steps.callFree hM p X.admits X.cas X.clock (acts := []) hfr happ hPc trivial
  have hq' : vx_Q Qc XC mc ms free a (U.calling g mk a) o s₂ := hq
  rw [State.frames_setTop' g h.top] at hend
  obtain ⟨g₀, hg0⟩ := Option.isSome_iff_exists.mp h.top
  obtain ⟨r, hr⟩ := State.topJava?_eq_some.mp hg0
  have hr' : (({ U with heap := s₂.heap, slotsUsed := s₂.slotsUsed } : State).setVm s₂.vm).frames = .java g₀ :: r := hr
  rcases hq' with ⟨hqc, L, hfe, hL⟩ | ⟨q, rfl, E, ce, L, hx, hce, hcv, hcl, hW₂, hsm, hL⟩
  · obtain ⟨⟨v, rfl⟩, hW₂, e2, q2, q3, q4, q5, q6⟩ := id hfe
    have e3 : s₂ = ({ (U.calling g mk a).setFrames s₂.frames with heap := s₂.heap, slotsUsed := s₂.slotsUsed } : State).setVm s₂.vm := by
      have : s₂ = ({ s₂ with vm := (U.calling g mk a).vm } : State).setVm s₂.vm := rfl
      rw [e2] at this
      exact this
    obtain ⟨c₂, i₂, len₂, hc₂, hd₂, hf₂⟩ := hend
    have hW' : U.WarmedH s₂.vm := hW₂
    have hcc : c₂ = c := by
      have h1 : s₂.code? g.method = U.code? g.method := by
        rw [State.code?_eq, State.code?_eq, hW'.alike.method?]
      exact Option.some.inj (hc₂.symm.trans (h1.trans h.code))
    subst hcc
    have hlen : len₂ = len := by rw [hdg] at hd₂; cases hd₂; rfl
    subst hlen
    have hs₂ : s₂ = (({ U with heap := s₂.heap, slotsUsed := s₂.slotsUsed } : State).setVm s₂.vm).setTop { g with pc := g.pc + len₂, stack := v.toList ++ g.stack } := by
      refine e3.trans ?_
      rw [hf₂, State.calling_eq h.top, State.setFrames_setFrames, State.setTop_of_frames _ hr', hr]
      rfl
    have hsame : U.sameButNew ({ U with heap := s₂.heap, slotsUsed := s₂.slotsUsed } : State) L mc ms := by
      refine ⟨?_, q2, q3, q4, q5, q6⟩
      obtain ⟨t, ht, -⟩ := State.frames_cons hr
      show ({ U with heap := s₂.heap, slotsUsed := s₂.slotsUsed } : State) = { U.setFrames U.frames with heap := s₂.heap, slotsUsed := s₂.slotsUsed }
      rw [State.setFrames_self ht]
    subst hg
    refine Or.inl ⟨v, ⟨(({ U with heap := s₂.heap, slotsUsed := s₂.slotsUsed } : State).setVm s₂.vm), Ls ++ L, c0 + mc, s0 + ms⟩,
      ⟨X.admits, X.cas, X.clock, X.frames, X.room, X.hears, X.method, X.code, (X.here.setHeapUsed s₂.heap s₂.slotsUsed).setVm hW'.alike, X.tail, State.WarmedH.trans X.warmed hW', X.limits, X.bytes, X.same.trans (hsame.setVm s.vm)⟩,
      ⟨g, mk, s₂, L, rfl, rfl, hqc, rfl, hL, rfl, rfl⟩, ?_⟩
    show Steps p.tables e below _ ((({ U with heap := s₂.heap, slotsUsed := s₂.slotsUsed } : State).setVm s₂.vm).setTop { g with pc := g.pc + len₂, stack := v.toList ++ g.stack })
    rw [← hs₂]
    exact hsteps
  · obtain ⟨e2, q2, q3, q4, q5, q6⟩ := id hsm
    have e3 : s₂ = ({ (U.calling g mk a).setFrames s₂.frames with heap := s₂.heap, slotsUsed := s₂.slotsUsed } : State).setVm s₂.vm := by
      have : s₂ = ({ s₂ with vm := (U.calling g mk a).vm } : State).setVm s₂.vm := rfl
      rw [e2] at this
      exact this
    have hf₂ : s₂.frames = .throwing q :: .java g :: U.frames.tail := hend
    have hW' : U.WarmedH s₂.vm := hW₂
    have hs₂ : s₂ = ((({ U with heap := s₂.heap, slotsUsed := s₂.slotsUsed } : State).setVm s₂.vm).setTop g).pushFrame (.throwing q) := by
      refine e3.trans ?_
      rw [hf₂, State.calling_eq h.top, State.setFrames_setFrames, State.pushFrame, State.frames_setTop _ hr', State.setTop_of_frames _ hr', State.setFrames_setFrames, hr]
      rfl
    have hsame : U.sameButNew ({ U with heap := s₂.heap, slotsUsed := s₂.slotsUsed } : State) L mc ms := by
      refine ⟨?_, q2, q3, q4, q5, q6⟩
      obtain ⟨t, ht, -⟩ := State.frames_cons hr
      show ({ U with heap := s₂.heap, slotsUsed := s₂.slotsUsed } : State) = { U.setFrames U.frames with heap := s₂.heap, slotsUsed := s₂.slotsUsed }
      rw [State.setFrames_self ht]
    subst hg
    refine Or.inr ⟨q, ⟨(({ U with heap := s₂.heap, slotsUsed := s₂.slotsUsed } : State).setVm s₂.vm), Ls ++ L, c0 + mc, s0 + ms⟩,
      ⟨X.admits, X.cas, X.clock, X.frames, X.room, X.hears, X.method, X.code, (X.here.setHeapUsed s₂.heap s₂.slotsUsed).setVm hW'.alike, X.tail, State.WarmedH.trans X.warmed hW', X.limits, X.bytes, X.same.trans (hsame.setVm s.vm)⟩,
      ⟨g, mk, s₂, L, E, ce, rfl, rfl, hx, hce, hcv, hcl, rfl, hL, rfl, rfl⟩, ?_⟩
    show Steps p.tables e below _ (((({ U with heap := s₂.heap, slotsUsed := s₂.slotsUsed } : State).setVm s₂.vm).setTop g).pushFrame (.throwing q))
    rw [← hs₂]
    exact hsteps
end
variable {p : Program} {l : Launch} {e : Env} {R : Room} {s : State} {m : MethodId} {args : Array Value} {below : List Frame} {meth : Method} {c : Code} {T : State} {H : Heap} {locs : List Loc} {cells slots : Nat}
theorem vx_callVX (X : Stand p l e R s m args below meth c T locs cells slots) (hexec : p.tables.exec = Jvm.exec) {own C : String} {index : Nat} {y : MethodName} {bytes : ByteArray} {maxL : Nat} {ret : Option FieldType} {hh : List (Nat × Nat × Nat × Nat)}
    (hown : s.vm.findClass own = some m.cls) (hlink : (Cond.methodLink own index y).before args s = true) (hinst : (Cond.instanceMethod y).before args s = true) (hsel : (Cond.selects C y y).before args s = true)
    (hcode : (Cond.codeWith y bytes maxL ret hh).before args s = true) (hy : y.cls ≠ "java/lang/invoke/MethodHandle" ∧ y.cls ≠ "java/lang/invoke/VarHandle")
    {W9 : Nat} {Pre : Pt → Array Value → Prop} {Post : Pt → Array Value → Option Value → Pt → Prop} {PostX : Pt → Array Value → Addr → Pt → Prop} (hK : vx_Back l R p e below s args y 3 W9 Pre Post PostX)
    {b : Addr} {cellB : Cell} (hcell : T.heap[b]? = some cellB) (hobj : cellB.vm.isStatics = false) (hcls : s.vm.findClass C = some cellB.cls)
    {g : JFrame} (hg : g.method = m) (hsize : g.locals.size = c.maxLocals) {argsL rest : List Value} (hlen : ∀ sig, parseMethodDescriptor y.desc = some sig → argsL.length = sig.parameters.length)
    (hstack : g.stack = argsL.reverse ++ .ref b :: rest) (hW : 2 * g.monitorRoom + (rest.map fun v => v.category).sum ≤ W9) (hdg : decode c.code g.pc = .ok (.invokevirtual index, 3))
    (hpre : ∀ vm₁, s.WarmedH vm₁ → Pre ⟨T.setVm vm₁, locs, cells, slots⟩ (Value.ref b :: argsL).toArray) :
    (∃ (v : Option Value) (vm₁ : Vm) (B : Pt), s.WarmedH vm₁ ∧ Stand p l e R s m args below meth c B.U B.locs B.cells B.slots ∧ Post ⟨T.setVm vm₁, locs, cells, slots⟩ (Value.ref b :: argsL).toArray v B ∧
      ∀ target, Steps p.tables e below (B.U.setTop { g with pc := g.pc + 3, stack := v.toList ++ rest }) target → Steps p.tables e below (T.setTop g) target) ∨
    (∃ (q : Addr) (vm₁ : Vm) (B : Pt), s.WarmedH vm₁ ∧ Stand p l e R s m args below meth c B.U B.locs B.cells B.slots ∧ PostX ⟨T.setVm vm₁, locs, cells, slots⟩ (Value.ref b :: argsL).toArray q B ∧
      Steps p.tables e below (T.setTop g) ((B.U.setTop { g with stack := rest }).pushFrame (.throwing q))) := by
  obtain ⟨mk, methM, hnamed, hmethM, hstM, habM⟩ := Cond.instanceMethod_spec hinst
  obtain ⟨m8, methM', cM, hn8, hmethM', -, -, -, -, -, -, hsigM⟩ := Cond.codeWith_spec hcode
  cases Option.some.inj (hn8.symm.trans hnamed)
  cases hmethM.symm.trans hmethM'
  obtain ⟨c2, r2, m2, q1, q2, q3, q4, kP, hkP, hkPi⟩ := Cond.selects_spec hsel
  cases hcls.symm.trans q1
  cases (State.methodFound?_of_named hnamed hy).symm.trans q2
  cases hnamed.symm.trans q3
  have hselP : selectMethod e.platform s.vm cellB.cls mk = .method mk := by rw [Launch.admits_selectMethod X.admits]; exact q4
  obtain ⟨vm₁, X₁, hstep₁⟩ := X.invokevirtual hexec hown hlink hnamed hmethM hstM hkP hkPi hy (a := b) (cell := cellB) hcell
    (fun z h => by rw [h] at hobj; cases hobj) hselP hmethM habM hkP hkPi (g := g) hg (argsL := argsL) (rest := rest) (hlen _ hsigM) hstack hdg
  rcases hK m meth c ⟨T.setVm vm₁, locs, cells, slots⟩ { g with stack := rest } (.invokevirtual index) mk (Value.ref b :: argsL).toArray X₁ hg hsize hdg hW (X₁.named hnamed) (hpre vm₁ X₁.warmed) with ⟨v, B, X', hpost, hsteps⟩ | ⟨q, B, X', hpost, hsteps⟩
  · exact Or.inl ⟨v, vm₁, B, X₁.warmed, X', hpost, fun target h => hstep₁ _ fun acts => by rw [doInvoke_state]; exact hsteps.trans h⟩
  · exact Or.inr ⟨q, vm₁, B, X₁.warmed, X', hpost, hstep₁ _ fun acts => by rw [doInvoke_state]; exact hsteps⟩
theorem vx_callSX (X : Stand p l e R s m args below meth c T locs cells slots) (hexec : p.tables.exec = Jvm.exec) {own : String} {index : Nat} {y : MethodName} {bytes : ByteArray} {maxL : Nat} {ret : Option FieldType} {hh : List (Nat × Nat × Nat × Nat)}
    (hown : s.vm.findClass own = some m.cls) (hlink : (Cond.methodLink own index y).before args s = true) (hstat : (Cond.static y).before args s = true) (hinit : (Cond.initialized y.cls).before args s = true)
    (hcode : (Cond.codeWith y bytes maxL ret hh).before args s = true) (hy : y.cls ≠ "java/lang/invoke/MethodHandle" ∧ y.cls ≠ "java/lang/invoke/VarHandle")
    {W9 : Nat} {Pre : Pt → Array Value → Prop} {Post : Pt → Array Value → Option Value → Pt → Prop} {PostX : Pt → Array Value → Addr → Pt → Prop} (hK : vx_Back l R p e below s args y 3 W9 Pre Post PostX)
    {g : JFrame} (hg : g.method = m) (hsize : g.locals.size = c.maxLocals) {argsL rest : List Value} (hlen : ∀ sig, parseMethodDescriptor y.desc = some sig → argsL.length = sig.parameters.length)
    (hstack : g.stack = argsL.reverse ++ rest) (hW : 2 * g.monitorRoom + (rest.map fun v => v.category).sum ≤ W9) (hdg : decode c.code g.pc = .ok (.invokestatic index, 3))
    (hpre : ∀ vm₁, s.WarmedH vm₁ → Pre ⟨T.setVm vm₁, locs, cells, slots⟩ argsL.toArray) :
    (∃ (v : Option Value) (vm₁ : Vm) (B : Pt), s.WarmedH vm₁ ∧ Stand p l e R s m args below meth c B.U B.locs B.cells B.slots ∧ Post ⟨T.setVm vm₁, locs, cells, slots⟩ argsL.toArray v B ∧
      ∀ target, Steps p.tables e below (B.U.setTop { g with pc := g.pc + 3, stack := v.toList ++ rest }) target → Steps p.tables e below (T.setTop g) target) ∨
    (∃ (q : Addr) (vm₁ : Vm) (B : Pt), s.WarmedH vm₁ ∧ Stand p l e R s m args below meth c B.U B.locs B.cells B.slots ∧ PostX ⟨T.setVm vm₁, locs, cells, slots⟩ argsL.toArray q B ∧
      Steps p.tables e below (T.setTop g) ((B.U.setTop { g with stack := rest }).pushFrame (.throwing q))) := by
  obtain ⟨mk, methM, cM, hnamed, hmethM, -, -, -, -, -, -, hsigM⟩ := Cond.codeWith_spec hcode
  have hstatic : methM.isStatic = true := Cond.static_spec hnamed hmethM hstat
  obtain ⟨kP, hkP, -⟩ := className_of_methodNamed hnamed
  have hinitP : kP.init = .initialized := Cond.initialized_spec (findClass_of_methodNamed hnamed) hkP hinit
  obtain ⟨vm₁, X₁, hstep₁⟩ := X.invokestatic hexec hown hlink hnamed hmethM hstatic hkP hinitP hy (g := g) hg (argsL := argsL) (rest := rest) (hlen _ hsigM) hstack hdg
  rcases hK m meth c ⟨T.setVm vm₁, locs, cells, slots⟩ { g with stack := rest } (.invokestatic index) mk argsL.toArray X₁ hg hsize hdg hW (X₁.named hnamed) (hpre vm₁ X₁.warmed) with ⟨v, B, X', hpost, hsteps⟩ | ⟨q, B, X', hpost, hsteps⟩
  · exact Or.inl ⟨v, vm₁, B, X₁.warmed, X', hpost, fun target h => hstep₁ _ fun acts => by rw [doInvoke_state]; exact hsteps.trans h⟩
  · exact Or.inr ⟨q, vm₁, B, X₁.warmed, X', hpost, hstep₁ _ fun acts => by rw [doInvoke_state]; exact hsteps⟩
theorem vx_callVW (X : Stand p l e R s m args below meth c T locs cells slots) (hexec : p.tables.exec = Jvm.exec) {own C : String} {index : Nat} {y : MethodName} {bytes : ByteArray} {maxL : Nat} {ret : Option FieldType} {hh : List (Nat × Nat × Nat × Nat)}
    (hown : s.vm.findClass own = some m.cls) (hlink : (Cond.methodLink own index y).before args s = true) (hinst : (Cond.instanceMethod y).before args s = true) (hsel : (Cond.selects C y y).before args s = true)
    (hcode : (Cond.codeWith y bytes maxL ret hh).before args s = true) (hy : y.cls ≠ "java/lang/invoke/MethodHandle" ∧ y.cls ≠ "java/lang/invoke/VarHandle")
    {W9 : Nat} {Pre : Pt → Array Value → Prop} {Post : Pt → Array Value → Option Value → Pt → Prop} (hK : Back l R p e below s args y 3 W9 Pre Post)
    {b : Addr} {cellB : Cell} (hcell : T.heap[b]? = some cellB) (hobj : cellB.vm.isStatics = false) (hcls : s.vm.findClass C = some cellB.cls)
    {g : JFrame} (hg : g.method = m) (hsize : g.locals.size = c.maxLocals) {argsL rest : List Value} (hlen : ∀ sig, parseMethodDescriptor y.desc = some sig → argsL.length = sig.parameters.length)
    (hstack : g.stack = argsL.reverse ++ .ref b :: rest) (hW : 2 * g.monitorRoom + (rest.map fun v => v.category).sum ≤ W9) (hdg : decode c.code g.pc = .ok (.invokevirtual index, 3))
    (hpre : ∀ vm₁, s.WarmedH vm₁ → Pre ⟨T.setVm vm₁, locs, cells, slots⟩ (Value.ref b :: argsL).toArray) :
    ∃ (v : Option Value) (vm₁ : Vm) (B : Pt), s.WarmedH vm₁ ∧ Stand p l e R s m args below meth c B.U B.locs B.cells B.slots ∧ Post ⟨T.setVm vm₁, locs, cells, slots⟩ (Value.ref b :: argsL).toArray v B ∧
      ∀ target, Steps p.tables e below (B.U.setTop { g with pc := g.pc + 3, stack := v.toList ++ rest }) target → Steps p.tables e below (T.setTop g) target := by
  obtain ⟨mk, methM, hnamed, hmethM, hstM, habM⟩ := Cond.instanceMethod_spec hinst
  obtain ⟨m8, methM', cM, hn8, hmethM', -, -, -, -, -, -, hsigM⟩ := Cond.codeWith_spec hcode
  cases Option.some.inj (hn8.symm.trans hnamed)
  cases hmethM.symm.trans hmethM'
  obtain ⟨c2, r2, m2, q1, q2, q3, q4, kP, hkP, hkPi⟩ := Cond.selects_spec hsel
  cases hcls.symm.trans q1
  cases (State.methodFound?_of_named hnamed hy).symm.trans q2
  cases hnamed.symm.trans q3
  have hselP : selectMethod e.platform s.vm cellB.cls mk = .method mk := by rw [Launch.admits_selectMethod X.admits]; exact q4
  obtain ⟨vm₁, X₁, hstep₁⟩ := X.invokevirtual hexec hown hlink hnamed hmethM hstM hkP hkPi hy (a := b) (cell := cellB) hcell
    (fun z h => by rw [h] at hobj; cases hobj) hselP hmethM habM hkP hkPi (g := g) hg (argsL := argsL) (rest := rest) (hlen _ hsigM) hstack hdg
  obtain ⟨v, B, X', hpost, hsteps⟩ := hK m meth c ⟨T.setVm vm₁, locs, cells, slots⟩ { g with stack := rest } (.invokevirtual index) mk (Value.ref b :: argsL).toArray X₁ hg hsize hdg hW (X₁.named hnamed) (hpre vm₁ X₁.warmed)
  exact ⟨v, vm₁, B, X₁.warmed, X', hpost, fun target h => hstep₁ _ fun acts => by rw [doInvoke_state]; exact hsteps.trans h⟩
abbrev vx_CVW (R : Room) (s : State) (args : Array Value) (own C : String) (index : Nat) (y : MethodName) (bytes : ByteArray) (maxL : Nat) (ret : Option FieldType) (hh : List (Nat × Nat × Nat × Nat)) (ws : List Cond) (rm : Room) (mc ms n : Nat) : Prop :=
  (rm.cells = mc ∧ rm.slots = ms ∧ rm.frames + 1 ≤ R.frames ∧ 8 + (maxL + 11) + rm.locals ≤ R.locals ∧ (∀ w ∈ ws, ∀ (a' : Array Value) (U : State), s.WarmedH U.vm → w.before a' U = true) ∧ Cond.codeWith y bytes maxL ret hh ∈ ws) ∧
  (Cond.codeWith y bytes maxL ret hh).before args s = true ∧ (Cond.initialized y.cls).before args s = true ∧ (y.cls ≠ "java/lang/invoke/MethodHandle" ∧ y.cls ≠ "java/lang/invoke/VarHandle") ∧
  (∀ sig, parseMethodDescriptor y.desc = some sig → n = sig.parameters.length) ∧ (Cond.methodLink own index y).before args s = true ∧ (Cond.instanceMethod y).before args s = true ∧ (Cond.selects C y y).before args s = true
theorem vx_cwVW {own C : String} {index maxL mc ms : Nat} {y : MethodName} {bytes : ByteArray} {ret : Option FieldType} {hh : List (Nat × Nat × Nat × Nat)} {Ts ws ws' : List Cond} {rm : Room} (n : Nat) (ht : ∀ w ∈ Ts, w.before args s = true) (hT : GoodIn Ts (wsV own index C y ws)) (hw : ws = Cond.codeWith y bytes maxL ret hh :: ws') (hrc : rm.cells = mc) (hrs : rm.slots = ms)
    (hd : y.cls = C ∧ y.cls ≠ "java/lang/invoke/MethodHandle" ∧ y.cls ≠ "java/lang/invoke/VarHandle" ∧ (parseMethodDescriptor y.desc).map (fun d => d.parameters.length) = some n) (hR : rm.frames + 1 ≤ R.frames ∧ 8 + (maxL + 11) + rm.locals ≤ R.locals) :
    vx_CVW R s args own C index y bytes maxL ret hh ws rm mc ms n := by
  obtain ⟨hC, hd⟩ := hd
  subst hC
  have ok : ∀ w ∈ wsV own index y.cls y ws, w.before args s = true := fun w h => ht w (hT w h).1
  have hG : GoodIn Ts ws := fun w h => hT w (by unfold wsV; exact List.mem_append_right _ h)
  have hc : Cond.codeWith y bytes maxL ret hh ∈ ws := by rw [hw]; exact List.mem_cons_self
  refine ⟨⟨hrc, hrs, hR.1, hR.2, pay_in ht hG, hc⟩, ht _ (hG _ hc).1, ok _ (by simp [wsV]), ⟨hd.1, hd.2.1⟩, fun sig h => ?_, ok _ (by simp [wsV]), ok _ (by simp [wsV]), ok _ (by simp [wsV])⟩
  have h2 := hd.2.2
  rw [h] at h2
  exact (Option.some.inj h2).symm
theorem vx_runVW {y : MethodName} {bytes cc : ByteArray} {maxL nL mc ms n index : Nat} {ret : Option FieldType} {hh : List (Nat × Nat × Nat × Nat)} {ws : List Cond} {rm : Room} {Pc : Array Value → State → Prop} {Qc : Array Value → State → Outcome → State → Prop} {free : Addr → Prop} {Ts : List Cond} {own C : String} {b : Addr} {As rest : List Value} {g : JFrame}
    (S : CallFix p m c cc nL s args Ts own) (hM : Met l y ws rm Pc Qc mc ms free) (cw : vx_CVW R s args own C index y bytes maxL ret hh ws rm mc ms n) (hp : PreV s H C b Pc As)
    (hg : g.method = m) (hn : As.length = n) (hsize : g.locals.size = nL) (hstack : g.stack = As.reverse ++ .ref b :: rest) (hW : 2 * g.monitorRoom + (rest.map fun v => v.category).sum ≤ 8) (hdg : decode cc g.pc = .ok (.invokevirtual index, 3)) (hf : cells + mc ≤ R.cells ∧ slots + ms ≤ R.slots) :
    va_Run p l e R s m args below meth c H locs cells slots mc ms g rest (Qc (Value.ref b :: As).toArray) free := by
  obtain ⟨⟨hrc, hrs, hfr, hlo, hws, hcw⟩, hcode, hini, hy, hlen, hl, hin, hse⟩ := cw
  have hK : Back l R p e below s args y 3 8 (PreOf R mc ms Pc) (PostOf Qc mc ms free) := va_backW (hh := hh) (bytes := bytes) (maxL := maxL) (ret := ret) hM hp.1 hrc hrs hfr hlo hws hcw (fun a' U hW => word_at hW (Or.inl (by first | rfl | simp [Cond.onTables, Cond.keeps, Cond.steady])) hini)
  obtain ⟨hx, hb, hml, ho, -⟩ := S
  obtain ⟨-, ⟨cellB, hcB, hoB, hclB⟩, hPc⟩ := hp
  intro T hT X
  obtain ⟨v, vm₁, ⟨U', l2, c2, s2⟩, hW₁, X', ⟨g', mk, t, L, e1, e2, hq, h1, hL, h2, h3⟩, st⟩ := vx_callVW X hx (C := C) (hh := hh) (bytes := bytes) (maxL := maxL) (ret := ret) ho hl hin hse hcode hy hK (by rw [hT]; exact hcB) hoB hclB hg (hsize.trans hml.symm) (argsL := As) (rest := rest) (fun sig h => hn.trans (hlen sig h)) hstack hW (by rw [hb]; exact hdg)
    (fun vm₁ hW₁ => ⟨hf.1, hf.2, hPc (T.setVm vm₁) hT hW₁⟩)
  dsimp only [Pt.U, Pt.locs, Pt.cells, Pt.slots] at X' e1 e2 h1 h2 h3 st
  subst h1; subst h2; subst h3
  exact ⟨v, (T.setVm vm₁).calling g' mk (Value.ref b :: As).toArray, t, U', L, hT, X', hL, e1, e2, hq, st⟩
section
variable {y : MethodName} {bytes cc : ByteArray} {maxL nL mc ms n index : Nat} {ret : Option FieldType} {ws : List Cond} {rm : Room} {Pc : Array Value → State → Prop} {Qc : Array Value → State → Outcome → State → Prop} {XC : String → State → State → Prop} {free : Addr → Prop} {Ts : List Cond} {own C : String} {b : Addr} {As rest : List Value} {g : JFrame}
theorem vx_runVX {hh : List (Nat × Nat × Nat × Nat)} (S : CallFix p m c cc nL s args Ts own) (hM : vx_Met l y ws rm Pc Qc XC mc ms free) (cw : vx_CVW R s args own C index y bytes maxL ret hh ws rm mc ms n) (hp : PreV s H C b Pc As)
    (hg : g.method = m) (hn : As.length = n) (hsize : g.locals.size = nL) (hstack : g.stack = As.reverse ++ .ref b :: rest) (hW : 2 * g.monitorRoom + (rest.map fun v => v.category).sum ≤ 8) (hdg : decode cc g.pc = .ok (.invokevirtual index, 3)) (hf : cells + mc ≤ R.cells ∧ slots + ms ≤ R.slots) :
    vx_Run p l e R s m args below meth c H locs cells slots mc ms g rest (Qc (Value.ref b :: As).toArray) XC free := by
  obtain ⟨⟨hrc, hrs, hfr, hlo, hws, hcw⟩, hcode, hini, hy, hlen, hl, hin, hse⟩ := cw
  have hK : vx_Back l R p e below s args y 3 8 (PreOf R mc ms Pc) (PostOf Qc mc ms free) (vx_Post XC mc ms free) := vx_backW (hh := hh) (bytes := bytes) (maxL := maxL) (ret := ret) hM hp.1 hrc hrs hfr hlo hws hcw (fun a' U hW => word_at hW (Or.inl (by first | rfl | simp [Cond.onTables, Cond.keeps, Cond.steady])) hini)
  obtain ⟨hx, hb, hml, ho, -⟩ := S
  obtain ⟨-, ⟨cellB, hcB, hoB, hclB⟩, hPc⟩ := hp
  intro T hT X
  rcases vx_callVX X hx (C := C) (hh := hh) (bytes := bytes) (maxL := maxL) (ret := ret) ho hl hin hse hcode hy hK (by rw [hT]; exact hcB) hoB hclB hg (hsize.trans hml.symm) (argsL := As) (rest := rest) (fun sig h => hn.trans (hlen sig h)) hstack hW (by rw [hb]; exact hdg)
    (fun vm₁ hW₁ => ⟨hf.1, hf.2, hPc (T.setVm vm₁) hT hW₁⟩) with ⟨v, vm₁, ⟨U', l2, c2, s2⟩, hW₁, X', ⟨g', mk, t, L, e1, e2, hq, h1, hL, h2, h3⟩, st⟩ | ⟨q, vm₁, ⟨U', l2, c2, s2⟩, hW₁, X', ⟨g', mk, t, L, E, ce, e1, e2, hq, hce, hcv, hcl, h1, hL, h2, h3⟩, st⟩
  · dsimp only [Pt.U, Pt.locs, Pt.cells, Pt.slots] at X' e1 e2 h1 h2 h3 st
    subst h1; subst h2; subst h3
    exact Or.inl ⟨v, (T.setVm vm₁).calling g' mk (Value.ref b :: As).toArray, t, U', L, hT, X', hL, e1, e2, hq, st⟩
  · dsimp only [Pt.U, Pt.locs, Pt.cells, Pt.slots] at X' e1 e2 h1 h2 h3 st hcl
    subst h1; subst h2; subst h3
    exact Or.inr ⟨q, (T.setVm vm₁).calling g' mk (Value.ref b :: As).toArray, t, U', L, E, ce, hT, X', hL, e1, e2, hq, hce, hcv, vx_cls hW₁ hcl, st⟩
theorem vx_runSX {hh : List (Nat × Nat × Nat × Nat)} (S : CallFix p m c cc nL s args Ts own) (hM : vx_Met l y ws rm Pc Qc XC mc ms free) (cw : vx_CSW R s args own index y bytes maxL ret hh ws rm mc ms n) (hp : PreS s H Pc As)
    (hg : g.method = m) (hn : As.length = n) (hsize : g.locals.size = nL) (hstack : g.stack = As.reverse ++ rest) (hW : 2 * g.monitorRoom + (rest.map fun v => v.category).sum ≤ 8) (hdg : decode cc g.pc = .ok (.invokestatic index, 3)) (hf : cells + mc ≤ R.cells ∧ slots + ms ≤ R.slots) :
    vx_Run p l e R s m args below meth c H locs cells slots mc ms g rest (Qc As.toArray) XC free := by
  obtain ⟨⟨hrc, hrs, hfr, hlo, hws, hcw⟩, hcode, hini, hy, hlen, hl, hstt⟩ := cw
  have hK : vx_Back l R p e below s args y 3 8 (PreOf R mc ms Pc) (PostOf Qc mc ms free) (vx_Post XC mc ms free) := vx_backW (hh := hh) (bytes := bytes) (maxL := maxL) (ret := ret) hM hp.1 hrc hrs hfr hlo hws hcw (fun a' U hW => word_at hW (Or.inl (by first | rfl | simp [Cond.onTables, Cond.keeps, Cond.steady])) hini)
  obtain ⟨hx, hb, hml, ho, -⟩ := S
  intro T hT X
  rcases vx_callSX X hx (hh := hh) (bytes := bytes) (maxL := maxL) (ret := ret) ho hl hstt hini hcode hy hK hg (hsize.trans hml.symm) (argsL := As) (rest := rest) (fun sig h => hn.trans (hlen sig h)) hstack hW (by rw [hb]; exact hdg)
    (fun vm₁ hW₁ => ⟨hf.1, hf.2, hp.2 (T.setVm vm₁) hT hW₁⟩) with ⟨v, vm₁, ⟨U', l2, c2, s2⟩, hW₁, X', ⟨g', mk, t, L, e1, e2, hq, h1, hL, h2, h3⟩, st⟩ | ⟨q, vm₁, ⟨U', l2, c2, s2⟩, hW₁, X', ⟨g', mk, t, L, E, ce, e1, e2, hq, hce, hcv, hcl, h1, hL, h2, h3⟩, st⟩
  · dsimp only [Pt.U, Pt.locs, Pt.cells, Pt.slots] at X' e1 e2 h1 h2 h3 st
    subst h1; subst h2; subst h3
    exact Or.inl ⟨v, (T.setVm vm₁).calling g' mk As.toArray, t, U', L, hT, X', hL, e1, e2, hq, st⟩
  · dsimp only [Pt.U, Pt.locs, Pt.cells, Pt.slots] at X' e1 e2 h1 h2 h3 st hcl
    subst h1; subst h2; subst h3
    exact Or.inr ⟨q, (T.setVm vm₁).calling g' mk As.toArray, t, U', L, E, ce, hT, X', hL, e1, e2, hq, hce, hcv, vx_cls hW₁ hcl, st⟩
end
end VXH
theorem vx_ofWH {l : Launch} {y : MethodName} {ws ws' : List Cond} {rm : Room} {Pc : Array Value → State → Prop} {Qc : Array Value → State → Outcome → State → Prop} {XC : String → State → State → Prop} {mc ms : Nat} {free : Addr → Prop} {cc : ByteArray} {maxL : Nat} {ret : Option FieldType} {hh : List (Nat × Nat × Nat × Nat)}
    (hy : plainName y.cls = true) (hw : ws = Cond.codeWith y cc maxL ret hh :: ws')
    (body : ∀ p e s m args below meth c s₁, BodyLoose p l y (headSpec ws rm) cc maxL ret e s m args below meth c s₁ → c.maxLocals = maxL → Pc args s →
      W p l e (headSpec ws rm).room s m args below meth c s.heap [] 0 0 (vx_MQ below Qc XC args s mc ms free) (entryFrame m args maxL)) : vx_Met l y ws rm Pc Qc XC mc ms free := by
  refine MetFree.of_bodyS (code := cc) (maxLocals := maxL) (ret := ret) hy ?_ ?_
  · intro args s m h hn
    obtain ⟨m9, meth, c, hn9, h1, h2, h3, h4, -, h5, h6, -⟩ := Cond.codeWith_spec (atoms_spec (ws := ws) h _ (by rw [hw]; exact List.mem_cons_self))
    cases hn.symm.trans hn9
    exact ⟨meth, c, h1, h2, h3, h4, h5, h6⟩
  · intro p e s m args below meth c s₁ B hml hP _
    have hh0 : s₁.heap = s.heap := by rw [B.state]; rfl
    obtain ⟨t, a1, o, b1, b2, b3⟩ := body p e s m args below meth c s₁ B hml hP s₁ hh0 (Stand.of_body B)
    exact ⟨t, o, a1, b1, b2, b3⟩
/-! ===== END ===== -/
end
section
/-! ===== BEGIN printed: names, fields, word lists, decode rows ===== -/
def RX0 : String := "Tollweave$Accounts"
def TX0 : u_T := fun k => match k with
  | 0 => ("Tollweave$Accounts", "wallet", "[J", true)
  | 1 => ("Tollweave$Accounts", "own", "[J", true)
  | 2 => ("Tollweave$Accounts", "billed", "[J", true)
  | _ => ("Tollweave$Accounts", "got", "[J", true)
def tyX0 : Nat → FieldType := fun k => match k with
  | 0 => .array .long
  | 1 => .array .long
  | 2 => .array .long
  | _ => .array .long
abbrev wsX00 : List Cond := u_ws RX0 TX0 4
theorem nmX0 : ∀ a, a < 4 → ∀ b, b < 4 → a ≠ b → (TX0 a).2.1 ≠ (TX0 b).2.1 := by decide +kernel
theorem tyX0_ok : ∀ k, k < 4 → parseFieldDescriptor (TX0 k).2.2.1 = some (tyX0 k) := by decide +kernel
abbrev cX0_init : ByteArray := prog_2_method_1_code
def yX0_init : MethodName := ⟨RX0, "<init>", "()V"⟩
abbrev cX0_forgetShares : ByteArray := prog_2_method_2_code
def yX0_forgetShares : MethodName := ⟨RX0, "forgetShares", "()V"⟩
abbrev cX0_charge : ByteArray := prog_2_method_3_code
def yX0_charge : MethodName := ⟨RX0, "charge", "(IIJ)J"⟩
def RX1 : String := "Tollweave$Journeys"
def TX1 : u_T := fun k => match k with
  | 0 => ("Tollweave$Journeys", "firstMinute", "[I", true)
  | 1 => ("Tollweave$Journeys", "lastMinute", "[I", true)
  | 2 => ("Tollweave$Journeys", "counting", "[I", true)
  | 3 => ("Tollweave$Journeys", "toPay", "[[I", true)
  | 4 => ("Tollweave$Journeys", "journeyOf", "[I", true)
  | 5 => ("Tollweave$Journeys", "isDouble", "[Z", true)
  | _ => ("Tollweave$Journeys", "count", "I", false)
def tyX1 : Nat → FieldType := fun k => match k with
  | 0 => .array .int
  | 1 => .array .int
  | 2 => .array .int
  | 3 => .array (.array .int)
  | 4 => .array .int
  | 5 => .array .boolean
  | _ => .int
abbrev wsX10 : List Cond := u_ws RX1 TX1 7
theorem nmX1 : ∀ a, a < 7 → ∀ b, b < 7 → a ≠ b → (TX1 a).2.1 ≠ (TX1 b).2.1 := by decide +kernel
theorem tyX1_ok : ∀ k, k < 7 → parseFieldDescriptor (TX1 k).2.2.1 = some (tyX1 k) := by decide +kernel
abbrev cX1_init : ByteArray := prog_3_method_1_code
def yX1_init : MethodName := ⟨RX1, "<init>", "()V"⟩
abbrev cX1_forgetAll : ByteArray := prog_3_method_2_code
def yX1_forgetAll : MethodName := ⟨RX1, "forgetAll", "()V"⟩
abbrev cX1_begin : ByteArray := prog_3_method_3_code
def yX1_begin : MethodName := ⟨RX1, "begin", "(II)V"⟩
abbrev cX1_goOn : ByteArray := prog_3_method_4_code
def yX1_goOn : MethodName := ⟨RX1, "goOn", "(III)V"⟩
abbrev cX1_putDouble : ByteArray := prog_3_method_5_code
def yX1_putDouble : MethodName := ⟨RX1, "putDouble", "(II)V"⟩
abbrev cX1_pay : ByteArray := prog_3_method_6_code
def yX1_pay : MethodName := ⟨RX1, "pay", "(III)V"⟩
abbrev cX1_isOver : ByteArray := prog_3_method_7_code
def yX1_isOver : MethodName := ⟨RX1, "isOver", "(II)Z"⟩
abbrev cX1_wholeOf : ByteArray := prog_3_method_8_code
def yX1_wholeOf : MethodName := ⟨RX1, "wholeOf", "(I)I"⟩
abbrev cX1_fareOf : ByteArray := prog_3_method_9_code
def yX1_fareOf : MethodName := ⟨RX1, "fareOf", "(II)I"⟩
abbrev cX1_shareOf : ByteArray := prog_3_method_10_code
def yX1_shareOf : MethodName := ⟨RX1, "shareOf", "(III)I"⟩
abbrev cX1_cutShare : ByteArray := prog_3_method_11_code
def yX1_cutShare : MethodName := ⟨RX1, "cutShare", "(IIII)I"⟩
abbrev cX1_ownerOfTheMost : ByteArray := prog_3_method_12_code
def yX1_ownerOfTheMost : MethodName := ⟨RX1, "ownerOfTheMost", "(I)I"⟩
abbrev cX1_sumFares : ByteArray := prog_3_method_13_code
def yX1_sumFares : MethodName := ⟨RX1, "sumFares", "(II)J"⟩
abbrev cX1_sumShares : ByteArray := prog_3_method_14_code
def yX1_sumShares : MethodName := ⟨RX1, "sumShares", "(III)J"⟩
def RX2 : String := "Tollweave$Plates"
def TX2 : u_T := fun k => match k with
  | 0 => ("Tollweave$Plates", "kind", "[I", true)
  | 1 => ("Tollweave$Plates", "holder", "[I", true)
  | 2 => ("Tollweave$Plates", "spanPlate", "[I", true)
  | 3 => ("Tollweave$Plates", "spanFrom", "[I", true)
  | 4 => ("Tollweave$Plates", "spanTo", "[I", true)
  | _ => ("Tollweave$Plates", "spanCount", "I", false)
def tyX2 : Nat → FieldType := fun k => match k with
  | 0 => .array .int
  | 1 => .array .int
  | 2 => .array .int
  | 3 => .array .int
  | 4 => .array .int
  | _ => .int
abbrev wsX20 : List Cond := u_ws RX2 TX2 6
theorem nmX2 : ∀ a, a < 6 → ∀ b, b < 6 → a ≠ b → (TX2 a).2.1 ≠ (TX2 b).2.1 := by decide +kernel
theorem tyX2_ok : ∀ k, k < 6 → parseFieldDescriptor (TX2 k).2.2.1 = some (tyX2 k) := by decide +kernel
abbrev cX2_init : ByteArray := prog_4_method_1_code
def yX2_init : MethodName := ⟨RX2, "<init>", "()V"⟩
abbrev cX2_addSpan : ByteArray := prog_4_method_2_code
def yX2_addSpan : MethodName := ⟨RX2, "addSpan", "(III)I"⟩
abbrev cX2_isExempt : ByteArray := prog_4_method_3_code
def yX2_isExempt : MethodName := ⟨RX2, "isExempt", "(II)Z"⟩
def RX3 : String := "Tollweave$Readings"
def TX3 : u_T := fun k => match k with
  | 0 => ("Tollweave$Readings", "gateOf", "[I", true)
  | 1 => ("Tollweave$Readings", "plateOf", "[I", true)
  | 2 => ("Tollweave$Readings", "minuteOf", "[I", true)
  | 3 => ("Tollweave$Readings", "isStruck", "[Z", true)
  | 4 => ("Tollweave$Readings", "inOrder", "[I", true)
  | _ => ("Tollweave$Readings", "count", "I", false)
def tyX3 : Nat → FieldType := fun k => match k with
  | 0 => .array .int
  | 1 => .array .int
  | 2 => .array .int
  | 3 => .array .boolean
  | 4 => .array .int
  | _ => .int
abbrev wsX30 : List Cond := u_ws RX3 TX3 6
theorem nmX3 : ∀ a, a < 6 → ∀ b, b < 6 → a ≠ b → (TX3 a).2.1 ≠ (TX3 b).2.1 := by decide +kernel
theorem tyX3_ok : ∀ k, k < 6 → parseFieldDescriptor (TX3 k).2.2.1 = some (tyX3 k) := by decide +kernel
abbrev cX3_init : ByteArray := prog_5_method_1_code
def yX3_init : MethodName := ⟨RX3, "<init>", "()V"⟩
abbrev cX3_add : ByteArray := prog_5_method_2_code
def yX3_add : MethodName := ⟨RX3, "add", "(III)I"⟩
abbrev cX3_minutesBetween : ByteArray := prog_5_method_3_code
def yX3_minutesBetween : MethodName := ⟨RX3, "minutesBetween", "(II)I"⟩
def RX4 : String := "Tollweave$Roads"
def TX4 : u_T := fun k => match k with
  | 0 => ("Tollweave$Roads", "one", "[I", true)
  | 1 => ("Tollweave$Roads", "other", "[I", true)
  | 2 => ("Tollweave$Roads", "length", "[I", true)
  | 3 => ("Tollweave$Roads", "owner", "[I", true)
  | 4 => ("Tollweave$Roads", "distance", "[[I", true)
  | 5 => ("Tollweave$Roads", "gateCount", "I", false)
  | _ => ("Tollweave$Roads", "roadCount", "I", false)
def tyX4 : Nat → FieldType := fun k => match k with
  | 0 => .array .int
  | 1 => .array .int
  | 2 => .array .int
  | 3 => .array .int
  | 4 => .array (.array .int)
  | 5 => .int
  | _ => .int
abbrev wsX40 : List Cond := u_ws RX4 TX4 7
theorem nmX4 : ∀ a, a < 7 → ∀ b, b < 7 → a ≠ b → (TX4 a).2.1 ≠ (TX4 b).2.1 := by decide +kernel
theorem tyX4_ok : ∀ k, k < 7 → parseFieldDescriptor (TX4 k).2.2.1 = some (tyX4 k) := by decide +kernel
abbrev cX4_init : ByteArray := prog_6_method_1_code
def yX4_init : MethodName := ⟨RX4, "<init>", "()V"⟩
abbrev cX4_addGate : ByteArray := prog_6_method_2_code
def yX4_addGate : MethodName := ⟨RX4, "addGate", "()I"⟩
abbrev cX4_addRoad : ByteArray := prog_6_method_3_code
def yX4_addRoad : MethodName := ⟨RX4, "addRoad", "(IIII)I"⟩
abbrev cX4_shortenDistances : ByteArray := prog_6_method_4_code
def yX4_shortenDistances : MethodName := ⟨RX4, "shortenDistances", "(III)V"⟩
abbrev cX4_hasWay : ByteArray := prog_6_method_5_code
def yX4_hasWay : MethodName := ⟨RX4, "hasWay", "(II)Z"⟩
abbrev cX4_roadOfWay : ByteArray := prog_6_method_6_code
def yX4_roadOfWay : MethodName := ⟨RX4, "roadOfWay", "(III)I"⟩
abbrev cX4_roadTowards : ByteArray := prog_6_method_7_code
def yX4_roadTowards : MethodName := ⟨RX4, "roadTowards", "(II)I"⟩
abbrev cX4_otherEnd : ByteArray := prog_6_method_8_code
def yX4_otherEnd : MethodName := ⟨RX4, "otherEnd", "(II)I"⟩
def RX5 : String := "Tollweave$Tariff"
def TX5 : u_T := fun k => match k with
  | 0 => ("Tollweave$Tariff", "rate", "[I", true)
  | 1 => ("Tollweave$Tariff", "busyPercent", "[I", true)
  | _ => ("Tollweave$Tariff", "mostCents", "I", false)
def tyX5 : Nat → FieldType := fun k => match k with
  | 0 => .array .int
  | 1 => .array .int
  | _ => .int
abbrev wsX50 : List Cond := u_ws RX5 TX5 3
theorem nmX5 : ∀ a, a < 3 → ∀ b, b < 3 → a ≠ b → (TX5 a).2.1 ≠ (TX5 b).2.1 := by decide +kernel
theorem tyX5_ok : ∀ k, k < 3 → parseFieldDescriptor (TX5 k).2.2.1 = some (tyX5 k) := by decide +kernel
abbrev cX5_init : ByteArray := prog_7_method_1_code
def yX5_init : MethodName := ⟨RX5, "<init>", "()V"⟩
abbrev cX5_centsFor : ByteArray := prog_7_method_2_code
def yX5_centsFor : MethodName := ⟨RX5, "centsFor", "(III)I"⟩
abbrev cX5_isBusy : ByteArray := prog_7_method_3_code
def yX5_isBusy : MethodName := ⟨RX5, "isBusy", "(I)Z"⟩
def RX6 : String := "Tollweave"
def TX6 : u_T := fun k => match k with
  | 0 => ("Tollweave", "roads", "LTollweave$Roads;", true)
  | 1 => ("Tollweave", "tariff", "LTollweave$Tariff;", true)
  | 2 => ("Tollweave", "plates", "LTollweave$Plates;", true)
  | 3 => ("Tollweave", "readings", "LTollweave$Readings;", true)
  | 4 => ("Tollweave", "journeys", "LTollweave$Journeys;", true)
  | 5 => ("Tollweave", "accounts", "LTollweave$Accounts;", true)
  | _ => ("Tollweave", "now", "I", false)
def tyX6 : Nat → FieldType := fun k => match k with
  | 0 => .object "Tollweave$Roads"
  | 1 => .object "Tollweave$Tariff"
  | 2 => .object "Tollweave$Plates"
  | 3 => .object "Tollweave$Readings"
  | 4 => .object "Tollweave$Journeys"
  | 5 => .object "Tollweave$Accounts"
  | _ => .int
abbrev wsX60 : List Cond := u_ws RX6 TX6 7
theorem nmX6 : ∀ a, a < 7 → ∀ b, b < 7 → a ≠ b → (TX6 a).2.1 ≠ (TX6 b).2.1 := by decide +kernel
theorem tyX6_ok : ∀ k, k < 7 → parseFieldDescriptor (TX6 k).2.2.1 = some (tyX6 k) := by decide +kernel
abbrev cX6_init : ByteArray := prog_1_method_1_code
def yX6_init : MethodName := ⟨RX6, "<init>", "()V"⟩
abbrev cX6_gate : ByteArray := prog_1_method_2_code
def yX6_gate : MethodName := ⟨RX6, "gate", "()I"⟩
abbrev cX6_road : ByteArray := prog_1_method_3_code
def yX6_road : MethodName := ⟨RX6, "road", "(IIII)I"⟩
abbrev cX6_rate : ByteArray := prog_1_method_4_code
def yX6_rate : MethodName := ⟨RX6, "rate", "(III)V"⟩
abbrev cX6_most : ByteArray := prog_1_method_5_code
def yX6_most : MethodName := ⟨RX6, "most", "(I)I"⟩
abbrev cX6_plate : ByteArray := prog_1_method_6_code
def yX6_plate : MethodName := ⟨RX6, "plate", "(III)V"⟩
abbrev cX6_top : ByteArray := prog_1_method_7_code
def yX6_top : MethodName := ⟨RX6, "top", "(II)J"⟩
abbrev cX6_exempt : ByteArray := prog_1_method_8_code
def yX6_exempt : MethodName := ⟨RX6, "exempt", "(III)I"⟩
abbrev cX6_read : ByteArray := prog_1_method_9_code
def yX6_read : MethodName := ⟨RX6, "read", "(III)I"⟩
abbrev cX6_strike : ByteArray := prog_1_method_10_code
def yX6_strike : MethodName := ⟨RX6, "strike", "(I)V"⟩
abbrev cX6_pass : ByteArray := prog_1_method_11_code
def yX6_pass : MethodName := ⟨RX6, "pass", "(I)I"⟩
abbrev cX6_bill : ByteArray := prog_1_method_12_code
def yX6_bill : MethodName := ⟨RX6, "bill", "()J"⟩
abbrev cX6_distance : ByteArray := prog_1_method_13_code
def yX6_distance : MethodName := ⟨RX6, "distance", "(II)I"⟩
abbrev cX6_way : ByteArray := prog_1_method_14_code
def yX6_way : MethodName := ⟨RX6, "way", "(III)I"⟩
abbrev cX6_journeys : ByteArray := prog_1_method_15_code
def yX6_journeys : MethodName := ⟨RX6, "journeys", "(I)I"⟩
abbrev cX6_journey : ByteArray := prog_1_method_16_code
def yX6_journey : MethodName := ⟨RX6, "journey", "(III)I"⟩
abbrev cX6_ofReading : ByteArray := prog_1_method_17_code
def yX6_ofReading : MethodName := ⟨RX6, "ofReading", "(II)I"⟩
abbrev cX6_due : ByteArray := prog_1_method_18_code
def yX6_due : MethodName := ⟨RX6, "due", "(I)J"⟩
abbrev cX6_billed : ByteArray := prog_1_method_19_code
def yX6_billed : MethodName := ⟨RX6, "billed", "(I)J"⟩
abbrev cX6_wallet : ByteArray := prog_1_method_20_code
def yX6_wallet : MethodName := ⟨RX6, "wallet", "(I)J"⟩
abbrev cX6_own : ByteArray := prog_1_method_21_code
def yX6_own : MethodName := ⟨RX6, "own", "(I)J"⟩
abbrev cX6_share : ByteArray := prog_1_method_22_code
def yX6_share : MethodName := ⟨RX6, "share", "(IZ)J"⟩
abbrev cX6_requireGate : ByteArray := prog_1_method_23_code
def yX6_requireGate : MethodName := ⟨RX6, "requireGate", "(I)V"⟩
abbrev cX6_requireReading : ByteArray := prog_1_method_24_code
def yX6_requireReading : MethodName := ⟨RX6, "requireReading", "(I)V"⟩
abbrev cX6_requirePlate : ByteArray := prog_1_method_25_code
def yX6_requirePlate : MethodName := ⟨RX6, "requirePlate", "(I)V"⟩
abbrev cX6_requireHolder : ByteArray := prog_1_method_26_code
def yX6_requireHolder : MethodName := ⟨RX6, "requireHolder", "(I)V"⟩
abbrev cX6_requireRange : ByteArray := prog_1_method_27_code
def yX6_requireRange : MethodName := ⟨RX6, "requireRange", "(III)V"⟩
abbrev cX6_findJourneys : ByteArray := prog_1_method_28_code
def yX6_findJourneys : MethodName := ⟨RX6, "findJourneys", "(I)V"⟩
abbrev cX6_placeReading : ByteArray := prog_1_method_29_code
def yX6_placeReading : MethodName := ⟨RX6, "placeReading", "(II)I"⟩
abbrev cX6_isDoubleOf : ByteArray := prog_1_method_30_code
def yX6_isDoubleOf : MethodName := ⟨RX6, "isDoubleOf", "(II)Z"⟩
abbrev cX6_goesOnFrom : ByteArray := prog_1_method_31_code
def yX6_goesOnFrom : MethodName := ⟨RX6, "goesOnFrom", "(II)Z"⟩
abbrev cX6_payWay : ByteArray := prog_1_method_32_code
def yX6_payWay : MethodName := ⟨RX6, "payWay", "(III)V"⟩
abbrev cX6_isDoubleNow : ByteArray := prog_1_method_33_code
def yX6_isDoubleNow : MethodName := ⟨RX6, "isDoubleNow", "(I)Z"⟩
abbrev cX6_journeyNow : ByteArray := prog_1_method_34_code
def yX6_journeyNow : MethodName := ⟨RX6, "journeyNow", "(I)I"⟩
abbrev cX6_dueToOwner : ByteArray := prog_1_method_35_code
def yX6_dueToOwner : MethodName := ⟨RX6, "dueToOwner", "(I)J"⟩
def RX7 : String := "TollweaveModel"
def TX7 : u_T := fun k => match k with
  | 0 => ("TollweaveModel", "thrown", "I", false)
  | 1 => ("TollweaveModel", "now", "I", false)
  | 2 => ("TollweaveModel", "gateMany", "I", false)
  | 3 => ("TollweaveModel", "roadMany", "I", false)
  | 4 => ("TollweaveModel", "ones", "[I", true)
  | 5 => ("TollweaveModel", "others", "[I", true)
  | 6 => ("TollweaveModel", "lengths", "[I", true)
  | 7 => ("TollweaveModel", "owners", "[I", true)
  | 8 => ("TollweaveModel", "far", "[I", true)
  | 9 => ("TollweaveModel", "rates", "[I", true)
  | 10 => ("TollweaveModel", "percents", "[I", true)
  | 11 => ("TollweaveModel", "most", "I", false)
  | 12 => ("TollweaveModel", "kinds", "[I", true)
  | 13 => ("TollweaveModel", "holders", "[I", true)
  | 14 => ("TollweaveModel", "billed", "[J", true)
  | 15 => ("TollweaveModel", "own", "[J", true)
  | 16 => ("TollweaveModel", "wallets", "[J", true)
  | 17 => ("TollweaveModel", "got", "[J", true)
  | 18 => ("TollweaveModel", "spanMany", "I", false)
  | 19 => ("TollweaveModel", "spanPlate", "[I", true)
  | 20 => ("TollweaveModel", "spanFrom", "[I", true)
  | 21 => ("TollweaveModel", "spanTo", "[I", true)
  | 22 => ("TollweaveModel", "readingMany", "I", false)
  | 23 => ("TollweaveModel", "readGate", "[I", true)
  | 24 => ("TollweaveModel", "readPlate", "[I", true)
  | 25 => ("TollweaveModel", "readMinute", "[I", true)
  | 26 => ("TollweaveModel", "isStruck", "[Z", true)
  | 27 => ("TollweaveModel", "isDouble", "[Z", true)
  | 28 => ("TollweaveModel", "journeyOf", "[I", true)
  | 29 => ("TollweaveModel", "isDone", "[Z", true)
  | 30 => ("TollweaveModel", "journeyMany", "I", false)
  | 31 => ("TollweaveModel", "first", "[I", true)
  | 32 => ("TollweaveModel", "last", "[I", true)
  | 33 => ("TollweaveModel", "counts", "[I", true)
  | 34 => ("TollweaveModel", "paid", "[J", true)
  | 35 => ("TollweaveModel", "fares", "[J", true)
  | _ => ("TollweaveModel", "shares", "[J", true)
def tyX7 : Nat → FieldType := fun k => match k with
  | 0 => .int
  | 1 => .int
  | 2 => .int
  | 3 => .int
  | 4 => .array .int
  | 5 => .array .int
  | 6 => .array .int
  | 7 => .array .int
  | 8 => .array .int
  | 9 => .array .int
  | 10 => .array .int
  | 11 => .int
  | 12 => .array .int
  | 13 => .array .int
  | 14 => .array .long
  | 15 => .array .long
  | 16 => .array .long
  | 17 => .array .long
  | 18 => .int
  | 19 => .array .int
  | 20 => .array .int
  | 21 => .array .int
  | 22 => .int
  | 23 => .array .int
  | 24 => .array .int
  | 25 => .array .int
  | 26 => .array .boolean
  | 27 => .array .boolean
  | 28 => .array .int
  | 29 => .array .boolean
  | 30 => .int
  | 31 => .array .int
  | 32 => .array .int
  | 33 => .array .int
  | 34 => .array .long
  | 35 => .array .long
  | _ => .array .long
abbrev wsX70 : List Cond := u_ws RX7 TX7 37
theorem nmX7 : ∀ a, a < 37 → ∀ b, b < 37 → a ≠ b → (TX7 a).2.1 ≠ (TX7 b).2.1 := by decide +kernel
theorem tyX7_ok : ∀ k, k < 37 → parseFieldDescriptor (TX7 k).2.2.1 = some (tyX7 k) := by decide +kernel
abbrev cX7_init : ByteArray := prog_9_method_1_code
def yX7_init : MethodName := ⟨RX7, "<init>", "()V"⟩
abbrev cX7_thrown : ByteArray := prog_9_method_2_code
def yX7_thrown : MethodName := ⟨RX7, "thrown", "()I"⟩
abbrev cX7_in : ByteArray := prog_9_method_3_code
def yX7_in : MethodName := ⟨RX7, "in", "(III)Z"⟩
abbrev cX7_isGate : ByteArray := prog_9_method_4_code
def yX7_isGate : MethodName := ⟨RX7, "isGate", "(I)Z"⟩
abbrev cX7_isPlate : ByteArray := prog_9_method_5_code
def yX7_isPlate : MethodName := ⟨RX7, "isPlate", "(I)Z"⟩
abbrev cX7_isHolder : ByteArray := prog_9_method_6_code
def yX7_isHolder : MethodName := ⟨RX7, "isHolder", "(I)Z"⟩
abbrev cX7_isReading : ByteArray := prog_9_method_7_code
def yX7_isReading : MethodName := ⟨RX7, "isReading", "(I)Z"⟩
abbrev cX7_measures : ByteArray := prog_9_method_8_code
def yX7_measures : MethodName := ⟨RX7, "measures", "()V"⟩
abbrev cX7_away : ByteArray := prog_9_method_9_code
def yX7_away : MethodName := ⟨RX7, "away", "(II)I"⟩
abbrev cX7_next : ByteArray := prog_9_method_10_code
def yX7_next : MethodName := ⟨RX7, "next", "(II)I"⟩
abbrev cX7_otherEnd : ByteArray := prog_9_method_11_code
def yX7_otherEnd : MethodName := ⟨RX7, "otherEnd", "(II)I"⟩
abbrev cX7_gate : ByteArray := prog_9_method_12_code
def yX7_gate : MethodName := ⟨RX7, "gate", "()I"⟩
abbrev cX7_road : ByteArray := prog_9_method_13_code
def yX7_road : MethodName := ⟨RX7, "road", "(IIII)I"⟩
abbrev cX7_rate : ByteArray := prog_9_method_14_code
def yX7_rate : MethodName := ⟨RX7, "rate", "(III)V"⟩
abbrev cX7_most : ByteArray := prog_9_method_15_code
def yX7_most : MethodName := ⟨RX7, "most", "(I)I"⟩
abbrev cX7_plate : ByteArray := prog_9_method_16_code
def yX7_plate : MethodName := ⟨RX7, "plate", "(III)V"⟩
abbrev cX7_top : ByteArray := prog_9_method_17_code
def yX7_top : MethodName := ⟨RX7, "top", "(II)J"⟩
abbrev cX7_exempt : ByteArray := prog_9_method_18_code
def yX7_exempt : MethodName := ⟨RX7, "exempt", "(III)I"⟩
abbrev cX7_isExempt : ByteArray := prog_9_method_19_code
def yX7_isExempt : MethodName := ⟨RX7, "isExempt", "(II)Z"⟩
abbrev cX7_read : ByteArray := prog_9_method_20_code
def yX7_read : MethodName := ⟨RX7, "read", "(III)I"⟩
abbrev cX7_strike : ByteArray := prog_9_method_21_code
def yX7_strike : MethodName := ⟨RX7, "strike", "(I)V"⟩
abbrev cX7_pass : ByteArray := prog_9_method_22_code
def yX7_pass : MethodName := ⟨RX7, "pass", "(I)I"⟩
abbrev cX7_nextReading : ByteArray := prog_9_method_23_code
def yX7_nextReading : MethodName := ⟨RX7, "nextReading", "(I)I"⟩
abbrev cX7_pays : ByteArray := prog_9_method_24_code
def yX7_pays : MethodName := ⟨RX7, "pays", "(IIII)V"⟩
abbrev cX7_begins : ByteArray := prog_9_method_25_code
def yX7_begins : MethodName := ⟨RX7, "begins", "(I)V"⟩
abbrev cX7_shares : ByteArray := prog_9_method_26_code
def yX7_shares : MethodName := ⟨RX7, "shares", "(I)V"⟩
abbrev cX7_goes : ByteArray := prog_9_method_27_code
def yX7_goes : MethodName := ⟨RX7, "goes", "(I)V"⟩
abbrev cX7_isOver : ByteArray := prog_9_method_28_code
def yX7_isOver : MethodName := ⟨RX7, "isOver", "(I)Z"⟩
abbrev cX7_dueOf : ByteArray := prog_9_method_29_code
def yX7_dueOf : MethodName := ⟨RX7, "dueOf", "(I)J"⟩
abbrev cX7_dueTo : ByteArray := prog_9_method_30_code
def yX7_dueTo : MethodName := ⟨RX7, "dueTo", "(I)J"⟩
abbrev cX7_bill : ByteArray := prog_9_method_31_code
def yX7_bill : MethodName := ⟨RX7, "bill", "()J"⟩
abbrev cX7_distance : ByteArray := prog_9_method_32_code
def yX7_distance : MethodName := ⟨RX7, "distance", "(II)I"⟩
abbrev cX7_way : ByteArray := prog_9_method_33_code
def yX7_way : MethodName := ⟨RX7, "way", "(III)I"⟩
abbrev cX7_journeys : ByteArray := prog_9_method_34_code
def yX7_journeys : MethodName := ⟨RX7, "journeys", "(I)I"⟩
abbrev cX7_journey : ByteArray := prog_9_method_35_code
def yX7_journey : MethodName := ⟨RX7, "journey", "(III)I"⟩
abbrev cX7_ofReading : ByteArray := prog_9_method_36_code
def yX7_ofReading : MethodName := ⟨RX7, "ofReading", "(II)I"⟩
abbrev cX7_due : ByteArray := prog_9_method_37_code
def yX7_due : MethodName := ⟨RX7, "due", "(I)J"⟩
abbrev cX7_billed : ByteArray := prog_9_method_38_code
def yX7_billed : MethodName := ⟨RX7, "billed", "(I)J"⟩
abbrev cX7_wallet : ByteArray := prog_9_method_39_code
def yX7_wallet : MethodName := ⟨RX7, "wallet", "(I)J"⟩
abbrev cX7_own : ByteArray := prog_9_method_40_code
def yX7_own : MethodName := ⟨RX7, "own", "(I)J"⟩
abbrev cX7_share : ByteArray := prog_9_method_41_code
def yX7_share : MethodName := ⟨RX7, "share", "(IZ)J"⟩
def RJ9 : String := "java/lang/Math"
def TJ9 : u_T := fun k => match k with
  | _ => ("", "", "", false)
def tyJ9 : Nat → FieldType := fun k => match k with
  | _ => .int
abbrev wsJ90 : List Cond := u_ws RJ9 TJ9 0
theorem nmJ9 : ∀ a, a < 0 → ∀ b, b < 0 → a ≠ b → (TJ9 a).2.1 ≠ (TJ9 b).2.1 := by decide +kernel
theorem tyJ9_ok : ∀ k, k < 0 → parseFieldDescriptor (TJ9 k).2.2.1 = some (tyJ9 k) := by decide +kernel
abbrev cJ9_min_7cf53 : ByteArray := prog_14_method_69_code
def yJ9_min_7cf53 : MethodName := ⟨RJ9, "min", "(II)I"⟩
def RJ0 : String := "java/lang/String"
def TJ0 : u_T := fun k => match k with
  | _ => ("", "", "", false)
def tyJ0 : Nat → FieldType := fun k => match k with
  | _ => .int
abbrev wsJ00 : List Cond := u_ws RJ0 TJ0 0
theorem nmJ0 : ∀ a, a < 0 → ∀ b, b < 0 → a ≠ b → (TJ0 a).2.1 ≠ (TJ0 b).2.1 := by decide +kernel
theorem tyJ0_ok : ∀ k, k < 0 → parseFieldDescriptor (TJ0 k).2.2.1 = some (tyJ0 k) := by decide +kernel
def RL : String := "TollweaveLaw"
abbrev cL_gate : ByteArray := method_3_code
def yL_gate : MethodName := ⟨RL, "gate", "(LTollweave;[J)I"⟩
abbrev cL_road : ByteArray := method_4_code
def yL_road : MethodName := ⟨RL, "road", "(LTollweave;IIII[J)I"⟩
abbrev cL_rate : ByteArray := method_5_code
def yL_rate : MethodName := ⟨RL, "rate", "(LTollweave;III)I"⟩
abbrev cL_most : ByteArray := method_6_code
def yL_most : MethodName := ⟨RL, "most", "(LTollweave;I[J)I"⟩
abbrev cL_plate : ByteArray := method_7_code
def yL_plate : MethodName := ⟨RL, "plate", "(LTollweave;III)I"⟩
abbrev cL_top : ByteArray := method_8_code
def yL_top : MethodName := ⟨RL, "top", "(LTollweave;II[J)I"⟩
abbrev cL_exempt : ByteArray := method_9_code
def yL_exempt : MethodName := ⟨RL, "exempt", "(LTollweave;III[J)I"⟩
abbrev cL_read : ByteArray := method_10_code
def yL_read : MethodName := ⟨RL, "read", "(LTollweave;III[J)I"⟩
abbrev cL_strike : ByteArray := method_11_code
def yL_strike : MethodName := ⟨RL, "strike", "(LTollweave;I)I"⟩
abbrev cL_pass : ByteArray := method_12_code
def yL_pass : MethodName := ⟨RL, "pass", "(LTollweave;I[J)I"⟩
abbrev cL_distance : ByteArray := method_13_code
def yL_distance : MethodName := ⟨RL, "distance", "(LTollweave;II[J)I"⟩
abbrev cL_way : ByteArray := method_14_code
def yL_way : MethodName := ⟨RL, "way", "(LTollweave;III[J)I"⟩
abbrev cL_journeys : ByteArray := method_15_code
def yL_journeys : MethodName := ⟨RL, "journeys", "(LTollweave;I[J)I"⟩
abbrev cL_journey : ByteArray := method_16_code
def yL_journey : MethodName := ⟨RL, "journey", "(LTollweave;III[J)I"⟩
abbrev cL_ofReading : ByteArray := method_17_code
def yL_ofReading : MethodName := ⟨RL, "ofReading", "(LTollweave;II[J)I"⟩
abbrev cL_due : ByteArray := method_18_code
def yL_due : MethodName := ⟨RL, "due", "(LTollweave;I[J)I"⟩
abbrev cL_billed : ByteArray := method_19_code
def yL_billed : MethodName := ⟨RL, "billed", "(LTollweave;I[J)I"⟩
abbrev cL_wallet : ByteArray := method_20_code
def yL_wallet : MethodName := ⟨RL, "wallet", "(LTollweave;I[J)I"⟩
abbrev cL_own : ByteArray := method_21_code
def yL_own : MethodName := ⟨RL, "own", "(LTollweave;I[J)I"⟩
abbrev cL_share : ByteArray := method_22_code
def yL_share : MethodName := ⟨RL, "share", "(LTollweave;IZ[J)I"⟩
abbrev cL_law : ByteArray := code
def yL_law : MethodName := ⟨RL, "law", "([I)Z"⟩
end
section
/-- the words of the tables that any walk may take along -/
def TT : List Cond := lw_tbl.filter goodWord
theorem tt_of {w : Cond} (n : Nat) (h : lw_tbl[n]? = some w) (g : goodWord w = true) : w ∈ TT := List.mem_filter.mpr ⟨List.mem_of_getElem? h, g⟩
theorem tt_good {w : Cond} (h : w ∈ TT) : (w.onTables && w.keeps) = true ∨ ∃ ty, w = .arrayClass ty := good_of_word (List.mem_filter.mp h).2
theorem tt_in {args : Array Value} {s : State} (h : ∀ w ∈ lw_tbl, w.before args s = true) : ∀ w ∈ TT, w.before args s = true := fun w hw => h w (List.mem_filter.mp hw).1
theorem tw_0 : Cond.selects "Tollweave" yX6_findJourneys yX6_findJourneys ∈ TT := tt_of 0 rfl rfl
theorem tw_1 : Cond.selects "Tollweave" yX6_placeReading yX6_placeReading ∈ TT := tt_of 1 rfl rfl
theorem tw_2 : Cond.selects "Tollweave" yX6_isDoubleOf yX6_isDoubleOf ∈ TT := tt_of 2 rfl rfl
theorem tw_3 : Cond.selects "Tollweave" yX6_goesOnFrom yX6_goesOnFrom ∈ TT := tt_of 3 rfl rfl
theorem tw_4 : Cond.selects "Tollweave" yX6_payWay yX6_payWay ∈ TT := tt_of 4 rfl rfl
theorem tw_5 : Cond.selects "Tollweave$Journeys" yX1_wholeOf yX1_wholeOf ∈ TT := tt_of 5 rfl rfl
theorem tw_6 : Cond.selects "Tollweave$Journeys" yX1_ownerOfTheMost yX1_ownerOfTheMost ∈ TT := tt_of 6 rfl rfl
theorem tw_7 : Cond.selects "Tollweave$Journeys" yX1_cutShare yX1_cutShare ∈ TT := tt_of 7 rfl rfl
theorem tw_8 : Cond.selects "java/lang/Throwable" ⟨"java/lang/Throwable","fillInStackTrace","(I)Ljava/lang/Throwable;"⟩ ⟨"java/lang/Throwable","fillInStackTrace","(I)Ljava/lang/Throwable;"⟩ ∈ TT := tt_of 8 rfl rfl
theorem tw_9 : Cond.selects "Tollweave" yX6_requireGate yX6_requireGate ∈ TT := tt_of 9 rfl rfl
theorem tw_10 : Cond.selects "Tollweave$Roads" yX4_shortenDistances yX4_shortenDistances ∈ TT := tt_of 10 rfl rfl
theorem tw_11 : Cond.selects "Tollweave" yX6_requireReading yX6_requireReading ∈ TT := tt_of 11 rfl rfl
theorem tw_12 : Cond.selects "Tollweave" yX6_isDoubleNow yX6_isDoubleNow ∈ TT := tt_of 12 rfl rfl
theorem tw_13 : Cond.selects "Tollweave" yX6_journeyNow yX6_journeyNow ∈ TT := tt_of 13 rfl rfl
theorem tw_14 : Cond.selects "Tollweave" yX6_dueToOwner yX6_dueToOwner ∈ TT := tt_of 14 rfl rfl
theorem tw_15 : Cond.selects "TollweaveModel" yX7_measures yX7_measures ∈ TT := tt_of 15 rfl rfl
theorem tw_16 : Cond.selects "TollweaveModel" yX7_isGate yX7_isGate ∈ TT := tt_of 16 rfl rfl
theorem tw_17 : Cond.selects "TollweaveModel" yX7_isReading yX7_isReading ∈ TT := tt_of 17 rfl rfl
theorem tw_18 : Cond.selects "TollweaveModel" yX7_dueOf yX7_dueOf ∈ TT := tt_of 18 rfl rfl
theorem tw_19 : Cond.selects "TollweaveModel" yX7_goes yX7_goes ∈ TT := tt_of 19 rfl rfl
theorem tw_20 : Cond.selects "TollweaveModel" yX7_nextReading yX7_nextReading ∈ TT := tt_of 20 rfl rfl
theorem tw_21 : Cond.selects "TollweaveModel" yX7_away yX7_away ∈ TT := tt_of 21 rfl rfl
theorem tw_22 : Cond.selects "TollweaveModel" yX7_pays yX7_pays ∈ TT := tt_of 22 rfl rfl
theorem tw_23 : Cond.selects "TollweaveModel" yX7_isExempt yX7_isExempt ∈ TT := tt_of 23 rfl rfl
theorem tw_24 : Cond.selects "TollweaveModel" yX7_next yX7_next ∈ TT := tt_of 24 rfl rfl
theorem tw_25 : Cond.selects "TollweaveModel" yX7_otherEnd yX7_otherEnd ∈ TT := tt_of 25 rfl rfl
theorem tw_26 : Cond.selects "TollweaveModel" yX7_begins yX7_begins ∈ TT := tt_of 26 rfl rfl
theorem tw_27 : Cond.selects "TollweaveModel" yX7_shares yX7_shares ∈ TT := tt_of 27 rfl rfl
theorem tw_28 : Cond.selects "TollweaveModel" yX7_isOver yX7_isOver ∈ TT := tt_of 28 rfl rfl
theorem tw_29 : Cond.selects "TollweaveModel" yX7_dueTo yX7_dueTo ∈ TT := tt_of 29 rfl rfl
theorem tw_30 : Cond.initialized "TollweaveLaw" ∈ TT := tt_of 30 rfl rfl
theorem tw_31 : Cond.initialized "Tollweave" ∈ TT := tt_of 31 rfl rfl
theorem tw_32 : Cond.initialized "Tollweave$Roads" ∈ TT := tt_of 32 rfl rfl
theorem tw_33 : Cond.initialized "Tollweave$Tariff" ∈ TT := tt_of 33 rfl rfl
theorem tw_34 : Cond.initialized "Tollweave$Plates" ∈ TT := tt_of 34 rfl rfl
theorem tw_35 : Cond.initialized "Tollweave$Readings" ∈ TT := tt_of 35 rfl rfl
theorem tw_36 : Cond.initialized "Tollweave$Journeys" ∈ TT := tt_of 36 rfl rfl
theorem tw_37 : Cond.initialized "Tollweave$Accounts" ∈ TT := tt_of 37 rfl rfl
theorem tw_38 : Cond.initialized "TollweaveModel" ∈ TT := tt_of 38 rfl rfl
theorem tw_39 : Cond.initialized "java/lang/Throwable" ∈ TT := tt_of 39 rfl rfl
theorem tw_40 : Cond.initialized "java/lang/Exception" ∈ TT := tt_of 40 rfl rfl
theorem tw_41 : Cond.initialized "java/lang/RuntimeException" ∈ TT := tt_of 41 rfl rfl
theorem tw_42 : Cond.initialized "java/lang/IllegalStateException" ∈ TT := tt_of 42 rfl rfl
theorem tw_43 : Cond.initialized "java/lang/IndexOutOfBoundsException" ∈ TT := tt_of 43 rfl rfl
theorem tw_44 : Cond.initialized "java/lang/IllegalArgumentException" ∈ TT := tt_of 44 rfl rfl
theorem tw_45 : Cond.initialized "java/lang/Math" ∈ TT := tt_of 45 rfl rfl
theorem tw_46 : Cond.classLink "TollweaveLaw" 8 "Tollweave" ∈ TT := tt_of 46 rfl rfl
theorem tw_47 : Cond.instantiable "Tollweave" 7 ∈ TT := tt_of 47 rfl rfl
theorem tw_48 : Cond.methodLink "TollweaveLaw" 85 yX6_init ∈ TT := tt_of 48 rfl rfl
theorem tw_49 : Cond.instanceMethod yX6_init ∈ TT := tt_of 49 rfl rfl
theorem tw_50 : Cond.code yX6_init cX6_init 1 ((Option.none : Option ClassFile.FieldType)) ∈ TT := tt_of 50 rfl rfl
theorem tw_51 : Cond.methodLink "Tollweave" 1 ⟨"java/lang/Object","<init>","()V"⟩ ∈ TT := tt_of 51 rfl rfl
theorem tw_52 : Cond.instanceMethod ⟨"java/lang/Object","<init>","()V"⟩ ∈ TT := tt_of 52 rfl rfl
theorem tw_53 : Cond.code ⟨"java/lang/Object","<init>","()V"⟩ object_method_1_code 1 ((Option.none : Option ClassFile.FieldType)) ∈ TT := tt_of 53 rfl rfl
theorem tw_54 : Cond.classLink "Tollweave" 7 "Tollweave$Roads" ∈ TT := tt_of 54 rfl rfl
theorem tw_55 : Cond.instantiable "Tollweave$Roads" 7 ∈ TT := tt_of 55 rfl rfl
theorem tw_56 : Cond.methodLink "Tollweave" 9 yX4_init ∈ TT := tt_of 56 rfl rfl
theorem tw_57 : Cond.instanceMethod yX4_init ∈ TT := tt_of 57 rfl rfl
theorem tw_58 : Cond.code yX4_init cX4_init 3 ((Option.none : Option ClassFile.FieldType)) ∈ TT := tt_of 58 rfl rfl
theorem tw_59 : Cond.methodLink "Tollweave$Roads" 3 ⟨"java/lang/Object","<init>","()V"⟩ ∈ TT := tt_of 59 rfl rfl
theorem tw_60 : Cond.classLink "Tollweave$Roads" 24 "[[I" ∈ TT := tt_of 60 rfl rfl
theorem tw_62 : Cond.constant "Tollweave$Roads" 29 1000000 ∈ TT := tt_of 62 rfl rfl
theorem tw_63 : Cond.fieldLink "Tollweave$Roads" 9 "Tollweave$Roads" "one" "[I" ∈ TT := tt_of 63 rfl rfl
theorem tw_64 : Cond.fieldLink "Tollweave$Roads" 15 "Tollweave$Roads" "other" "[I" ∈ TT := tt_of 64 rfl rfl
theorem tw_65 : Cond.fieldLink "Tollweave$Roads" 18 "Tollweave$Roads" "length" "[I" ∈ TT := tt_of 65 rfl rfl
theorem tw_67 : Cond.fieldLink "Tollweave$Roads" 21 "Tollweave$Roads" "owner" "[I" ∈ TT := tt_of 67 rfl rfl
theorem tw_69 : Cond.fieldLink "Tollweave$Roads" 26 "Tollweave$Roads" "distance" "[[I" ∈ TT := tt_of 69 rfl rfl
theorem tw_71 : Cond.fieldLink "Tollweave$Roads" 30 "Tollweave$Roads" "gateCount" "I" ∈ TT := tt_of 71 rfl rfl
theorem tw_73 : Cond.fieldLink "Tollweave$Roads" 34 "Tollweave$Roads" "roadCount" "I" ∈ TT := tt_of 73 rfl rfl
theorem tw_75 : Cond.laysFinal "Tollweave$Roads" "Tollweave$Roads" "one" "[I" ∈ TT := tt_of 75 rfl rfl
theorem tw_77 : Cond.laysFinal "Tollweave$Roads" "Tollweave$Roads" "other" "[I" ∈ TT := tt_of 77 rfl rfl
theorem tw_79 : Cond.laysFinal "Tollweave$Roads" "Tollweave$Roads" "length" "[I" ∈ TT := tt_of 79 rfl rfl
theorem tw_81 : Cond.laysFinal "Tollweave$Roads" "Tollweave$Roads" "owner" "[I" ∈ TT := tt_of 81 rfl rfl
theorem tw_83 : Cond.laysFinal "Tollweave$Roads" "Tollweave$Roads" "distance" "[[I" ∈ TT := tt_of 83 rfl rfl
theorem tw_85 : Cond.lays "Tollweave$Roads" "Tollweave$Roads" "gateCount" "I" ∈ TT := tt_of 85 rfl rfl
theorem tw_87 : Cond.lays "Tollweave$Roads" "Tollweave$Roads" "roadCount" "I" ∈ TT := tt_of 87 rfl rfl
theorem tw_90 : Cond.arrayClass .int ∈ TT := tt_of 90 rfl rfl
theorem tw_91 : Cond.classLink "Tollweave" 16 "Tollweave$Tariff" ∈ TT := tt_of 91 rfl rfl
theorem tw_92 : Cond.instantiable "Tollweave$Tariff" 3 ∈ TT := tt_of 92 rfl rfl
theorem tw_93 : Cond.methodLink "Tollweave" 18 yX5_init ∈ TT := tt_of 93 rfl rfl
theorem tw_94 : Cond.instanceMethod yX5_init ∈ TT := tt_of 94 rfl rfl
theorem tw_95 : Cond.code yX5_init cX5_init 2 ((Option.none : Option ClassFile.FieldType)) ∈ TT := tt_of 95 rfl rfl
theorem tw_96 : Cond.methodLink "Tollweave$Tariff" 3 ⟨"java/lang/Object","<init>","()V"⟩ ∈ TT := tt_of 96 rfl rfl
theorem tw_97 : Cond.fieldLink "Tollweave$Tariff" 9 "Tollweave$Tariff" "rate" "[I" ∈ TT := tt_of 97 rfl rfl
theorem tw_99 : Cond.fieldLink "Tollweave$Tariff" 15 "Tollweave$Tariff" "busyPercent" "[I" ∈ TT := tt_of 99 rfl rfl
theorem tw_101 : Cond.fieldLink "Tollweave$Tariff" 18 "Tollweave$Tariff" "mostCents" "I" ∈ TT := tt_of 101 rfl rfl
theorem tw_103 : Cond.laysFinal "Tollweave$Tariff" "Tollweave$Tariff" "rate" "[I" ∈ TT := tt_of 103 rfl rfl
theorem tw_105 : Cond.laysFinal "Tollweave$Tariff" "Tollweave$Tariff" "busyPercent" "[I" ∈ TT := tt_of 105 rfl rfl
theorem tw_107 : Cond.lays "Tollweave$Tariff" "Tollweave$Tariff" "mostCents" "I" ∈ TT := tt_of 107 rfl rfl
theorem tw_110 : Cond.classLink "Tollweave" 23 "Tollweave$Plates" ∈ TT := tt_of 110 rfl rfl
theorem tw_111 : Cond.instantiable "Tollweave$Plates" 6 ∈ TT := tt_of 111 rfl rfl
theorem tw_112 : Cond.methodLink "Tollweave" 25 yX2_init ∈ TT := tt_of 112 rfl rfl
theorem tw_113 : Cond.instanceMethod yX2_init ∈ TT := tt_of 113 rfl rfl
theorem tw_114 : Cond.code yX2_init cX2_init 2 ((Option.none : Option ClassFile.FieldType)) ∈ TT := tt_of 114 rfl rfl
theorem tw_115 : Cond.methodLink "Tollweave$Plates" 3 ⟨"java/lang/Object","<init>","()V"⟩ ∈ TT := tt_of 115 rfl rfl
theorem tw_116 : Cond.fieldLink "Tollweave$Plates" 9 "Tollweave$Plates" "kind" "[I" ∈ TT := tt_of 116 rfl rfl
theorem tw_118 : Cond.fieldLink "Tollweave$Plates" 15 "Tollweave$Plates" "holder" "[I" ∈ TT := tt_of 118 rfl rfl
theorem tw_120 : Cond.fieldLink "Tollweave$Plates" 18 "Tollweave$Plates" "spanPlate" "[I" ∈ TT := tt_of 120 rfl rfl
theorem tw_121 : Cond.fieldLink "Tollweave$Plates" 21 "Tollweave$Plates" "spanFrom" "[I" ∈ TT := tt_of 121 rfl rfl
theorem tw_122 : Cond.fieldLink "Tollweave$Plates" 24 "Tollweave$Plates" "spanTo" "[I" ∈ TT := tt_of 122 rfl rfl
theorem tw_123 : Cond.fieldLink "Tollweave$Plates" 27 "Tollweave$Plates" "spanCount" "I" ∈ TT := tt_of 123 rfl rfl
theorem tw_125 : Cond.laysFinal "Tollweave$Plates" "Tollweave$Plates" "kind" "[I" ∈ TT := tt_of 125 rfl rfl
theorem tw_127 : Cond.laysFinal "Tollweave$Plates" "Tollweave$Plates" "holder" "[I" ∈ TT := tt_of 127 rfl rfl
theorem tw_129 : Cond.laysFinal "Tollweave$Plates" "Tollweave$Plates" "spanPlate" "[I" ∈ TT := tt_of 129 rfl rfl
theorem tw_131 : Cond.laysFinal "Tollweave$Plates" "Tollweave$Plates" "spanFrom" "[I" ∈ TT := tt_of 131 rfl rfl
theorem tw_133 : Cond.laysFinal "Tollweave$Plates" "Tollweave$Plates" "spanTo" "[I" ∈ TT := tt_of 133 rfl rfl
theorem tw_135 : Cond.lays "Tollweave$Plates" "Tollweave$Plates" "spanCount" "I" ∈ TT := tt_of 135 rfl rfl
theorem tw_138 : Cond.classLink "Tollweave" 30 "Tollweave$Readings" ∈ TT := tt_of 138 rfl rfl
theorem tw_139 : Cond.instantiable "Tollweave$Readings" 6 ∈ TT := tt_of 139 rfl rfl
theorem tw_140 : Cond.methodLink "Tollweave" 32 yX3_init ∈ TT := tt_of 140 rfl rfl
theorem tw_141 : Cond.instanceMethod yX3_init ∈ TT := tt_of 141 rfl rfl
theorem tw_142 : Cond.code yX3_init cX3_init 1 ((Option.none : Option ClassFile.FieldType)) ∈ TT := tt_of 142 rfl rfl
theorem tw_143 : Cond.methodLink "Tollweave$Readings" 3 ⟨"java/lang/Object","<init>","()V"⟩ ∈ TT := tt_of 143 rfl rfl
theorem tw_144 : Cond.fieldLink "Tollweave$Readings" 9 "Tollweave$Readings" "gateOf" "[I" ∈ TT := tt_of 144 rfl rfl
theorem tw_146 : Cond.fieldLink "Tollweave$Readings" 15 "Tollweave$Readings" "plateOf" "[I" ∈ TT := tt_of 146 rfl rfl
theorem tw_148 : Cond.fieldLink "Tollweave$Readings" 18 "Tollweave$Readings" "minuteOf" "[I" ∈ TT := tt_of 148 rfl rfl
theorem tw_150 : Cond.fieldLink "Tollweave$Readings" 21 "Tollweave$Readings" "isStruck" "[Z" ∈ TT := tt_of 150 rfl rfl
theorem tw_152 : Cond.fieldLink "Tollweave$Readings" 25 "Tollweave$Readings" "inOrder" "[I" ∈ TT := tt_of 152 rfl rfl
theorem tw_154 : Cond.fieldLink "Tollweave$Readings" 28 "Tollweave$Readings" "count" "I" ∈ TT := tt_of 154 rfl rfl
theorem tw_156 : Cond.laysFinal "Tollweave$Readings" "Tollweave$Readings" "gateOf" "[I" ∈ TT := tt_of 156 rfl rfl
theorem tw_158 : Cond.laysFinal "Tollweave$Readings" "Tollweave$Readings" "plateOf" "[I" ∈ TT := tt_of 158 rfl rfl
theorem tw_160 : Cond.laysFinal "Tollweave$Readings" "Tollweave$Readings" "minuteOf" "[I" ∈ TT := tt_of 160 rfl rfl
theorem tw_162 : Cond.laysFinal "Tollweave$Readings" "Tollweave$Readings" "isStruck" "[Z" ∈ TT := tt_of 162 rfl rfl
theorem tw_164 : Cond.laysFinal "Tollweave$Readings" "Tollweave$Readings" "inOrder" "[I" ∈ TT := tt_of 164 rfl rfl
theorem tw_166 : Cond.lays "Tollweave$Readings" "Tollweave$Readings" "count" "I" ∈ TT := tt_of 166 rfl rfl
theorem tw_169 : Cond.arrayClass .boolean ∈ TT := tt_of 169 rfl rfl
theorem tw_170 : Cond.classLink "Tollweave" 37 "Tollweave$Journeys" ∈ TT := tt_of 170 rfl rfl
theorem tw_171 : Cond.instantiable "Tollweave$Journeys" 7 ∈ TT := tt_of 171 rfl rfl
theorem tw_172 : Cond.methodLink "Tollweave" 39 yX1_init ∈ TT := tt_of 172 rfl rfl
theorem tw_173 : Cond.instanceMethod yX1_init ∈ TT := tt_of 173 rfl rfl
theorem tw_174 : Cond.code yX1_init cX1_init 1 ((Option.none : Option ClassFile.FieldType)) ∈ TT := tt_of 174 rfl rfl
theorem tw_175 : Cond.methodLink "Tollweave$Journeys" 3 ⟨"java/lang/Object","<init>","()V"⟩ ∈ TT := tt_of 175 rfl rfl
theorem tw_176 : Cond.classLink "Tollweave$Journeys" 21 "[[I" ∈ TT := tt_of 176 rfl rfl
theorem tw_177 : Cond.fieldLink "Tollweave$Journeys" 9 "Tollweave$Journeys" "firstMinute" "[I" ∈ TT := tt_of 177 rfl rfl
theorem tw_179 : Cond.fieldLink "Tollweave$Journeys" 15 "Tollweave$Journeys" "lastMinute" "[I" ∈ TT := tt_of 179 rfl rfl
theorem tw_181 : Cond.fieldLink "Tollweave$Journeys" 18 "Tollweave$Journeys" "counting" "[I" ∈ TT := tt_of 181 rfl rfl
theorem tw_183 : Cond.fieldLink "Tollweave$Journeys" 23 "Tollweave$Journeys" "toPay" "[[I" ∈ TT := tt_of 183 rfl rfl
theorem tw_184 : Cond.fieldLink "Tollweave$Journeys" 26 "Tollweave$Journeys" "journeyOf" "[I" ∈ TT := tt_of 184 rfl rfl
theorem tw_186 : Cond.fieldLink "Tollweave$Journeys" 29 "Tollweave$Journeys" "isDouble" "[Z" ∈ TT := tt_of 186 rfl rfl
theorem tw_188 : Cond.fieldLink "Tollweave$Journeys" 33 "Tollweave$Journeys" "count" "I" ∈ TT := tt_of 188 rfl rfl
theorem tw_190 : Cond.laysFinal "Tollweave$Journeys" "Tollweave$Journeys" "firstMinute" "[I" ∈ TT := tt_of 190 rfl rfl
theorem tw_192 : Cond.laysFinal "Tollweave$Journeys" "Tollweave$Journeys" "lastMinute" "[I" ∈ TT := tt_of 192 rfl rfl
theorem tw_194 : Cond.laysFinal "Tollweave$Journeys" "Tollweave$Journeys" "counting" "[I" ∈ TT := tt_of 194 rfl rfl
theorem tw_196 : Cond.laysFinal "Tollweave$Journeys" "Tollweave$Journeys" "toPay" "[[I" ∈ TT := tt_of 196 rfl rfl
theorem tw_198 : Cond.laysFinal "Tollweave$Journeys" "Tollweave$Journeys" "journeyOf" "[I" ∈ TT := tt_of 198 rfl rfl
theorem tw_200 : Cond.laysFinal "Tollweave$Journeys" "Tollweave$Journeys" "isDouble" "[Z" ∈ TT := tt_of 200 rfl rfl
theorem tw_202 : Cond.lays "Tollweave$Journeys" "Tollweave$Journeys" "count" "I" ∈ TT := tt_of 202 rfl rfl
theorem tw_205 : Cond.classLink "Tollweave" 44 "Tollweave$Accounts" ∈ TT := tt_of 205 rfl rfl
theorem tw_206 : Cond.instantiable "Tollweave$Accounts" 4 ∈ TT := tt_of 206 rfl rfl
theorem tw_207 : Cond.methodLink "Tollweave" 46 yX0_init ∈ TT := tt_of 207 rfl rfl
theorem tw_208 : Cond.instanceMethod yX0_init ∈ TT := tt_of 208 rfl rfl
theorem tw_209 : Cond.code yX0_init cX0_init 1 ((Option.none : Option ClassFile.FieldType)) ∈ TT := tt_of 209 rfl rfl
theorem tw_210 : Cond.methodLink "Tollweave$Accounts" 3 ⟨"java/lang/Object","<init>","()V"⟩ ∈ TT := tt_of 210 rfl rfl
theorem tw_211 : Cond.fieldLink "Tollweave$Accounts" 9 "Tollweave$Accounts" "wallet" "[J" ∈ TT := tt_of 211 rfl rfl
theorem tw_213 : Cond.fieldLink "Tollweave$Accounts" 15 "Tollweave$Accounts" "own" "[J" ∈ TT := tt_of 213 rfl rfl
theorem tw_215 : Cond.fieldLink "Tollweave$Accounts" 18 "Tollweave$Accounts" "billed" "[J" ∈ TT := tt_of 215 rfl rfl
theorem tw_217 : Cond.fieldLink "Tollweave$Accounts" 21 "Tollweave$Accounts" "got" "[J" ∈ TT := tt_of 217 rfl rfl
theorem tw_219 : Cond.laysFinal "Tollweave$Accounts" "Tollweave$Accounts" "wallet" "[J" ∈ TT := tt_of 219 rfl rfl
theorem tw_221 : Cond.laysFinal "Tollweave$Accounts" "Tollweave$Accounts" "own" "[J" ∈ TT := tt_of 221 rfl rfl
theorem tw_223 : Cond.laysFinal "Tollweave$Accounts" "Tollweave$Accounts" "billed" "[J" ∈ TT := tt_of 223 rfl rfl
theorem tw_225 : Cond.laysFinal "Tollweave$Accounts" "Tollweave$Accounts" "got" "[J" ∈ TT := tt_of 225 rfl rfl
theorem tw_228 : Cond.arrayClass .long ∈ TT := tt_of 228 rfl rfl
theorem tw_229 : Cond.fieldLink "Tollweave" 10 "Tollweave" "roads" "LTollweave$Roads;" ∈ TT := tt_of 229 rfl rfl
theorem tw_230 : Cond.fieldLink "Tollweave" 19 "Tollweave" "tariff" "LTollweave$Tariff;" ∈ TT := tt_of 230 rfl rfl
theorem tw_231 : Cond.fieldLink "Tollweave" 26 "Tollweave" "plates" "LTollweave$Plates;" ∈ TT := tt_of 231 rfl rfl
theorem tw_232 : Cond.fieldLink "Tollweave" 33 "Tollweave" "readings" "LTollweave$Readings;" ∈ TT := tt_of 232 rfl rfl
theorem tw_233 : Cond.fieldLink "Tollweave" 40 "Tollweave" "journeys" "LTollweave$Journeys;" ∈ TT := tt_of 233 rfl rfl
theorem tw_234 : Cond.fieldLink "Tollweave" 47 "Tollweave" "accounts" "LTollweave$Accounts;" ∈ TT := tt_of 234 rfl rfl
theorem tw_235 : Cond.fieldLink "Tollweave" 51 "Tollweave" "now" "I" ∈ TT := tt_of 235 rfl rfl
theorem tw_236 : Cond.laysFinal "Tollweave" "Tollweave" "roads" "LTollweave$Roads;" ∈ TT := tt_of 236 rfl rfl
theorem tw_238 : Cond.laysFinal "Tollweave" "Tollweave" "tariff" "LTollweave$Tariff;" ∈ TT := tt_of 238 rfl rfl
theorem tw_240 : Cond.laysFinal "Tollweave" "Tollweave" "plates" "LTollweave$Plates;" ∈ TT := tt_of 240 rfl rfl
theorem tw_242 : Cond.laysFinal "Tollweave" "Tollweave" "readings" "LTollweave$Readings;" ∈ TT := tt_of 242 rfl rfl
theorem tw_244 : Cond.laysFinal "Tollweave" "Tollweave" "journeys" "LTollweave$Journeys;" ∈ TT := tt_of 244 rfl rfl
theorem tw_246 : Cond.laysFinal "Tollweave" "Tollweave" "accounts" "LTollweave$Accounts;" ∈ TT := tt_of 246 rfl rfl
theorem tw_248 : Cond.lays "Tollweave" "Tollweave" "now" "I" ∈ TT := tt_of 248 rfl rfl
theorem tw_251 : Cond.methodLink "TollweaveLaw" 131 yX6_bill ∈ TT := tt_of 251 rfl rfl
theorem tw_252 : Cond.instanceMethod yX6_bill ∈ TT := tt_of 252 rfl rfl
theorem tw_253 : Cond.selects "Tollweave" yX6_bill yX6_bill ∈ TT := tt_of 253 rfl rfl
theorem tw_254 : Cond.code yX6_bill cX6_bill 7 ((Option.some .long)) ∈ TT := tt_of 254 rfl rfl
theorem tw_255 : Cond.methodLink "Tollweave" 146 yX0_forgetShares ∈ TT := tt_of 255 rfl rfl
theorem tw_256 : Cond.instanceMethod yX0_forgetShares ∈ TT := tt_of 256 rfl rfl
theorem tw_257 : Cond.selects "Tollweave$Accounts" yX0_forgetShares yX0_forgetShares ∈ TT := tt_of 257 rfl rfl
theorem tw_258 : Cond.code yX0_forgetShares cX0_forgetShares 2 ((Option.none : Option ClassFile.FieldType)) ∈ TT := tt_of 258 rfl rfl
theorem tw_259 : Cond.methodLink "Tollweave" 149 yX6_findJourneys ∈ TT := tt_of 259 rfl rfl
theorem tw_261 : Cond.instanceMethod yX6_findJourneys ∈ TT := tt_of 261 rfl rfl
theorem tw_262 : Cond.code yX6_findJourneys cX6_findJourneys 5 ((Option.none : Option ClassFile.FieldType)) ∈ TT := tt_of 262 rfl rfl
theorem tw_263 : Cond.methodLink "Tollweave" 244 yX1_forgetAll ∈ TT := tt_of 263 rfl rfl
theorem tw_264 : Cond.instanceMethod yX1_forgetAll ∈ TT := tt_of 264 rfl rfl
theorem tw_265 : Cond.selects "Tollweave$Journeys" yX1_forgetAll yX1_forgetAll ∈ TT := tt_of 265 rfl rfl
theorem tw_266 : Cond.code yX1_forgetAll cX1_forgetAll 1 ((Option.none : Option ClassFile.FieldType)) ∈ TT := tt_of 266 rfl rfl
theorem tw_267 : Cond.methodLink "Tollweave" 250 yX6_placeReading ∈ TT := tt_of 267 rfl rfl
theorem tw_269 : Cond.instanceMethod yX6_placeReading ∈ TT := tt_of 269 rfl rfl
theorem tw_270 : Cond.code yX6_placeReading cX6_placeReading 5 ((Option.some .int)) ∈ TT := tt_of 270 rfl rfl
theorem tw_271 : Cond.methodLink "Tollweave" 253 yX1_begin ∈ TT := tt_of 271 rfl rfl
theorem tw_272 : Cond.instanceMethod yX1_begin ∈ TT := tt_of 272 rfl rfl
theorem tw_273 : Cond.selects "Tollweave$Journeys" yX1_begin yX1_begin ∈ TT := tt_of 273 rfl rfl
theorem tw_274 : Cond.code yX1_begin cX1_begin 5 ((Option.none : Option ClassFile.FieldType)) ∈ TT := tt_of 274 rfl rfl
theorem tw_275 : Cond.methodLink "Tollweave" 260 yX6_isDoubleOf ∈ TT := tt_of 275 rfl rfl
theorem tw_277 : Cond.instanceMethod yX6_isDoubleOf ∈ TT := tt_of 277 rfl rfl
theorem tw_278 : Cond.code yX6_isDoubleOf cX6_isDoubleOf 3 ((Option.some .boolean)) ∈ TT := tt_of 278 rfl rfl
theorem tw_279 : Cond.methodLink "Tollweave" 275 yX3_minutesBetween ∈ TT := tt_of 279 rfl rfl
theorem tw_280 : Cond.instanceMethod yX3_minutesBetween ∈ TT := tt_of 280 rfl rfl
theorem tw_281 : Cond.selects "Tollweave$Readings" yX3_minutesBetween yX3_minutesBetween ∈ TT := tt_of 281 rfl rfl
theorem tw_282 : Cond.code yX3_minutesBetween cX3_minutesBetween 3 ((Option.some .int)) ∈ TT := tt_of 282 rfl rfl
theorem tw_283 : Cond.methodLink "Tollweave" 263 yX1_putDouble ∈ TT := tt_of 283 rfl rfl
theorem tw_284 : Cond.instanceMethod yX1_putDouble ∈ TT := tt_of 284 rfl rfl
theorem tw_285 : Cond.selects "Tollweave$Journeys" yX1_putDouble yX1_putDouble ∈ TT := tt_of 285 rfl rfl
theorem tw_286 : Cond.code yX1_putDouble cX1_putDouble 3 ((Option.none : Option ClassFile.FieldType)) ∈ TT := tt_of 286 rfl rfl
theorem tw_287 : Cond.methodLink "Tollweave" 266 yX6_goesOnFrom ∈ TT := tt_of 287 rfl rfl
theorem tw_289 : Cond.instanceMethod yX6_goesOnFrom ∈ TT := tt_of 289 rfl rfl
theorem tw_290 : Cond.code yX6_goesOnFrom cX6_goesOnFrom 7 ((Option.some .boolean)) ∈ TT := tt_of 290 rfl rfl
theorem tw_291 : Cond.methodLink "Tollweave" 167 yX4_hasWay ∈ TT := tt_of 291 rfl rfl
theorem tw_292 : Cond.instanceMethod yX4_hasWay ∈ TT := tt_of 292 rfl rfl
theorem tw_293 : Cond.selects "Tollweave$Roads" yX4_hasWay yX4_hasWay ∈ TT := tt_of 293 rfl rfl
theorem tw_294 : Cond.code yX4_hasWay cX4_hasWay 3 ((Option.some .boolean)) ∈ TT := tt_of 294 rfl rfl
theorem tw_295 : Cond.methodLink "Tollweave" 269 yX1_goOn ∈ TT := tt_of 295 rfl rfl
theorem tw_296 : Cond.instanceMethod yX1_goOn ∈ TT := tt_of 296 rfl rfl
theorem tw_297 : Cond.selects "Tollweave$Journeys" yX1_goOn yX1_goOn ∈ TT := tt_of 297 rfl rfl
theorem tw_298 : Cond.code yX1_goOn cX1_goOn 4 ((Option.none : Option ClassFile.FieldType)) ∈ TT := tt_of 298 rfl rfl
theorem tw_299 : Cond.methodLink "Tollweave" 272 yX6_payWay ∈ TT := tt_of 299 rfl rfl
set_option maxRecDepth 20000 in
theorem tw_301 : Cond.instanceMethod yX6_payWay ∈ TT := tt_of 301 rfl rfl
set_option maxRecDepth 20000 in
theorem tw_302 : Cond.code yX6_payWay cX6_payWay 11 ((Option.none : Option ClassFile.FieldType)) ∈ TT := tt_of 302 rfl rfl
set_option maxRecDepth 20000 in
theorem tw_303 : Cond.methodLink "Tollweave" 278 yX2_isExempt ∈ TT := tt_of 303 rfl rfl
set_option maxRecDepth 20000 in
theorem tw_304 : Cond.instanceMethod yX2_isExempt ∈ TT := tt_of 304 rfl rfl
set_option maxRecDepth 20000 in
theorem tw_305 : Cond.selects "Tollweave$Plates" yX2_isExempt yX2_isExempt ∈ TT := tt_of 305 rfl rfl
set_option maxRecDepth 20000 in
theorem tw_306 : Cond.code yX2_isExempt cX2_isExempt 4 ((Option.some .boolean)) ∈ TT := tt_of 306 rfl rfl
set_option maxRecDepth 20000 in
theorem tw_307 : Cond.methodLink "Tollweave" 281 yX4_roadTowards ∈ TT := tt_of 307 rfl rfl
set_option maxRecDepth 20000 in
theorem tw_308 : Cond.instanceMethod yX4_roadTowards ∈ TT := tt_of 308 rfl rfl
set_option maxRecDepth 20000 in
theorem tw_309 : Cond.selects "Tollweave$Roads" yX4_roadTowards yX4_roadTowards ∈ TT := tt_of 309 rfl rfl
set_option maxRecDepth 20000 in
theorem tw_310 : Cond.code yX4_roadTowards cX4_roadTowards 5 ((Option.some .int)) ∈ TT := tt_of 310 rfl rfl
set_option maxRecDepth 20000 in
theorem tw_311 : Cond.methodLink "Tollweave$Roads" 50 yX4_otherEnd ∈ TT := tt_of 311 rfl rfl
set_option maxRecDepth 20000 in
theorem tw_312 : Cond.instanceMethod yX4_otherEnd ∈ TT := tt_of 312 rfl rfl
set_option maxRecDepth 20000 in
theorem tw_313 : Cond.selects "Tollweave$Roads" yX4_otherEnd yX4_otherEnd ∈ TT := tt_of 313 rfl rfl
set_option maxRecDepth 20000 in
theorem tw_314 : Cond.code yX4_otherEnd cX4_otherEnd 3 ((Option.some .int)) ∈ TT := tt_of 314 rfl rfl
set_option maxRecDepth 20000 in
theorem tw_315 : Cond.methodLink "Tollweave" 287 yX5_centsFor ∈ TT := tt_of 315 rfl rfl
set_option maxRecDepth 20000 in
theorem tw_316 : Cond.instanceMethod yX5_centsFor ∈ TT := tt_of 316 rfl rfl
set_option maxRecDepth 20000 in
theorem tw_317 : Cond.selects "Tollweave$Tariff" yX5_centsFor yX5_centsFor ∈ TT := tt_of 317 rfl rfl
set_option maxRecDepth 20000 in
theorem tw_318 : Cond.code yX5_centsFor cX5_centsFor 5 ((Option.some .int)) ∈ TT := tt_of 318 rfl rfl
set_option maxRecDepth 20000 in
theorem tw_319 : Cond.methodLink "Tollweave$Tariff" 22 yX5_isBusy ∈ TT := tt_of 319 rfl rfl
set_option maxRecDepth 20000 in
theorem tw_320 : Cond.static yX5_isBusy ∈ TT := tt_of 320 rfl rfl
set_option maxRecDepth 20000 in
theorem tw_321 : Cond.code yX5_isBusy cX5_isBusy 2 ((Option.some .boolean)) ∈ TT := tt_of 321 rfl rfl
set_option maxRecDepth 20000 in
theorem tw_322 : Cond.methodLink "Tollweave" 293 yX1_pay ∈ TT := tt_of 322 rfl rfl
set_option maxRecDepth 20000 in
theorem tw_323 : Cond.instanceMethod yX1_pay ∈ TT := tt_of 323 rfl rfl
set_option maxRecDepth 20000 in
theorem tw_324 : Cond.selects "Tollweave$Journeys" yX1_pay yX1_pay ∈ TT := tt_of 324 rfl rfl
set_option maxRecDepth 20000 in
theorem tw_325 : Cond.code yX1_pay cX1_pay 4 ((Option.none : Option ClassFile.FieldType)) ∈ TT := tt_of 325 rfl rfl
set_option maxRecDepth 20000 in
theorem tw_326 : Cond.methodLink "Tollweave" 296 yX4_otherEnd ∈ TT := tt_of 326 rfl rfl
set_option maxRecDepth 20000 in
theorem tw_327 : Cond.methodLink "Tollweave" 152 yX1_sumFares ∈ TT := tt_of 327 rfl rfl
set_option maxRecDepth 20000 in
theorem tw_328 : Cond.instanceMethod yX1_sumFares ∈ TT := tt_of 328 rfl rfl
set_option maxRecDepth 20000 in
theorem tw_329 : Cond.selects "Tollweave$Journeys" yX1_sumFares yX1_sumFares ∈ TT := tt_of 329 rfl rfl
set_option maxRecDepth 20000 in
theorem tw_330 : Cond.code yX1_sumFares cX1_sumFares 6 ((Option.some .long)) ∈ TT := tt_of 330 rfl rfl
set_option maxRecDepth 20000 in
theorem tw_331 : Cond.methodLink "Tollweave$Journeys" 54 yX1_isOver ∈ TT := tt_of 331 rfl rfl
set_option maxRecDepth 20000 in
theorem tw_332 : Cond.instanceMethod yX1_isOver ∈ TT := tt_of 332 rfl rfl
set_option maxRecDepth 20000 in
theorem tw_333 : Cond.selects "Tollweave$Journeys" yX1_isOver yX1_isOver ∈ TT := tt_of 333 rfl rfl
set_option maxRecDepth 20000 in
theorem tw_334 : Cond.code yX1_isOver cX1_isOver 3 ((Option.some .boolean)) ∈ TT := tt_of 334 rfl rfl
set_option maxRecDepth 20000 in
theorem tw_335 : Cond.methodLink "Tollweave$Journeys" 58 yX1_fareOf ∈ TT := tt_of 335 rfl rfl
set_option maxRecDepth 20000 in
theorem tw_336 : Cond.instanceMethod yX1_fareOf ∈ TT := tt_of 336 rfl rfl
set_option maxRecDepth 20000 in
theorem tw_337 : Cond.selects "Tollweave$Journeys" yX1_fareOf yX1_fareOf ∈ TT := tt_of 337 rfl rfl
set_option maxRecDepth 20000 in
theorem tw_338 : Cond.code yX1_fareOf cX1_fareOf 3 ((Option.some .int)) ∈ TT := tt_of 338 rfl rfl
set_option maxRecDepth 20000 in
theorem tw_339 : Cond.methodLink "Tollweave$Journeys" 37 yX1_wholeOf ∈ TT := tt_of 339 rfl rfl
set_option maxRecDepth 20000 in
theorem tw_341 : Cond.instanceMethod yX1_wholeOf ∈ TT := tt_of 341 rfl rfl
set_option maxRecDepth 20000 in
theorem tw_342 : Cond.code yX1_wholeOf cX1_wholeOf 4 ((Option.some .int)) ∈ TT := tt_of 342 rfl rfl
set_option maxRecDepth 20000 in
theorem tw_343 : Cond.methodLink "Tollweave$Journeys" 41 yJ9_min_7cf53 ∈ TT := tt_of 343 rfl rfl
set_option maxRecDepth 20000 in
theorem tw_344 : Cond.static yJ9_min_7cf53 ∈ TT := tt_of 344 rfl rfl
set_option maxRecDepth 20000 in
theorem tw_345 : Cond.code yJ9_min_7cf53 cJ9_min_7cf53 2 ((Option.some .int)) ∈ TT := tt_of 345 rfl rfl
set_option maxRecDepth 20000 in
theorem tw_346 : Cond.methodLink "Tollweave" 156 yX0_charge ∈ TT := tt_of 346 rfl rfl
set_option maxRecDepth 20000 in
theorem tw_347 : Cond.instanceMethod yX0_charge ∈ TT := tt_of 347 rfl rfl
set_option maxRecDepth 20000 in
theorem tw_348 : Cond.selects "Tollweave$Accounts" yX0_charge yX0_charge ∈ TT := tt_of 348 rfl rfl
set_option maxRecDepth 20000 in
theorem tw_349 : Cond.code yX0_charge cX0_charge 7 ((Option.some .long)) ∈ TT := tt_of 349 rfl rfl
set_option maxRecDepth 20000 in
theorem tw_350 : Cond.methodLink "Tollweave" 163 yX1_sumShares ∈ TT := tt_of 350 rfl rfl
set_option maxRecDepth 20000 in
theorem tw_351 : Cond.instanceMethod yX1_sumShares ∈ TT := tt_of 351 rfl rfl
set_option maxRecDepth 20000 in
theorem tw_352 : Cond.selects "Tollweave$Journeys" yX1_sumShares yX1_sumShares ∈ TT := tt_of 352 rfl rfl
set_option maxRecDepth 20000 in
theorem tw_353 : Cond.code yX1_sumShares cX1_sumShares 7 ((Option.some .long)) ∈ TT := tt_of 353 rfl rfl
set_option maxRecDepth 20000 in
theorem tw_354 : Cond.methodLink "Tollweave$Journeys" 61 yX1_shareOf ∈ TT := tt_of 354 rfl rfl
set_option maxRecDepth 20000 in
theorem tw_355 : Cond.instanceMethod yX1_shareOf ∈ TT := tt_of 355 rfl rfl
set_option maxRecDepth 20000 in
theorem tw_356 : Cond.selects "Tollweave$Journeys" yX1_shareOf yX1_shareOf ∈ TT := tt_of 356 rfl rfl
set_option maxRecDepth 20000 in
theorem tw_357 : Cond.code yX1_shareOf cX1_shareOf 7 ((Option.some .int)) ∈ TT := tt_of 357 rfl rfl
set_option maxRecDepth 20000 in
theorem tw_358 : Cond.methodLink "Tollweave$Journeys" 47 yX1_ownerOfTheMost ∈ TT := tt_of 358 rfl rfl
set_option maxRecDepth 20000 in
theorem tw_360 : Cond.instanceMethod yX1_ownerOfTheMost ∈ TT := tt_of 360 rfl rfl
set_option maxRecDepth 20000 in
theorem tw_361 : Cond.code yX1_ownerOfTheMost cX1_ownerOfTheMost 4 ((Option.some .int)) ∈ TT := tt_of 361 rfl rfl
set_option maxRecDepth 20000 in
theorem tw_362 : Cond.methodLink "Tollweave$Journeys" 50 yX1_cutShare ∈ TT := tt_of 362 rfl rfl
set_option maxRecDepth 20000 in
theorem tw_364 : Cond.instanceMethod yX1_cutShare ∈ TT := tt_of 364 rfl rfl
set_option maxRecDepth 20000 in
theorem tw_365 : Cond.code yX1_cutShare cX1_cutShare 5 ((Option.some .int)) ∈ TT := tt_of 365 rfl rfl
set_option maxRecDepth 20000 in
theorem tw_366 : Cond.methodLink "TollweaveLaw" 89 yL_gate ∈ TT := tt_of 366 rfl rfl
set_option maxRecDepth 20000 in
theorem tw_367 : Cond.static yL_gate ∈ TT := tt_of 367 rfl rfl
set_option maxRecDepth 20000 in
theorem tw_368 : Cond.codeWith yL_gate cL_gate 3 ((Option.some .int)) [((0 : Nat), (8 : Nat), (11 : Nat), (13 : Nat))] ∈ TT := tt_of 368 rfl rfl
set_option maxRecDepth 20000 in
theorem tw_369 : Cond.classLink "TollweaveLaw" 13 "java/lang/IllegalStateException" ∈ TT := tt_of 369 rfl rfl
set_option maxRecDepth 20000 in
theorem tw_370 : Cond.methodLink "TollweaveLaw" 7 yX6_gate ∈ TT := tt_of 370 rfl rfl
set_option maxRecDepth 20000 in
theorem tw_371 : Cond.instanceMethod yX6_gate ∈ TT := tt_of 371 rfl rfl
set_option maxRecDepth 20000 in
theorem tw_372 : Cond.selects "Tollweave" yX6_gate yX6_gate ∈ TT := tt_of 372 rfl rfl
set_option maxRecDepth 20000 in
theorem tw_373 : Cond.code yX6_gate cX6_gate 1 ((Option.some .int)) ∈ TT := tt_of 373 rfl rfl
set_option maxRecDepth 20000 in
theorem tw_374 : Cond.classLink "Tollweave" 58 "java/lang/IllegalStateException" ∈ TT := tt_of 374 rfl rfl
set_option maxRecDepth 20000 in
theorem tw_375 : Cond.instantiable "java/lang/IllegalStateException" 6 ∈ TT := tt_of 375 rfl rfl
set_option maxRecDepth 20000 in
theorem tw_383 : Cond.selects "java/lang/IllegalStateException" ⟨"java/lang/Throwable","fillInStackTrace","(I)Ljava/lang/Throwable;"⟩ ⟨"java/lang/Throwable","fillInStackTrace","(I)Ljava/lang/Throwable;"⟩ ∈ TT := tt_of 383 rfl rfl
set_option maxRecDepth 20000 in
theorem tw_384 : Cond.selects "java/lang/IllegalStateException" ⟨"java/lang/Throwable","fillInStackTrace","()Ljava/lang/Throwable;"⟩ ⟨"java/lang/Throwable","fillInStackTrace","()Ljava/lang/Throwable;"⟩ ∈ TT := tt_of 384 rfl rfl
set_option maxRecDepth 20000 in
theorem tw_385 : Cond.lays "java/lang/IllegalStateException" "java/lang/Throwable" "cause" "Ljava/lang/Throwable;" ∈ TT := tt_of 385 rfl rfl
set_option maxRecDepth 20000 in
theorem tw_386 : Cond.lays "java/lang/Throwable" "java/lang/Throwable" "cause" "Ljava/lang/Throwable;" ∈ TT := tt_of 386 rfl rfl
set_option maxRecDepth 20000 in
theorem tw_387 : Cond.lays "java/lang/IllegalStateException" "java/lang/Throwable" "stackTrace" "[Ljava/lang/StackTraceElement;" ∈ TT := tt_of 387 rfl rfl
set_option maxRecDepth 20000 in
theorem tw_388 : Cond.lays "java/lang/Throwable" "java/lang/Throwable" "stackTrace" "[Ljava/lang/StackTraceElement;" ∈ TT := tt_of 388 rfl rfl
set_option maxRecDepth 20000 in
theorem tw_389 : Cond.lays "java/lang/IllegalStateException" "java/lang/Throwable" "suppressedExceptions" "Ljava/util/List;" ∈ TT := tt_of 389 rfl rfl
set_option maxRecDepth 20000 in
theorem tw_390 : Cond.lays "java/lang/Throwable" "java/lang/Throwable" "suppressedExceptions" "Ljava/util/List;" ∈ TT := tt_of 390 rfl rfl
set_option maxRecDepth 20000 in
theorem tw_391 : Cond.lays "java/lang/IllegalStateException" "java/lang/Throwable" "detailMessage" "Ljava/lang/String;" ∈ TT := tt_of 391 rfl rfl
set_option maxRecDepth 20000 in
theorem tw_392 : Cond.lays "java/lang/Throwable" "java/lang/Throwable" "detailMessage" "Ljava/lang/String;" ∈ TT := tt_of 392 rfl rfl
set_option maxRecDepth 20000 in
theorem tw_393 : Cond.lays "java/lang/IllegalStateException" "java/lang/Throwable" "backtrace" "Ljava/lang/Object;" ∈ TT := tt_of 393 rfl rfl
set_option maxRecDepth 20000 in
theorem tw_394 : Cond.lays "java/lang/Throwable" "java/lang/Throwable" "backtrace" "Ljava/lang/Object;" ∈ TT := tt_of 394 rfl rfl
set_option maxRecDepth 20000 in
theorem tw_395 : Cond.fieldLink "java/lang/Throwable" 198 "java/lang/Throwable" "backtrace" "Ljava/lang/Object;" ∈ TT := tt_of 395 rfl rfl
set_option maxRecDepth 20000 in
theorem tw_397 : Cond.instanceMethod ⟨"java/lang/Throwable","<init>","()V"⟩ ∈ TT := tt_of 397 rfl rfl
set_option maxRecDepth 20000 in
theorem tw_399 : Cond.methodLink "java/lang/Throwable" 1 ⟨"java/lang/Object","<init>","()V"⟩ ∈ TT := tt_of 399 rfl rfl
set_option maxRecDepth 20000 in
theorem tw_400 : Cond.fieldLink "java/lang/Throwable" 13 "java/lang/Throwable" "UNASSIGNED_STACK" "[Ljava/lang/StackTraceElement;" ∈ TT := tt_of 400 rfl rfl
set_option maxRecDepth 20000 in
theorem tw_402 : Cond.fieldLink "java/lang/Throwable" 20 "java/lang/Throwable" "SUPPRESSED_SENTINEL" "Ljava/util/List;" ∈ TT := tt_of 402 rfl rfl
set_option maxRecDepth 20000 in
theorem tw_404 : Cond.methodLink "java/lang/Throwable" 27 ⟨"java/lang/Throwable","fillInStackTrace","()Ljava/lang/Throwable;"⟩ ∈ TT := tt_of 404 rfl rfl
set_option maxRecDepth 20000 in
theorem tw_405 : Cond.instanceMethod ⟨"java/lang/Throwable","fillInStackTrace","()Ljava/lang/Throwable;"⟩ ∈ TT := tt_of 405 rfl rfl
set_option maxRecDepth 20000 in
theorem tw_407 : Cond.selects "java/lang/IllegalArgumentException" ⟨"java/lang/Throwable","fillInStackTrace","()Ljava/lang/Throwable;"⟩ ⟨"java/lang/Throwable","fillInStackTrace","()Ljava/lang/Throwable;"⟩ ∈ TT := tt_of 407 rfl rfl
set_option maxRecDepth 20000 in
theorem tw_408 : Cond.selects "java/lang/IndexOutOfBoundsException" ⟨"java/lang/Throwable","fillInStackTrace","()Ljava/lang/Throwable;"⟩ ⟨"java/lang/Throwable","fillInStackTrace","()Ljava/lang/Throwable;"⟩ ∈ TT := tt_of 408 rfl rfl
set_option maxRecDepth 20000 in
theorem tw_410 : Cond.methodLink "java/lang/Throwable" 202 ⟨"java/lang/Throwable","fillInStackTrace","(I)Ljava/lang/Throwable;"⟩ ∈ TT := tt_of 410 rfl rfl
set_option maxRecDepth 20000 in
theorem tw_412 : Cond.instanceMethod ⟨"java/lang/Throwable","fillInStackTrace","(I)Ljava/lang/Throwable;"⟩ ∈ TT := tt_of 412 rfl rfl
set_option maxRecDepth 20000 in
theorem tw_413 : Cond.instantiable "java/lang/Throwable" 6 ∈ TT := tt_of 413 rfl rfl
set_option maxRecDepth 20000 in
theorem tw_416 : Cond.methodLink "Tollweave" 62 ⟨"java/lang/IllegalStateException","<init>","(Ljava/lang/String;)V"⟩ ∈ TT := tt_of 416 rfl rfl
set_option maxRecDepth 20000 in
theorem tw_417 : Cond.instanceMethod ⟨"java/lang/IllegalStateException","<init>","(Ljava/lang/String;)V"⟩ ∈ TT := tt_of 417 rfl rfl
set_option maxRecDepth 20000 in
theorem tw_418 : Cond.code ⟨"java/lang/IllegalStateException","<init>","(Ljava/lang/String;)V"⟩ prog_12_method_2_code 2 ((Option.none : Option ClassFile.FieldType)) ∈ TT := tt_of 418 rfl rfl
set_option maxRecDepth 20000 in
theorem tw_419 : Cond.methodLink "java/lang/IllegalStateException" 7 ⟨"java/lang/RuntimeException","<init>","(Ljava/lang/String;)V"⟩ ∈ TT := tt_of 419 rfl rfl
set_option maxRecDepth 20000 in
theorem tw_420 : Cond.instanceMethod ⟨"java/lang/RuntimeException","<init>","(Ljava/lang/String;)V"⟩ ∈ TT := tt_of 420 rfl rfl
set_option maxRecDepth 20000 in
theorem tw_421 : Cond.code ⟨"java/lang/RuntimeException","<init>","(Ljava/lang/String;)V"⟩ prog_15_method_2_code 2 ((Option.none : Option ClassFile.FieldType)) ∈ TT := tt_of 421 rfl rfl
set_option maxRecDepth 20000 in
theorem tw_422 : Cond.methodLink "java/lang/RuntimeException" 7 ⟨"java/lang/Exception","<init>","(Ljava/lang/String;)V"⟩ ∈ TT := tt_of 422 rfl rfl
set_option maxRecDepth 20000 in
theorem tw_423 : Cond.instanceMethod ⟨"java/lang/Exception","<init>","(Ljava/lang/String;)V"⟩ ∈ TT := tt_of 423 rfl rfl
set_option maxRecDepth 20000 in
theorem tw_424 : Cond.code ⟨"java/lang/Exception","<init>","(Ljava/lang/String;)V"⟩ prog_10_method_2_code 2 ((Option.none : Option ClassFile.FieldType)) ∈ TT := tt_of 424 rfl rfl
set_option maxRecDepth 20000 in
theorem tw_425 : Cond.methodLink "java/lang/Exception" 7 ⟨"java/lang/Throwable","<init>","(Ljava/lang/String;)V"⟩ ∈ TT := tt_of 425 rfl rfl
set_option maxRecDepth 20000 in
theorem tw_426 : Cond.instanceMethod ⟨"java/lang/Throwable","<init>","(Ljava/lang/String;)V"⟩ ∈ TT := tt_of 426 rfl rfl
set_option maxRecDepth 20000 in
theorem tw_429 : Cond.fieldLink "java/lang/Throwable" 31 "java/lang/Throwable" "detailMessage" "Ljava/lang/String;" ∈ TT := tt_of 429 rfl rfl
set_option maxRecDepth 20000 in
theorem tw_430 : Cond.fieldLink "java/lang/Throwable" 7 "java/lang/Throwable" "cause" "Ljava/lang/Throwable;" ∈ TT := tt_of 430 rfl rfl
set_option maxRecDepth 20000 in
theorem tw_431 : Cond.fieldLink "java/lang/Throwable" 17 "java/lang/Throwable" "stackTrace" "[Ljava/lang/StackTraceElement;" ∈ TT := tt_of 431 rfl rfl
set_option maxRecDepth 20000 in
theorem tw_432 : Cond.fieldLink "java/lang/Throwable" 24 "java/lang/Throwable" "suppressedExceptions" "Ljava/util/List;" ∈ TT := tt_of 432 rfl rfl
set_option maxRecDepth 20000 in
theorem tw_437 : Cond.lays "java/lang/IllegalStateException" "java/lang/Throwable" "depth" "I" ∈ TT := tt_of 437 rfl rfl
set_option maxRecDepth 20000 in
theorem tw_441 : Cond.arrayClass .byte ∈ TT := tt_of 441 rfl rfl
set_option maxRecDepth 20000 in
theorem tw_442 : Cond.methodLink "Tollweave" 65 yX4_addGate ∈ TT := tt_of 442 rfl rfl
set_option maxRecDepth 20000 in
theorem tw_443 : Cond.instanceMethod yX4_addGate ∈ TT := tt_of 443 rfl rfl
set_option maxRecDepth 20000 in
theorem tw_444 : Cond.selects "Tollweave$Roads" yX4_addGate yX4_addGate ∈ TT := tt_of 444 rfl rfl
set_option maxRecDepth 20000 in
theorem tw_445 : Cond.code yX4_addGate cX4_addGate 2 ((Option.some .int)) ∈ TT := tt_of 445 rfl rfl
set_option maxRecDepth 20000 in
theorem tw_446 : Cond.methodLink "TollweaveLaw" 98 yL_road ∈ TT := tt_of 446 rfl rfl
set_option maxRecDepth 20000 in
theorem tw_447 : Cond.static yL_road ∈ TT := tt_of 447 rfl rfl
set_option maxRecDepth 20000 in
theorem tw_448 : Cond.codeWith yL_road cL_road 7 ((Option.some .int)) [((0 : Nat), (14 : Nat), (17 : Nat), (19 : Nat)), ((0 : Nat), (14 : Nat), (21 : Nat), (21 : Nat)), ((0 : Nat), (14 : Nat), (25 : Nat), (13 : Nat))] ∈ TT := tt_of 448 rfl rfl
set_option maxRecDepth 20000 in
theorem tw_449 : Cond.classLink "TollweaveLaw" 19 "java/lang/IndexOutOfBoundsException" ∈ TT := tt_of 449 rfl rfl
set_option maxRecDepth 20000 in
theorem tw_450 : Cond.classLink "TollweaveLaw" 21 "java/lang/IllegalArgumentException" ∈ TT := tt_of 450 rfl rfl
set_option maxRecDepth 20000 in
theorem tw_451 : Cond.methodLink "TollweaveLaw" 15 yX6_road ∈ TT := tt_of 451 rfl rfl
set_option maxRecDepth 20000 in
theorem tw_452 : Cond.instanceMethod yX6_road ∈ TT := tt_of 452 rfl rfl
set_option maxRecDepth 20000 in
theorem tw_453 : Cond.selects "Tollweave" yX6_road yX6_road ∈ TT := tt_of 453 rfl rfl
set_option maxRecDepth 20000 in
theorem tw_454 : Cond.code yX6_road cX6_road 5 ((Option.some .int)) ∈ TT := tt_of 454 rfl rfl
set_option maxRecDepth 20000 in
theorem tw_455 : Cond.methodLink "Tollweave" 69 yX6_requireGate ∈ TT := tt_of 455 rfl rfl
set_option maxRecDepth 20000 in
theorem tw_457 : Cond.instanceMethod yX6_requireGate ∈ TT := tt_of 457 rfl rfl
set_option maxRecDepth 20000 in
theorem tw_458 : Cond.code yX6_requireGate cX6_requireGate 2 ((Option.none : Option ClassFile.FieldType)) ∈ TT := tt_of 458 rfl rfl
set_option maxRecDepth 20000 in
theorem tw_459 : Cond.classLink "Tollweave" 175 "java/lang/IndexOutOfBoundsException" ∈ TT := tt_of 459 rfl rfl
set_option maxRecDepth 20000 in
theorem tw_460 : Cond.instantiable "java/lang/IndexOutOfBoundsException" 6 ∈ TT := tt_of 460 rfl rfl
set_option maxRecDepth 20000 in
theorem tw_462 : Cond.selects "java/lang/IndexOutOfBoundsException" ⟨"java/lang/Throwable","fillInStackTrace","(I)Ljava/lang/Throwable;"⟩ ⟨"java/lang/Throwable","fillInStackTrace","(I)Ljava/lang/Throwable;"⟩ ∈ TT := tt_of 462 rfl rfl
set_option maxRecDepth 20000 in
theorem tw_463 : Cond.lays "java/lang/IndexOutOfBoundsException" "java/lang/Throwable" "cause" "Ljava/lang/Throwable;" ∈ TT := tt_of 463 rfl rfl
set_option maxRecDepth 20000 in
theorem tw_464 : Cond.lays "java/lang/IndexOutOfBoundsException" "java/lang/Throwable" "stackTrace" "[Ljava/lang/StackTraceElement;" ∈ TT := tt_of 464 rfl rfl
set_option maxRecDepth 20000 in
theorem tw_465 : Cond.lays "java/lang/IndexOutOfBoundsException" "java/lang/Throwable" "suppressedExceptions" "Ljava/util/List;" ∈ TT := tt_of 465 rfl rfl
set_option maxRecDepth 20000 in
theorem tw_466 : Cond.lays "java/lang/IndexOutOfBoundsException" "java/lang/Throwable" "detailMessage" "Ljava/lang/String;" ∈ TT := tt_of 466 rfl rfl
set_option maxRecDepth 20000 in
theorem tw_467 : Cond.lays "java/lang/IndexOutOfBoundsException" "java/lang/Throwable" "backtrace" "Ljava/lang/Object;" ∈ TT := tt_of 467 rfl rfl
set_option maxRecDepth 20000 in
theorem tw_469 : Cond.methodLink "Tollweave" 179 ⟨"java/lang/IndexOutOfBoundsException","<init>","(Ljava/lang/String;)V"⟩ ∈ TT := tt_of 469 rfl rfl
set_option maxRecDepth 20000 in
theorem tw_470 : Cond.instanceMethod ⟨"java/lang/IndexOutOfBoundsException","<init>","(Ljava/lang/String;)V"⟩ ∈ TT := tt_of 470 rfl rfl
set_option maxRecDepth 20000 in
theorem tw_471 : Cond.code ⟨"java/lang/IndexOutOfBoundsException","<init>","(Ljava/lang/String;)V"⟩ prog_13_method_2_code 2 ((Option.none : Option ClassFile.FieldType)) ∈ TT := tt_of 471 rfl rfl
set_option maxRecDepth 20000 in
theorem tw_472 : Cond.methodLink "java/lang/IndexOutOfBoundsException" 7 ⟨"java/lang/RuntimeException","<init>","(Ljava/lang/String;)V"⟩ ∈ TT := tt_of 472 rfl rfl
set_option maxRecDepth 20000 in
theorem tw_473 : Cond.lays "java/lang/IndexOutOfBoundsException" "java/lang/Throwable" "depth" "I" ∈ TT := tt_of 473 rfl rfl
set_option maxRecDepth 20000 in
theorem tw_475 : Cond.methodLink "Tollweave" 73 yX6_requireRange ∈ TT := tt_of 475 rfl rfl
set_option maxRecDepth 20000 in
theorem tw_476 : Cond.static yX6_requireRange ∈ TT := tt_of 476 rfl rfl
set_option maxRecDepth 20000 in
theorem tw_477 : Cond.code yX6_requireRange cX6_requireRange 3 ((Option.none : Option ClassFile.FieldType)) ∈ TT := tt_of 477 rfl rfl
set_option maxRecDepth 20000 in
theorem tw_478 : Cond.classLink "Tollweave" 77 "java/lang/IllegalArgumentException" ∈ TT := tt_of 478 rfl rfl
set_option maxRecDepth 20000 in
theorem tw_479 : Cond.instantiable "java/lang/IllegalArgumentException" 6 ∈ TT := tt_of 479 rfl rfl
set_option maxRecDepth 20000 in
theorem tw_481 : Cond.selects "java/lang/IllegalArgumentException" ⟨"java/lang/Throwable","fillInStackTrace","(I)Ljava/lang/Throwable;"⟩ ⟨"java/lang/Throwable","fillInStackTrace","(I)Ljava/lang/Throwable;"⟩ ∈ TT := tt_of 481 rfl rfl
set_option maxRecDepth 20000 in
theorem tw_482 : Cond.lays "java/lang/IllegalArgumentException" "java/lang/Throwable" "cause" "Ljava/lang/Throwable;" ∈ TT := tt_of 482 rfl rfl
set_option maxRecDepth 20000 in
theorem tw_483 : Cond.lays "java/lang/IllegalArgumentException" "java/lang/Throwable" "stackTrace" "[Ljava/lang/StackTraceElement;" ∈ TT := tt_of 483 rfl rfl
set_option maxRecDepth 20000 in
theorem tw_484 : Cond.lays "java/lang/IllegalArgumentException" "java/lang/Throwable" "suppressedExceptions" "Ljava/util/List;" ∈ TT := tt_of 484 rfl rfl
set_option maxRecDepth 20000 in
theorem tw_485 : Cond.lays "java/lang/IllegalArgumentException" "java/lang/Throwable" "detailMessage" "Ljava/lang/String;" ∈ TT := tt_of 485 rfl rfl
set_option maxRecDepth 20000 in
theorem tw_486 : Cond.lays "java/lang/IllegalArgumentException" "java/lang/Throwable" "backtrace" "Ljava/lang/Object;" ∈ TT := tt_of 486 rfl rfl
set_option maxRecDepth 20000 in
theorem tw_488 : Cond.methodLink "Tollweave" 81 ⟨"java/lang/IllegalArgumentException","<init>","(Ljava/lang/String;)V"⟩ ∈ TT := tt_of 488 rfl rfl
set_option maxRecDepth 20000 in
theorem tw_489 : Cond.instanceMethod ⟨"java/lang/IllegalArgumentException","<init>","(Ljava/lang/String;)V"⟩ ∈ TT := tt_of 489 rfl rfl
set_option maxRecDepth 20000 in
theorem tw_490 : Cond.code ⟨"java/lang/IllegalArgumentException","<init>","(Ljava/lang/String;)V"⟩ prog_11_method_2_code 2 ((Option.none : Option ClassFile.FieldType)) ∈ TT := tt_of 490 rfl rfl
set_option maxRecDepth 20000 in
theorem tw_491 : Cond.methodLink "java/lang/IllegalArgumentException" 7 ⟨"java/lang/RuntimeException","<init>","(Ljava/lang/String;)V"⟩ ∈ TT := tt_of 491 rfl rfl
set_option maxRecDepth 20000 in
theorem tw_492 : Cond.lays "java/lang/IllegalArgumentException" "java/lang/Throwable" "depth" "I" ∈ TT := tt_of 492 rfl rfl
set_option maxRecDepth 20000 in
theorem tw_496 : Cond.methodLink "Tollweave" 87 yX4_addRoad ∈ TT := tt_of 496 rfl rfl
set_option maxRecDepth 20000 in
theorem tw_497 : Cond.instanceMethod yX4_addRoad ∈ TT := tt_of 497 rfl rfl
set_option maxRecDepth 20000 in
theorem tw_498 : Cond.selects "Tollweave$Roads" yX4_addRoad yX4_addRoad ∈ TT := tt_of 498 rfl rfl
set_option maxRecDepth 20000 in
theorem tw_499 : Cond.code yX4_addRoad cX4_addRoad 6 ((Option.some .int)) ∈ TT := tt_of 499 rfl rfl
set_option maxRecDepth 20000 in
theorem tw_500 : Cond.methodLink "Tollweave$Roads" 37 yX4_shortenDistances ∈ TT := tt_of 500 rfl rfl
set_option maxRecDepth 20000 in
theorem tw_502 : Cond.instanceMethod yX4_shortenDistances ∈ TT := tt_of 502 rfl rfl
set_option maxRecDepth 20000 in
theorem tw_503 : Cond.code yX4_shortenDistances cX4_shortenDistances 9 ((Option.none : Option ClassFile.FieldType)) ∈ TT := tt_of 503 rfl rfl
set_option maxRecDepth 20000 in
theorem tw_504 : Cond.methodLink "Tollweave$Roads" 41 yJ9_min_7cf53 ∈ TT := tt_of 504 rfl rfl
set_option maxRecDepth 20000 in
theorem tw_505 : Cond.methodLink "TollweaveLaw" 102 yL_rate ∈ TT := tt_of 505 rfl rfl
set_option maxRecDepth 20000 in
theorem tw_506 : Cond.static yL_rate ∈ TT := tt_of 506 rfl rfl
set_option maxRecDepth 20000 in
theorem tw_507 : Cond.codeWith yL_rate cL_rate 5 ((Option.some .int)) [((0 : Nat), (7 : Nat), (10 : Nat), (21 : Nat))] ∈ TT := tt_of 507 rfl rfl
set_option maxRecDepth 20000 in
theorem tw_508 : Cond.methodLink "TollweaveLaw" 23 yX6_rate ∈ TT := tt_of 508 rfl rfl
set_option maxRecDepth 20000 in
theorem tw_509 : Cond.instanceMethod yX6_rate ∈ TT := tt_of 509 rfl rfl
set_option maxRecDepth 20000 in
theorem tw_510 : Cond.selects "Tollweave" yX6_rate yX6_rate ∈ TT := tt_of 510 rfl rfl
set_option maxRecDepth 20000 in
theorem tw_511 : Cond.code yX6_rate cX6_rate 4 ((Option.none : Option ClassFile.FieldType)) ∈ TT := tt_of 511 rfl rfl
set_option maxRecDepth 20000 in
theorem tw_512 : Cond.methodLink "TollweaveLaw" 106 yL_most ∈ TT := tt_of 512 rfl rfl
set_option maxRecDepth 20000 in
theorem tw_513 : Cond.static yL_most ∈ TT := tt_of 513 rfl rfl
set_option maxRecDepth 20000 in
theorem tw_514 : Cond.codeWith yL_most cL_most 4 ((Option.some .int)) [((0 : Nat), (9 : Nat), (12 : Nat), (21 : Nat))] ∈ TT := tt_of 514 rfl rfl
set_option maxRecDepth 20000 in
theorem tw_515 : Cond.methodLink "TollweaveLaw" 27 yX6_most ∈ TT := tt_of 515 rfl rfl
set_option maxRecDepth 20000 in
theorem tw_516 : Cond.instanceMethod yX6_most ∈ TT := tt_of 516 rfl rfl
set_option maxRecDepth 20000 in
theorem tw_517 : Cond.selects "Tollweave" yX6_most yX6_most ∈ TT := tt_of 517 rfl rfl
set_option maxRecDepth 20000 in
theorem tw_518 : Cond.code yX6_most cX6_most 3 ((Option.some .int)) ∈ TT := tt_of 518 rfl rfl
set_option maxRecDepth 20000 in
theorem tw_519 : Cond.constant "Tollweave" 98 100000 ∈ TT := tt_of 519 rfl rfl
set_option maxRecDepth 20000 in
theorem tw_520 : Cond.methodLink "TollweaveLaw" 110 yL_plate ∈ TT := tt_of 520 rfl rfl
set_option maxRecDepth 20000 in
theorem tw_521 : Cond.static yL_plate ∈ TT := tt_of 521 rfl rfl
set_option maxRecDepth 20000 in
theorem tw_522 : Cond.codeWith yL_plate cL_plate 5 ((Option.some .int)) [((0 : Nat), (7 : Nat), (10 : Nat), (19 : Nat)), ((0 : Nat), (7 : Nat), (14 : Nat), (21 : Nat))] ∈ TT := tt_of 522 rfl rfl
set_option maxRecDepth 20000 in
theorem tw_523 : Cond.methodLink "TollweaveLaw" 31 yX6_plate ∈ TT := tt_of 523 rfl rfl
set_option maxRecDepth 20000 in
theorem tw_524 : Cond.instanceMethod yX6_plate ∈ TT := tt_of 524 rfl rfl
set_option maxRecDepth 20000 in
theorem tw_525 : Cond.selects "Tollweave" yX6_plate yX6_plate ∈ TT := tt_of 525 rfl rfl
set_option maxRecDepth 20000 in
theorem tw_526 : Cond.code yX6_plate cX6_plate 4 ((Option.none : Option ClassFile.FieldType)) ∈ TT := tt_of 526 rfl rfl
set_option maxRecDepth 20000 in
theorem tw_527 : Cond.methodLink "Tollweave" 102 yX6_requirePlate ∈ TT := tt_of 527 rfl rfl
set_option maxRecDepth 20000 in
theorem tw_528 : Cond.static yX6_requirePlate ∈ TT := tt_of 528 rfl rfl
set_option maxRecDepth 20000 in
theorem tw_529 : Cond.code yX6_requirePlate cX6_requirePlate 1 ((Option.none : Option ClassFile.FieldType)) ∈ TT := tt_of 529 rfl rfl
set_option maxRecDepth 20000 in
theorem tw_531 : Cond.methodLink "TollweaveLaw" 113 yL_top ∈ TT := tt_of 531 rfl rfl
set_option maxRecDepth 20000 in
theorem tw_532 : Cond.static yL_top ∈ TT := tt_of 532 rfl rfl
set_option maxRecDepth 20000 in
theorem tw_533 : Cond.codeWith yL_top cL_top 5 ((Option.some .int)) [((0 : Nat), (9 : Nat), (12 : Nat), (19 : Nat)), ((0 : Nat), (9 : Nat), (16 : Nat), (21 : Nat))] ∈ TT := tt_of 533 rfl rfl
set_option maxRecDepth 20000 in
theorem tw_534 : Cond.methodLink "TollweaveLaw" 34 yX6_top ∈ TT := tt_of 534 rfl rfl
set_option maxRecDepth 20000 in
theorem tw_535 : Cond.instanceMethod yX6_top ∈ TT := tt_of 535 rfl rfl
set_option maxRecDepth 20000 in
theorem tw_536 : Cond.selects "Tollweave" yX6_top yX6_top ∈ TT := tt_of 536 rfl rfl
set_option maxRecDepth 20000 in
theorem tw_537 : Cond.code yX6_top cX6_top 3 ((Option.some .long)) ∈ TT := tt_of 537 rfl rfl
set_option maxRecDepth 20000 in
theorem tw_538 : Cond.methodLink "Tollweave" 111 yX6_requireHolder ∈ TT := tt_of 538 rfl rfl
set_option maxRecDepth 20000 in
theorem tw_539 : Cond.static yX6_requireHolder ∈ TT := tt_of 539 rfl rfl
set_option maxRecDepth 20000 in
theorem tw_540 : Cond.code yX6_requireHolder cX6_requireHolder 1 ((Option.none : Option ClassFile.FieldType)) ∈ TT := tt_of 540 rfl rfl
set_option maxRecDepth 20000 in
theorem tw_542 : Cond.methodLink "TollweaveLaw" 117 yL_exempt ∈ TT := tt_of 542 rfl rfl
set_option maxRecDepth 20000 in
theorem tw_543 : Cond.static yL_exempt ∈ TT := tt_of 543 rfl rfl
set_option maxRecDepth 20000 in
theorem tw_544 : Cond.codeWith yL_exempt cL_exempt 6 ((Option.some .int)) [((0 : Nat), (12 : Nat), (15 : Nat), (19 : Nat)), ((0 : Nat), (12 : Nat), (19 : Nat), (21 : Nat)), ((0 : Nat), (12 : Nat), (23 : Nat), (13 : Nat))] ∈ TT := tt_of 544 rfl rfl
set_option maxRecDepth 20000 in
theorem tw_545 : Cond.methodLink "TollweaveLaw" 38 yX6_exempt ∈ TT := tt_of 545 rfl rfl
set_option maxRecDepth 20000 in
theorem tw_546 : Cond.instanceMethod yX6_exempt ∈ TT := tt_of 546 rfl rfl
set_option maxRecDepth 20000 in
theorem tw_547 : Cond.selects "Tollweave" yX6_exempt yX6_exempt ∈ TT := tt_of 547 rfl rfl
set_option maxRecDepth 20000 in
theorem tw_548 : Cond.code yX6_exempt cX6_exempt 4 ((Option.some .int)) ∈ TT := tt_of 548 rfl rfl
set_option maxRecDepth 20000 in
theorem tw_550 : Cond.methodLink "Tollweave" 123 yX2_addSpan ∈ TT := tt_of 550 rfl rfl
set_option maxRecDepth 20000 in
theorem tw_551 : Cond.instanceMethod yX2_addSpan ∈ TT := tt_of 551 rfl rfl
set_option maxRecDepth 20000 in
theorem tw_552 : Cond.selects "Tollweave$Plates" yX2_addSpan yX2_addSpan ∈ TT := tt_of 552 rfl rfl
set_option maxRecDepth 20000 in
theorem tw_553 : Cond.code yX2_addSpan cX2_addSpan 4 ((Option.some .int)) ∈ TT := tt_of 553 rfl rfl
set_option maxRecDepth 20000 in
theorem tw_554 : Cond.methodLink "TollweaveLaw" 121 yL_read ∈ TT := tt_of 554 rfl rfl
set_option maxRecDepth 20000 in
theorem tw_555 : Cond.static yL_read ∈ TT := tt_of 555 rfl rfl
set_option maxRecDepth 20000 in
theorem tw_556 : Cond.codeWith yL_read cL_read 6 ((Option.some .int)) [((0 : Nat), (12 : Nat), (15 : Nat), (19 : Nat)), ((0 : Nat), (12 : Nat), (19 : Nat), (21 : Nat)), ((0 : Nat), (12 : Nat), (23 : Nat), (13 : Nat))] ∈ TT := tt_of 556 rfl rfl
set_option maxRecDepth 20000 in
theorem tw_557 : Cond.methodLink "TollweaveLaw" 42 yX6_read ∈ TT := tt_of 557 rfl rfl
set_option maxRecDepth 20000 in
theorem tw_558 : Cond.instanceMethod yX6_read ∈ TT := tt_of 558 rfl rfl
set_option maxRecDepth 20000 in
theorem tw_559 : Cond.selects "Tollweave" yX6_read yX6_read ∈ TT := tt_of 559 rfl rfl
set_option maxRecDepth 20000 in
theorem tw_560 : Cond.code yX6_read cX6_read 4 ((Option.some .int)) ∈ TT := tt_of 560 rfl rfl
set_option maxRecDepth 20000 in
theorem tw_562 : Cond.methodLink "Tollweave" 132 yX3_add ∈ TT := tt_of 562 rfl rfl
set_option maxRecDepth 20000 in
theorem tw_563 : Cond.instanceMethod yX3_add ∈ TT := tt_of 563 rfl rfl
set_option maxRecDepth 20000 in
theorem tw_564 : Cond.selects "Tollweave$Readings" yX3_add yX3_add ∈ TT := tt_of 564 rfl rfl
set_option maxRecDepth 20000 in
theorem tw_565 : Cond.code yX3_add cX3_add 6 ((Option.some .int)) ∈ TT := tt_of 565 rfl rfl
set_option maxRecDepth 20000 in
theorem tw_566 : Cond.methodLink "TollweaveLaw" 124 yL_strike ∈ TT := tt_of 566 rfl rfl
set_option maxRecDepth 20000 in
theorem tw_567 : Cond.static yL_strike ∈ TT := tt_of 567 rfl rfl
set_option maxRecDepth 20000 in
theorem tw_568 : Cond.codeWith yL_strike cL_strike 3 ((Option.some .int)) [((0 : Nat), (5 : Nat), (8 : Nat), (19 : Nat)), ((0 : Nat), (5 : Nat), (11 : Nat), (13 : Nat))] ∈ TT := tt_of 568 rfl rfl
set_option maxRecDepth 20000 in
theorem tw_569 : Cond.methodLink "TollweaveLaw" 45 yX6_strike ∈ TT := tt_of 569 rfl rfl
set_option maxRecDepth 20000 in
theorem tw_570 : Cond.instanceMethod yX6_strike ∈ TT := tt_of 570 rfl rfl
set_option maxRecDepth 20000 in
theorem tw_571 : Cond.selects "Tollweave" yX6_strike yX6_strike ∈ TT := tt_of 571 rfl rfl
set_option maxRecDepth 20000 in
theorem tw_572 : Cond.code yX6_strike cX6_strike 2 ((Option.none : Option ClassFile.FieldType)) ∈ TT := tt_of 572 rfl rfl
set_option maxRecDepth 20000 in
theorem tw_573 : Cond.methodLink "Tollweave" 135 yX6_requireReading ∈ TT := tt_of 573 rfl rfl
set_option maxRecDepth 20000 in
theorem tw_575 : Cond.instanceMethod yX6_requireReading ∈ TT := tt_of 575 rfl rfl
set_option maxRecDepth 20000 in
theorem tw_576 : Cond.code yX6_requireReading cX6_requireReading 2 ((Option.none : Option ClassFile.FieldType)) ∈ TT := tt_of 576 rfl rfl
set_option maxRecDepth 20000 in
theorem tw_579 : Cond.methodLink "TollweaveLaw" 128 yL_pass ∈ TT := tt_of 579 rfl rfl
set_option maxRecDepth 20000 in
theorem tw_580 : Cond.static yL_pass ∈ TT := tt_of 580 rfl rfl
set_option maxRecDepth 20000 in
theorem tw_581 : Cond.codeWith yL_pass cL_pass 4 ((Option.some .int)) [((0 : Nat), (9 : Nat), (12 : Nat), (21 : Nat)), ((0 : Nat), (9 : Nat), (15 : Nat), (13 : Nat))] ∈ TT := tt_of 581 rfl rfl
set_option maxRecDepth 20000 in
theorem tw_582 : Cond.methodLink "TollweaveLaw" 49 yX6_pass ∈ TT := tt_of 582 rfl rfl
set_option maxRecDepth 20000 in
theorem tw_583 : Cond.instanceMethod yX6_pass ∈ TT := tt_of 583 rfl rfl
set_option maxRecDepth 20000 in
theorem tw_584 : Cond.selects "Tollweave" yX6_pass yX6_pass ∈ TT := tt_of 584 rfl rfl
set_option maxRecDepth 20000 in
theorem tw_585 : Cond.code yX6_pass cX6_pass 2 ((Option.some .int)) ∈ TT := tt_of 585 rfl rfl
set_option maxRecDepth 20000 in
theorem tw_587 : Cond.methodLink "TollweaveLaw" 136 yL_distance ∈ TT := tt_of 587 rfl rfl
set_option maxRecDepth 20000 in
theorem tw_588 : Cond.static yL_distance ∈ TT := tt_of 588 rfl rfl
set_option maxRecDepth 20000 in
theorem tw_589 : Cond.codeWith yL_distance cL_distance 5 ((Option.some .int)) [((0 : Nat), (10 : Nat), (13 : Nat), (19 : Nat))] ∈ TT := tt_of 589 rfl rfl
set_option maxRecDepth 20000 in
theorem tw_590 : Cond.methodLink "TollweaveLaw" 52 yX6_distance ∈ TT := tt_of 590 rfl rfl
set_option maxRecDepth 20000 in
theorem tw_591 : Cond.instanceMethod yX6_distance ∈ TT := tt_of 591 rfl rfl
set_option maxRecDepth 20000 in
theorem tw_592 : Cond.selects "Tollweave" yX6_distance yX6_distance ∈ TT := tt_of 592 rfl rfl
set_option maxRecDepth 20000 in
theorem tw_593 : Cond.code yX6_distance cX6_distance 3 ((Option.some .int)) ∈ TT := tt_of 593 rfl rfl
set_option maxRecDepth 20000 in
theorem tw_594 : Cond.methodLink "TollweaveLaw" 139 yL_way ∈ TT := tt_of 594 rfl rfl
set_option maxRecDepth 20000 in
theorem tw_595 : Cond.static yL_way ∈ TT := tt_of 595 rfl rfl
set_option maxRecDepth 20000 in
theorem tw_596 : Cond.codeWith yL_way cL_way 6 ((Option.some .int)) [((0 : Nat), (12 : Nat), (15 : Nat), (19 : Nat))] ∈ TT := tt_of 596 rfl rfl
set_option maxRecDepth 20000 in
theorem tw_597 : Cond.methodLink "TollweaveLaw" 56 yX6_way ∈ TT := tt_of 597 rfl rfl
set_option maxRecDepth 20000 in
theorem tw_598 : Cond.instanceMethod yX6_way ∈ TT := tt_of 598 rfl rfl
set_option maxRecDepth 20000 in
theorem tw_599 : Cond.selects "Tollweave" yX6_way yX6_way ∈ TT := tt_of 599 rfl rfl
set_option maxRecDepth 20000 in
theorem tw_600 : Cond.code yX6_way cX6_way 4 ((Option.some .int)) ∈ TT := tt_of 600 rfl rfl
set_option maxRecDepth 20000 in
theorem tw_602 : Cond.methodLink "Tollweave" 180 yX4_roadOfWay ∈ TT := tt_of 602 rfl rfl
set_option maxRecDepth 20000 in
theorem tw_603 : Cond.instanceMethod yX4_roadOfWay ∈ TT := tt_of 603 rfl rfl
set_option maxRecDepth 20000 in
theorem tw_604 : Cond.selects "Tollweave$Roads" yX4_roadOfWay yX4_roadOfWay ∈ TT := tt_of 604 rfl rfl
set_option maxRecDepth 20000 in
theorem tw_605 : Cond.code yX4_roadOfWay cX4_roadOfWay 7 ((Option.some .int)) ∈ TT := tt_of 605 rfl rfl
set_option maxRecDepth 20000 in
theorem tw_606 : Cond.methodLink "Tollweave$Roads" 47 yX4_roadTowards ∈ TT := tt_of 606 rfl rfl
set_option maxRecDepth 20000 in
theorem tw_607 : Cond.methodLink "TollweaveLaw" 142 yL_journeys ∈ TT := tt_of 607 rfl rfl
set_option maxRecDepth 20000 in
theorem tw_608 : Cond.static yL_journeys ∈ TT := tt_of 608 rfl rfl
set_option maxRecDepth 20000 in
theorem tw_609 : Cond.codeWith yL_journeys cL_journeys 4 ((Option.some .int)) [((0 : Nat), (9 : Nat), (12 : Nat), (19 : Nat))] ∈ TT := tt_of 609 rfl rfl
set_option maxRecDepth 20000 in
theorem tw_610 : Cond.methodLink "TollweaveLaw" 59 yX6_journeys ∈ TT := tt_of 610 rfl rfl
set_option maxRecDepth 20000 in
theorem tw_611 : Cond.instanceMethod yX6_journeys ∈ TT := tt_of 611 rfl rfl
set_option maxRecDepth 20000 in
theorem tw_612 : Cond.selects "Tollweave" yX6_journeys yX6_journeys ∈ TT := tt_of 612 rfl rfl
set_option maxRecDepth 20000 in
theorem tw_613 : Cond.code yX6_journeys cX6_journeys 2 ((Option.some .int)) ∈ TT := tt_of 613 rfl rfl
set_option maxRecDepth 20000 in
theorem tw_614 : Cond.methodLink "TollweaveLaw" 145 yL_journey ∈ TT := tt_of 614 rfl rfl
set_option maxRecDepth 20000 in
theorem tw_615 : Cond.static yL_journey ∈ TT := tt_of 615 rfl rfl
set_option maxRecDepth 20000 in
theorem tw_616 : Cond.codeWith yL_journey cL_journey 6 ((Option.some .int)) [((0 : Nat), (12 : Nat), (15 : Nat), (19 : Nat)), ((0 : Nat), (12 : Nat), (19 : Nat), (21 : Nat))] ∈ TT := tt_of 616 rfl rfl
set_option maxRecDepth 20000 in
theorem tw_617 : Cond.methodLink "TollweaveLaw" 62 yX6_journey ∈ TT := tt_of 617 rfl rfl
set_option maxRecDepth 20000 in
theorem tw_618 : Cond.instanceMethod yX6_journey ∈ TT := tt_of 618 rfl rfl
set_option maxRecDepth 20000 in
theorem tw_619 : Cond.selects "Tollweave" yX6_journey yX6_journey ∈ TT := tt_of 619 rfl rfl
set_option maxRecDepth 20000 in
theorem tw_620 : Cond.code yX6_journey cX6_journey 4 ((Option.some .int)) ∈ TT := tt_of 620 rfl rfl
set_option maxRecDepth 20000 in
theorem tw_622 : Cond.methodLink "Tollweave" 195 yX1_fareOf ∈ TT := tt_of 622 rfl rfl
set_option maxRecDepth 20000 in
theorem tw_623 : Cond.methodLink "Tollweave" 199 yX1_isOver ∈ TT := tt_of 623 rfl rfl
set_option maxRecDepth 20000 in
theorem tw_624 : Cond.methodLink "Tollweave" 202 yX1_shareOf ∈ TT := tt_of 624 rfl rfl
set_option maxRecDepth 20000 in
theorem tw_625 : Cond.methodLink "TollweaveLaw" 148 yL_ofReading ∈ TT := tt_of 625 rfl rfl
set_option maxRecDepth 20000 in
theorem tw_626 : Cond.static yL_ofReading ∈ TT := tt_of 626 rfl rfl
set_option maxRecDepth 20000 in
theorem tw_627 : Cond.codeWith yL_ofReading cL_ofReading 5 ((Option.some .int)) [((0 : Nat), (10 : Nat), (13 : Nat), (19 : Nat)), ((0 : Nat), (10 : Nat), (17 : Nat), (21 : Nat))] ∈ TT := tt_of 627 rfl rfl
set_option maxRecDepth 20000 in
theorem tw_628 : Cond.methodLink "TollweaveLaw" 65 yX6_ofReading ∈ TT := tt_of 628 rfl rfl
set_option maxRecDepth 20000 in
theorem tw_629 : Cond.instanceMethod yX6_ofReading ∈ TT := tt_of 629 rfl rfl
set_option maxRecDepth 20000 in
theorem tw_630 : Cond.selects "Tollweave" yX6_ofReading yX6_ofReading ∈ TT := tt_of 630 rfl rfl
set_option maxRecDepth 20000 in
theorem tw_631 : Cond.code yX6_ofReading cX6_ofReading 3 ((Option.some .int)) ∈ TT := tt_of 631 rfl rfl
set_option maxRecDepth 20000 in
theorem tw_632 : Cond.methodLink "Tollweave" 214 yX6_isDoubleNow ∈ TT := tt_of 632 rfl rfl
set_option maxRecDepth 20000 in
theorem tw_634 : Cond.instanceMethod yX6_isDoubleNow ∈ TT := tt_of 634 rfl rfl
set_option maxRecDepth 20000 in
theorem tw_635 : Cond.code yX6_isDoubleNow cX6_isDoubleNow 2 ((Option.some .boolean)) ∈ TT := tt_of 635 rfl rfl
set_option maxRecDepth 20000 in
theorem tw_636 : Cond.methodLink "Tollweave" 218 yX6_journeyNow ∈ TT := tt_of 636 rfl rfl
set_option maxRecDepth 20000 in
theorem tw_638 : Cond.instanceMethod yX6_journeyNow ∈ TT := tt_of 638 rfl rfl
set_option maxRecDepth 20000 in
theorem tw_639 : Cond.code yX6_journeyNow cX6_journeyNow 2 ((Option.some .int)) ∈ TT := tt_of 639 rfl rfl
set_option maxRecDepth 20000 in
theorem tw_640 : Cond.methodLink "TollweaveLaw" 151 yL_due ∈ TT := tt_of 640 rfl rfl
set_option maxRecDepth 20000 in
theorem tw_641 : Cond.static yL_due ∈ TT := tt_of 641 rfl rfl
set_option maxRecDepth 20000 in
theorem tw_642 : Cond.codeWith yL_due cL_due 4 ((Option.some .int)) [((0 : Nat), (8 : Nat), (11 : Nat), (19 : Nat))] ∈ TT := tt_of 642 rfl rfl
set_option maxRecDepth 20000 in
theorem tw_643 : Cond.methodLink "TollweaveLaw" 68 yX6_due ∈ TT := tt_of 643 rfl rfl
set_option maxRecDepth 20000 in
theorem tw_644 : Cond.instanceMethod yX6_due ∈ TT := tt_of 644 rfl rfl
set_option maxRecDepth 20000 in
theorem tw_645 : Cond.selects "Tollweave" yX6_due yX6_due ∈ TT := tt_of 645 rfl rfl
set_option maxRecDepth 20000 in
theorem tw_646 : Cond.code yX6_due cX6_due 2 ((Option.some .long)) ∈ TT := tt_of 646 rfl rfl
set_option maxRecDepth 20000 in
theorem tw_647 : Cond.methodLink "TollweaveLaw" 154 yL_billed ∈ TT := tt_of 647 rfl rfl
set_option maxRecDepth 20000 in
theorem tw_648 : Cond.static yL_billed ∈ TT := tt_of 648 rfl rfl
set_option maxRecDepth 20000 in
theorem tw_649 : Cond.codeWith yL_billed cL_billed 4 ((Option.some .int)) [((0 : Nat), (8 : Nat), (11 : Nat), (19 : Nat))] ∈ TT := tt_of 649 rfl rfl
set_option maxRecDepth 20000 in
theorem tw_650 : Cond.methodLink "TollweaveLaw" 72 yX6_billed ∈ TT := tt_of 650 rfl rfl
set_option maxRecDepth 20000 in
theorem tw_651 : Cond.instanceMethod yX6_billed ∈ TT := tt_of 651 rfl rfl
set_option maxRecDepth 20000 in
theorem tw_652 : Cond.selects "Tollweave" yX6_billed yX6_billed ∈ TT := tt_of 652 rfl rfl
set_option maxRecDepth 20000 in
theorem tw_653 : Cond.code yX6_billed cX6_billed 2 ((Option.some .long)) ∈ TT := tt_of 653 rfl rfl
set_option maxRecDepth 20000 in
theorem tw_654 : Cond.methodLink "TollweaveLaw" 157 yL_wallet ∈ TT := tt_of 654 rfl rfl
set_option maxRecDepth 20000 in
theorem tw_655 : Cond.static yL_wallet ∈ TT := tt_of 655 rfl rfl
set_option maxRecDepth 20000 in
theorem tw_656 : Cond.codeWith yL_wallet cL_wallet 4 ((Option.some .int)) [((0 : Nat), (8 : Nat), (11 : Nat), (19 : Nat))] ∈ TT := tt_of 656 rfl rfl
set_option maxRecDepth 20000 in
theorem tw_657 : Cond.methodLink "TollweaveLaw" 75 yX6_wallet ∈ TT := tt_of 657 rfl rfl
set_option maxRecDepth 20000 in
theorem tw_658 : Cond.instanceMethod yX6_wallet ∈ TT := tt_of 658 rfl rfl
set_option maxRecDepth 20000 in
theorem tw_659 : Cond.selects "Tollweave" yX6_wallet yX6_wallet ∈ TT := tt_of 659 rfl rfl
set_option maxRecDepth 20000 in
theorem tw_660 : Cond.code yX6_wallet cX6_wallet 2 ((Option.some .long)) ∈ TT := tt_of 660 rfl rfl
set_option maxRecDepth 20000 in
theorem tw_661 : Cond.methodLink "TollweaveLaw" 160 yL_own ∈ TT := tt_of 661 rfl rfl
set_option maxRecDepth 20000 in
theorem tw_662 : Cond.static yL_own ∈ TT := tt_of 662 rfl rfl
set_option maxRecDepth 20000 in
theorem tw_663 : Cond.codeWith yL_own cL_own 4 ((Option.some .int)) [((0 : Nat), (8 : Nat), (11 : Nat), (19 : Nat))] ∈ TT := tt_of 663 rfl rfl
set_option maxRecDepth 20000 in
theorem tw_664 : Cond.methodLink "TollweaveLaw" 78 yX6_own ∈ TT := tt_of 664 rfl rfl
set_option maxRecDepth 20000 in
theorem tw_665 : Cond.instanceMethod yX6_own ∈ TT := tt_of 665 rfl rfl
set_option maxRecDepth 20000 in
theorem tw_666 : Cond.selects "Tollweave" yX6_own yX6_own ∈ TT := tt_of 666 rfl rfl
set_option maxRecDepth 20000 in
theorem tw_667 : Cond.code yX6_own cX6_own 2 ((Option.some .long)) ∈ TT := tt_of 667 rfl rfl
set_option maxRecDepth 20000 in
theorem tw_668 : Cond.methodLink "TollweaveLaw" 163 yL_share ∈ TT := tt_of 668 rfl rfl
set_option maxRecDepth 20000 in
theorem tw_669 : Cond.static yL_share ∈ TT := tt_of 669 rfl rfl
set_option maxRecDepth 20000 in
theorem tw_670 : Cond.codeWith yL_share cL_share 5 ((Option.some .int)) [((0 : Nat), (9 : Nat), (12 : Nat), (19 : Nat))] ∈ TT := tt_of 670 rfl rfl
set_option maxRecDepth 20000 in
theorem tw_671 : Cond.methodLink "TollweaveLaw" 81 yX6_share ∈ TT := tt_of 671 rfl rfl
set_option maxRecDepth 20000 in
theorem tw_672 : Cond.instanceMethod yX6_share ∈ TT := tt_of 672 rfl rfl
set_option maxRecDepth 20000 in
theorem tw_673 : Cond.selects "Tollweave" yX6_share yX6_share ∈ TT := tt_of 673 rfl rfl
set_option maxRecDepth 20000 in
theorem tw_674 : Cond.code yX6_share cX6_share 3 ((Option.some .long)) ∈ TT := tt_of 674 rfl rfl
set_option maxRecDepth 20000 in
theorem tw_676 : Cond.methodLink "Tollweave" 230 yX6_dueToOwner ∈ TT := tt_of 676 rfl rfl
set_option maxRecDepth 20000 in
theorem tw_678 : Cond.instanceMethod yX6_dueToOwner ∈ TT := tt_of 678 rfl rfl
set_option maxRecDepth 20000 in
theorem tw_679 : Cond.code yX6_dueToOwner cX6_dueToOwner 5 ((Option.some .long)) ∈ TT := tt_of 679 rfl rfl
set_option maxRecDepth 20000 in
theorem tw_680 : Cond.classLink "TollweaveLaw" 86 "TollweaveModel" ∈ TT := tt_of 680 rfl rfl
set_option maxRecDepth 20000 in
theorem tw_681 : Cond.instantiable "TollweaveModel" 37 ∈ TT := tt_of 681 rfl rfl
set_option maxRecDepth 20000 in
theorem tw_682 : Cond.methodLink "TollweaveLaw" 88 yX7_init ∈ TT := tt_of 682 rfl rfl
set_option maxRecDepth 20000 in
theorem tw_683 : Cond.instanceMethod yX7_init ∈ TT := tt_of 683 rfl rfl
set_option maxRecDepth 20000 in
theorem tw_684 : Cond.code yX7_init cX7_init 2 ((Option.none : Option ClassFile.FieldType)) ∈ TT := tt_of 684 rfl rfl
set_option maxRecDepth 20000 in
theorem tw_685 : Cond.methodLink "TollweaveModel" 1 ⟨"java/lang/Object","<init>","()V"⟩ ∈ TT := tt_of 685 rfl rfl
set_option maxRecDepth 20000 in
theorem tw_686 : Cond.fieldLink "TollweaveModel" 103 "TollweaveModel" "thrown" "I" ∈ TT := tt_of 686 rfl rfl
set_option maxRecDepth 20000 in
theorem tw_687 : Cond.fieldLink "TollweaveModel" 141 "TollweaveModel" "now" "I" ∈ TT := tt_of 687 rfl rfl
set_option maxRecDepth 20000 in
theorem tw_688 : Cond.fieldLink "TollweaveModel" 106 "TollweaveModel" "gateMany" "I" ∈ TT := tt_of 688 rfl rfl
set_option maxRecDepth 20000 in
theorem tw_689 : Cond.fieldLink "TollweaveModel" 117 "TollweaveModel" "roadMany" "I" ∈ TT := tt_of 689 rfl rfl
set_option maxRecDepth 20000 in
theorem tw_690 : Cond.fieldLink "TollweaveModel" 7 "TollweaveModel" "ones" "[I" ∈ TT := tt_of 690 rfl rfl
set_option maxRecDepth 20000 in
theorem tw_691 : Cond.fieldLink "TollweaveModel" 13 "TollweaveModel" "others" "[I" ∈ TT := tt_of 691 rfl rfl
set_option maxRecDepth 20000 in
theorem tw_692 : Cond.fieldLink "TollweaveModel" 16 "TollweaveModel" "lengths" "[I" ∈ TT := tt_of 692 rfl rfl
set_option maxRecDepth 20000 in
theorem tw_693 : Cond.fieldLink "TollweaveModel" 19 "TollweaveModel" "owners" "[I" ∈ TT := tt_of 693 rfl rfl
set_option maxRecDepth 20000 in
theorem tw_694 : Cond.fieldLink "TollweaveModel" 22 "TollweaveModel" "far" "[I" ∈ TT := tt_of 694 rfl rfl
set_option maxRecDepth 20000 in
theorem tw_695 : Cond.fieldLink "TollweaveModel" 25 "TollweaveModel" "rates" "[I" ∈ TT := tt_of 695 rfl rfl
set_option maxRecDepth 20000 in
theorem tw_696 : Cond.fieldLink "TollweaveModel" 28 "TollweaveModel" "percents" "[I" ∈ TT := tt_of 696 rfl rfl
set_option maxRecDepth 20000 in
theorem tw_697 : Cond.fieldLink "TollweaveModel" 31 "TollweaveModel" "most" "I" ∈ TT := tt_of 697 rfl rfl
set_option maxRecDepth 20000 in
theorem tw_698 : Cond.fieldLink "TollweaveModel" 35 "TollweaveModel" "kinds" "[I" ∈ TT := tt_of 698 rfl rfl
set_option maxRecDepth 20000 in
theorem tw_699 : Cond.fieldLink "TollweaveModel" 38 "TollweaveModel" "holders" "[I" ∈ TT := tt_of 699 rfl rfl
set_option maxRecDepth 20000 in
theorem tw_700 : Cond.fieldLink "TollweaveModel" 41 "TollweaveModel" "billed" "[J" ∈ TT := tt_of 700 rfl rfl
set_option maxRecDepth 20000 in
theorem tw_701 : Cond.fieldLink "TollweaveModel" 45 "TollweaveModel" "own" "[J" ∈ TT := tt_of 701 rfl rfl
set_option maxRecDepth 20000 in
theorem tw_702 : Cond.fieldLink "TollweaveModel" 48 "TollweaveModel" "wallets" "[J" ∈ TT := tt_of 702 rfl rfl
set_option maxRecDepth 20000 in
theorem tw_703 : Cond.fieldLink "TollweaveModel" 51 "TollweaveModel" "got" "[J" ∈ TT := tt_of 703 rfl rfl
set_option maxRecDepth 20000 in
theorem tw_704 : Cond.fieldLink "TollweaveModel" 138 "TollweaveModel" "spanMany" "I" ∈ TT := tt_of 704 rfl rfl
set_option maxRecDepth 20000 in
theorem tw_705 : Cond.fieldLink "TollweaveModel" 54 "TollweaveModel" "spanPlate" "[I" ∈ TT := tt_of 705 rfl rfl
set_option maxRecDepth 20000 in
theorem tw_706 : Cond.fieldLink "TollweaveModel" 57 "TollweaveModel" "spanFrom" "[I" ∈ TT := tt_of 706 rfl rfl
set_option maxRecDepth 20000 in
theorem tw_707 : Cond.fieldLink "TollweaveModel" 60 "TollweaveModel" "spanTo" "[I" ∈ TT := tt_of 707 rfl rfl
set_option maxRecDepth 20000 in
theorem tw_708 : Cond.fieldLink "TollweaveModel" 113 "TollweaveModel" "readingMany" "I" ∈ TT := tt_of 708 rfl rfl
set_option maxRecDepth 20000 in
theorem tw_709 : Cond.fieldLink "TollweaveModel" 63 "TollweaveModel" "readGate" "[I" ∈ TT := tt_of 709 rfl rfl
set_option maxRecDepth 20000 in
theorem tw_710 : Cond.fieldLink "TollweaveModel" 66 "TollweaveModel" "readPlate" "[I" ∈ TT := tt_of 710 rfl rfl
set_option maxRecDepth 20000 in
theorem tw_711 : Cond.fieldLink "TollweaveModel" 69 "TollweaveModel" "readMinute" "[I" ∈ TT := tt_of 711 rfl rfl
set_option maxRecDepth 20000 in
theorem tw_712 : Cond.fieldLink "TollweaveModel" 72 "TollweaveModel" "isStruck" "[Z" ∈ TT := tt_of 712 rfl rfl
set_option maxRecDepth 20000 in
theorem tw_713 : Cond.fieldLink "TollweaveModel" 76 "TollweaveModel" "isDouble" "[Z" ∈ TT := tt_of 713 rfl rfl
set_option maxRecDepth 20000 in
theorem tw_714 : Cond.fieldLink "TollweaveModel" 79 "TollweaveModel" "journeyOf" "[I" ∈ TT := tt_of 714 rfl rfl
set_option maxRecDepth 20000 in
theorem tw_715 : Cond.fieldLink "TollweaveModel" 82 "TollweaveModel" "isDone" "[Z" ∈ TT := tt_of 715 rfl rfl
set_option maxRecDepth 20000 in
theorem tw_716 : Cond.fieldLink "TollweaveModel" 159 "TollweaveModel" "journeyMany" "I" ∈ TT := tt_of 716 rfl rfl
set_option maxRecDepth 20000 in
theorem tw_717 : Cond.fieldLink "TollweaveModel" 85 "TollweaveModel" "first" "[I" ∈ TT := tt_of 717 rfl rfl
set_option maxRecDepth 20000 in
theorem tw_718 : Cond.fieldLink "TollweaveModel" 88 "TollweaveModel" "last" "[I" ∈ TT := tt_of 718 rfl rfl
set_option maxRecDepth 20000 in
theorem tw_719 : Cond.fieldLink "TollweaveModel" 91 "TollweaveModel" "counts" "[I" ∈ TT := tt_of 719 rfl rfl
set_option maxRecDepth 20000 in
theorem tw_720 : Cond.fieldLink "TollweaveModel" 94 "TollweaveModel" "paid" "[J" ∈ TT := tt_of 720 rfl rfl
set_option maxRecDepth 20000 in
theorem tw_721 : Cond.fieldLink "TollweaveModel" 97 "TollweaveModel" "fares" "[J" ∈ TT := tt_of 721 rfl rfl
set_option maxRecDepth 20000 in
theorem tw_722 : Cond.fieldLink "TollweaveModel" 100 "TollweaveModel" "shares" "[J" ∈ TT := tt_of 722 rfl rfl
set_option maxRecDepth 20000 in
theorem tw_723 : Cond.lays "TollweaveModel" "TollweaveModel" "thrown" "I" ∈ TT := tt_of 723 rfl rfl
set_option maxRecDepth 20000 in
theorem tw_725 : Cond.lays "TollweaveModel" "TollweaveModel" "now" "I" ∈ TT := tt_of 725 rfl rfl
set_option maxRecDepth 20000 in
theorem tw_727 : Cond.lays "TollweaveModel" "TollweaveModel" "gateMany" "I" ∈ TT := tt_of 727 rfl rfl
set_option maxRecDepth 20000 in
theorem tw_729 : Cond.lays "TollweaveModel" "TollweaveModel" "roadMany" "I" ∈ TT := tt_of 729 rfl rfl
set_option maxRecDepth 20000 in
theorem tw_731 : Cond.laysFinal "TollweaveModel" "TollweaveModel" "ones" "[I" ∈ TT := tt_of 731 rfl rfl
set_option maxRecDepth 20000 in
theorem tw_733 : Cond.laysFinal "TollweaveModel" "TollweaveModel" "others" "[I" ∈ TT := tt_of 733 rfl rfl
set_option maxRecDepth 20000 in
theorem tw_735 : Cond.laysFinal "TollweaveModel" "TollweaveModel" "lengths" "[I" ∈ TT := tt_of 735 rfl rfl
set_option maxRecDepth 20000 in
theorem tw_737 : Cond.laysFinal "TollweaveModel" "TollweaveModel" "owners" "[I" ∈ TT := tt_of 737 rfl rfl
set_option maxRecDepth 20000 in
theorem tw_739 : Cond.laysFinal "TollweaveModel" "TollweaveModel" "far" "[I" ∈ TT := tt_of 739 rfl rfl
set_option maxRecDepth 20000 in
theorem tw_741 : Cond.laysFinal "TollweaveModel" "TollweaveModel" "rates" "[I" ∈ TT := tt_of 741 rfl rfl
set_option maxRecDepth 20000 in
theorem tw_743 : Cond.laysFinal "TollweaveModel" "TollweaveModel" "percents" "[I" ∈ TT := tt_of 743 rfl rfl
set_option maxRecDepth 20000 in
theorem tw_745 : Cond.lays "TollweaveModel" "TollweaveModel" "most" "I" ∈ TT := tt_of 745 rfl rfl
set_option maxRecDepth 20000 in
theorem tw_747 : Cond.laysFinal "TollweaveModel" "TollweaveModel" "kinds" "[I" ∈ TT := tt_of 747 rfl rfl
set_option maxRecDepth 20000 in
theorem tw_749 : Cond.laysFinal "TollweaveModel" "TollweaveModel" "holders" "[I" ∈ TT := tt_of 749 rfl rfl
set_option maxRecDepth 20000 in
theorem tw_751 : Cond.laysFinal "TollweaveModel" "TollweaveModel" "billed" "[J" ∈ TT := tt_of 751 rfl rfl
set_option maxRecDepth 20000 in
theorem tw_753 : Cond.laysFinal "TollweaveModel" "TollweaveModel" "own" "[J" ∈ TT := tt_of 753 rfl rfl
set_option maxRecDepth 20000 in
theorem tw_755 : Cond.laysFinal "TollweaveModel" "TollweaveModel" "wallets" "[J" ∈ TT := tt_of 755 rfl rfl
set_option maxRecDepth 20000 in
theorem tw_757 : Cond.laysFinal "TollweaveModel" "TollweaveModel" "got" "[J" ∈ TT := tt_of 757 rfl rfl
set_option maxRecDepth 20000 in
theorem tw_759 : Cond.lays "TollweaveModel" "TollweaveModel" "spanMany" "I" ∈ TT := tt_of 759 rfl rfl
set_option maxRecDepth 20000 in
theorem tw_761 : Cond.laysFinal "TollweaveModel" "TollweaveModel" "spanPlate" "[I" ∈ TT := tt_of 761 rfl rfl
set_option maxRecDepth 20000 in
theorem tw_763 : Cond.laysFinal "TollweaveModel" "TollweaveModel" "spanFrom" "[I" ∈ TT := tt_of 763 rfl rfl
set_option maxRecDepth 20000 in
theorem tw_765 : Cond.laysFinal "TollweaveModel" "TollweaveModel" "spanTo" "[I" ∈ TT := tt_of 765 rfl rfl
set_option maxRecDepth 20000 in
theorem tw_767 : Cond.lays "TollweaveModel" "TollweaveModel" "readingMany" "I" ∈ TT := tt_of 767 rfl rfl
set_option maxRecDepth 20000 in
theorem tw_769 : Cond.laysFinal "TollweaveModel" "TollweaveModel" "readGate" "[I" ∈ TT := tt_of 769 rfl rfl
set_option maxRecDepth 20000 in
theorem tw_771 : Cond.laysFinal "TollweaveModel" "TollweaveModel" "readPlate" "[I" ∈ TT := tt_of 771 rfl rfl
set_option maxRecDepth 20000 in
theorem tw_773 : Cond.laysFinal "TollweaveModel" "TollweaveModel" "readMinute" "[I" ∈ TT := tt_of 773 rfl rfl
set_option maxRecDepth 20000 in
theorem tw_775 : Cond.laysFinal "TollweaveModel" "TollweaveModel" "isStruck" "[Z" ∈ TT := tt_of 775 rfl rfl
set_option maxRecDepth 20000 in
theorem tw_777 : Cond.laysFinal "TollweaveModel" "TollweaveModel" "isDouble" "[Z" ∈ TT := tt_of 777 rfl rfl
set_option maxRecDepth 20000 in
theorem tw_779 : Cond.laysFinal "TollweaveModel" "TollweaveModel" "journeyOf" "[I" ∈ TT := tt_of 779 rfl rfl
set_option maxRecDepth 20000 in
theorem tw_781 : Cond.laysFinal "TollweaveModel" "TollweaveModel" "isDone" "[Z" ∈ TT := tt_of 781 rfl rfl
set_option maxRecDepth 20000 in
theorem tw_783 : Cond.lays "TollweaveModel" "TollweaveModel" "journeyMany" "I" ∈ TT := tt_of 783 rfl rfl
set_option maxRecDepth 20000 in
theorem tw_785 : Cond.laysFinal "TollweaveModel" "TollweaveModel" "first" "[I" ∈ TT := tt_of 785 rfl rfl
set_option maxRecDepth 20000 in
theorem tw_787 : Cond.laysFinal "TollweaveModel" "TollweaveModel" "last" "[I" ∈ TT := tt_of 787 rfl rfl
set_option maxRecDepth 20000 in
theorem tw_789 : Cond.laysFinal "TollweaveModel" "TollweaveModel" "counts" "[I" ∈ TT := tt_of 789 rfl rfl
set_option maxRecDepth 20000 in
theorem tw_791 : Cond.laysFinal "TollweaveModel" "TollweaveModel" "paid" "[J" ∈ TT := tt_of 791 rfl rfl
set_option maxRecDepth 20000 in
theorem tw_793 : Cond.laysFinal "TollweaveModel" "TollweaveModel" "fares" "[J" ∈ TT := tt_of 793 rfl rfl
set_option maxRecDepth 20000 in
theorem tw_795 : Cond.laysFinal "TollweaveModel" "TollweaveModel" "shares" "[J" ∈ TT := tt_of 795 rfl rfl
set_option maxRecDepth 20000 in
theorem tw_798 : Cond.methodLink "TollweaveLaw" 95 yX7_thrown ∈ TT := tt_of 798 rfl rfl
set_option maxRecDepth 20000 in
theorem tw_799 : Cond.instanceMethod yX7_thrown ∈ TT := tt_of 799 rfl rfl
set_option maxRecDepth 20000 in
theorem tw_800 : Cond.selects "TollweaveModel" yX7_thrown yX7_thrown ∈ TT := tt_of 800 rfl rfl
set_option maxRecDepth 20000 in
theorem tw_801 : Cond.code yX7_thrown cX7_thrown 1 ((Option.some .int)) ∈ TT := tt_of 801 rfl rfl
set_option maxRecDepth 20000 in
theorem tw_802 : Cond.methodLink "TollweaveLaw" 94 yX7_gate ∈ TT := tt_of 802 rfl rfl
set_option maxRecDepth 20000 in
theorem tw_803 : Cond.instanceMethod yX7_gate ∈ TT := tt_of 803 rfl rfl
set_option maxRecDepth 20000 in
theorem tw_804 : Cond.selects "TollweaveModel" yX7_gate yX7_gate ∈ TT := tt_of 804 rfl rfl
set_option maxRecDepth 20000 in
theorem tw_805 : Cond.code yX7_gate cX7_gate 1 ((Option.some .int)) ∈ TT := tt_of 805 rfl rfl
set_option maxRecDepth 20000 in
theorem tw_806 : Cond.methodLink "TollweaveModel" 124 yX7_measures ∈ TT := tt_of 806 rfl rfl
set_option maxRecDepth 20000 in
theorem tw_808 : Cond.instanceMethod yX7_measures ∈ TT := tt_of 808 rfl rfl
set_option maxRecDepth 20000 in
theorem tw_809 : Cond.code yX7_measures cX7_measures 6 ((Option.none : Option ClassFile.FieldType)) ∈ TT := tt_of 809 rfl rfl
set_option maxRecDepth 20000 in
theorem tw_810 : Cond.constant "TollweaveModel" 116 1000000 ∈ TT := tt_of 810 rfl rfl
set_option maxRecDepth 20000 in
theorem tw_811 : Cond.methodLink "TollweaveLaw" 101 yX7_road ∈ TT := tt_of 811 rfl rfl
set_option maxRecDepth 20000 in
theorem tw_812 : Cond.instanceMethod yX7_road ∈ TT := tt_of 812 rfl rfl
set_option maxRecDepth 20000 in
theorem tw_813 : Cond.selects "TollweaveModel" yX7_road yX7_road ∈ TT := tt_of 813 rfl rfl
set_option maxRecDepth 20000 in
theorem tw_814 : Cond.code yX7_road cX7_road 5 ((Option.some .int)) ∈ TT := tt_of 814 rfl rfl
set_option maxRecDepth 20000 in
theorem tw_815 : Cond.methodLink "TollweaveModel" 127 yX7_isGate ∈ TT := tt_of 815 rfl rfl
set_option maxRecDepth 20000 in
theorem tw_817 : Cond.instanceMethod yX7_isGate ∈ TT := tt_of 817 rfl rfl
set_option maxRecDepth 20000 in
theorem tw_818 : Cond.code yX7_isGate cX7_isGate 2 ((Option.some .boolean)) ∈ TT := tt_of 818 rfl rfl
set_option maxRecDepth 20000 in
theorem tw_819 : Cond.methodLink "TollweaveModel" 109 yX7_in ∈ TT := tt_of 819 rfl rfl
set_option maxRecDepth 20000 in
theorem tw_820 : Cond.static yX7_in ∈ TT := tt_of 820 rfl rfl
set_option maxRecDepth 20000 in
theorem tw_821 : Cond.code yX7_in cX7_in 3 ((Option.some .boolean)) ∈ TT := tt_of 821 rfl rfl
set_option maxRecDepth 20000 in
theorem tw_822 : Cond.methodLink "TollweaveLaw" 105 yX7_rate ∈ TT := tt_of 822 rfl rfl
set_option maxRecDepth 20000 in
theorem tw_823 : Cond.instanceMethod yX7_rate ∈ TT := tt_of 823 rfl rfl
set_option maxRecDepth 20000 in
theorem tw_824 : Cond.selects "TollweaveModel" yX7_rate yX7_rate ∈ TT := tt_of 824 rfl rfl
set_option maxRecDepth 20000 in
theorem tw_825 : Cond.code yX7_rate cX7_rate 4 ((Option.none : Option ClassFile.FieldType)) ∈ TT := tt_of 825 rfl rfl
set_option maxRecDepth 20000 in
theorem tw_826 : Cond.methodLink "TollweaveLaw" 109 yX7_most ∈ TT := tt_of 826 rfl rfl
set_option maxRecDepth 20000 in
theorem tw_827 : Cond.instanceMethod yX7_most ∈ TT := tt_of 827 rfl rfl
set_option maxRecDepth 20000 in
theorem tw_828 : Cond.selects "TollweaveModel" yX7_most yX7_most ∈ TT := tt_of 828 rfl rfl
set_option maxRecDepth 20000 in
theorem tw_829 : Cond.code yX7_most cX7_most 3 ((Option.some .int)) ∈ TT := tt_of 829 rfl rfl
set_option maxRecDepth 20000 in
theorem tw_830 : Cond.constant "TollweaveModel" 131 100000 ∈ TT := tt_of 830 rfl rfl
set_option maxRecDepth 20000 in
theorem tw_831 : Cond.methodLink "TollweaveLaw" 112 yX7_plate ∈ TT := tt_of 831 rfl rfl
set_option maxRecDepth 20000 in
theorem tw_832 : Cond.instanceMethod yX7_plate ∈ TT := tt_of 832 rfl rfl
set_option maxRecDepth 20000 in
theorem tw_833 : Cond.selects "TollweaveModel" yX7_plate yX7_plate ∈ TT := tt_of 833 rfl rfl
set_option maxRecDepth 20000 in
theorem tw_834 : Cond.code yX7_plate cX7_plate 4 ((Option.none : Option ClassFile.FieldType)) ∈ TT := tt_of 834 rfl rfl
set_option maxRecDepth 20000 in
theorem tw_835 : Cond.methodLink "TollweaveModel" 132 yX7_isPlate ∈ TT := tt_of 835 rfl rfl
set_option maxRecDepth 20000 in
theorem tw_836 : Cond.static yX7_isPlate ∈ TT := tt_of 836 rfl rfl
set_option maxRecDepth 20000 in
theorem tw_837 : Cond.code yX7_isPlate cX7_isPlate 1 ((Option.some .boolean)) ∈ TT := tt_of 837 rfl rfl
set_option maxRecDepth 20000 in
theorem tw_838 : Cond.methodLink "TollweaveModel" 135 yX7_isHolder ∈ TT := tt_of 838 rfl rfl
set_option maxRecDepth 20000 in
theorem tw_839 : Cond.static yX7_isHolder ∈ TT := tt_of 839 rfl rfl
set_option maxRecDepth 20000 in
theorem tw_840 : Cond.code yX7_isHolder cX7_isHolder 1 ((Option.some .boolean)) ∈ TT := tt_of 840 rfl rfl
set_option maxRecDepth 20000 in
theorem tw_841 : Cond.methodLink "TollweaveLaw" 116 yX7_top ∈ TT := tt_of 841 rfl rfl
set_option maxRecDepth 20000 in
theorem tw_842 : Cond.instanceMethod yX7_top ∈ TT := tt_of 842 rfl rfl
set_option maxRecDepth 20000 in
theorem tw_843 : Cond.selects "TollweaveModel" yX7_top yX7_top ∈ TT := tt_of 843 rfl rfl
set_option maxRecDepth 20000 in
theorem tw_844 : Cond.code yX7_top cX7_top 3 ((Option.some .long)) ∈ TT := tt_of 844 rfl rfl
set_option maxRecDepth 20000 in
theorem tw_845 : Cond.methodLink "TollweaveLaw" 120 yX7_exempt ∈ TT := tt_of 845 rfl rfl
set_option maxRecDepth 20000 in
theorem tw_846 : Cond.instanceMethod yX7_exempt ∈ TT := tt_of 846 rfl rfl
set_option maxRecDepth 20000 in
theorem tw_847 : Cond.selects "TollweaveModel" yX7_exempt yX7_exempt ∈ TT := tt_of 847 rfl rfl
set_option maxRecDepth 20000 in
theorem tw_848 : Cond.code yX7_exempt cX7_exempt 4 ((Option.some .int)) ∈ TT := tt_of 848 rfl rfl
set_option maxRecDepth 20000 in
theorem tw_849 : Cond.methodLink "TollweaveLaw" 123 yX7_read ∈ TT := tt_of 849 rfl rfl
set_option maxRecDepth 20000 in
theorem tw_850 : Cond.instanceMethod yX7_read ∈ TT := tt_of 850 rfl rfl
set_option maxRecDepth 20000 in
theorem tw_851 : Cond.selects "TollweaveModel" yX7_read yX7_read ∈ TT := tt_of 851 rfl rfl
set_option maxRecDepth 20000 in
theorem tw_852 : Cond.code yX7_read cX7_read 4 ((Option.some .int)) ∈ TT := tt_of 852 rfl rfl
set_option maxRecDepth 20000 in
theorem tw_853 : Cond.methodLink "TollweaveLaw" 127 yX7_strike ∈ TT := tt_of 853 rfl rfl
set_option maxRecDepth 20000 in
theorem tw_854 : Cond.instanceMethod yX7_strike ∈ TT := tt_of 854 rfl rfl
set_option maxRecDepth 20000 in
theorem tw_855 : Cond.selects "TollweaveModel" yX7_strike yX7_strike ∈ TT := tt_of 855 rfl rfl
set_option maxRecDepth 20000 in
theorem tw_856 : Cond.code yX7_strike cX7_strike 2 ((Option.none : Option ClassFile.FieldType)) ∈ TT := tt_of 856 rfl rfl
set_option maxRecDepth 20000 in
theorem tw_857 : Cond.methodLink "TollweaveModel" 144 yX7_isReading ∈ TT := tt_of 857 rfl rfl
set_option maxRecDepth 20000 in
theorem tw_859 : Cond.instanceMethod yX7_isReading ∈ TT := tt_of 859 rfl rfl
set_option maxRecDepth 20000 in
theorem tw_860 : Cond.code yX7_isReading cX7_isReading 2 ((Option.some .boolean)) ∈ TT := tt_of 860 rfl rfl
set_option maxRecDepth 20000 in
theorem tw_861 : Cond.methodLink "TollweaveLaw" 130 yX7_pass ∈ TT := tt_of 861 rfl rfl
set_option maxRecDepth 20000 in
theorem tw_862 : Cond.instanceMethod yX7_pass ∈ TT := tt_of 862 rfl rfl
set_option maxRecDepth 20000 in
theorem tw_863 : Cond.selects "TollweaveModel" yX7_pass yX7_pass ∈ TT := tt_of 863 rfl rfl
set_option maxRecDepth 20000 in
theorem tw_864 : Cond.code yX7_pass cX7_pass 2 ((Option.some .int)) ∈ TT := tt_of 864 rfl rfl
set_option maxRecDepth 20000 in
theorem tw_865 : Cond.methodLink "TollweaveLaw" 135 yX7_bill ∈ TT := tt_of 865 rfl rfl
set_option maxRecDepth 20000 in
theorem tw_866 : Cond.instanceMethod yX7_bill ∈ TT := tt_of 866 rfl rfl
set_option maxRecDepth 20000 in
theorem tw_867 : Cond.selects "TollweaveModel" yX7_bill yX7_bill ∈ TT := tt_of 867 rfl rfl
set_option maxRecDepth 20000 in
theorem tw_868 : Cond.code yX7_bill cX7_bill 8 ((Option.some .long)) ∈ TT := tt_of 868 rfl rfl
set_option maxRecDepth 20000 in
theorem tw_869 : Cond.methodLink "TollweaveModel" 182 yX7_dueOf ∈ TT := tt_of 869 rfl rfl
set_option maxRecDepth 20000 in
theorem tw_871 : Cond.instanceMethod yX7_dueOf ∈ TT := tt_of 871 rfl rfl
set_option maxRecDepth 20000 in
theorem tw_872 : Cond.code yX7_dueOf cX7_dueOf 5 ((Option.some .long)) ∈ TT := tt_of 872 rfl rfl
set_option maxRecDepth 20000 in
theorem tw_873 : Cond.methodLink "TollweaveModel" 176 yX7_goes ∈ TT := tt_of 873 rfl rfl
set_option maxRecDepth 20000 in
theorem tw_875 : Cond.instanceMethod yX7_goes ∈ TT := tt_of 875 rfl rfl
set_option maxRecDepth 20000 in
theorem tw_876 : Cond.code yX7_goes cX7_goes 7 ((Option.none : Option ClassFile.FieldType)) ∈ TT := tt_of 876 rfl rfl
set_option maxRecDepth 20000 in
theorem tw_877 : Cond.methodLink "TollweaveModel" 162 yX7_nextReading ∈ TT := tt_of 877 rfl rfl
set_option maxRecDepth 20000 in
theorem tw_879 : Cond.instanceMethod yX7_nextReading ∈ TT := tt_of 879 rfl rfl
set_option maxRecDepth 20000 in
theorem tw_880 : Cond.code yX7_nextReading cX7_nextReading 5 ((Option.some .int)) ∈ TT := tt_of 880 rfl rfl
set_option maxRecDepth 20000 in
theorem tw_881 : Cond.methodLink "TollweaveModel" 120 yX7_away ∈ TT := tt_of 881 rfl rfl
set_option maxRecDepth 20000 in
theorem tw_883 : Cond.instanceMethod yX7_away ∈ TT := tt_of 883 rfl rfl
set_option maxRecDepth 20000 in
theorem tw_884 : Cond.code yX7_away cX7_away 3 ((Option.some .int)) ∈ TT := tt_of 884 rfl rfl
set_option maxRecDepth 20000 in
theorem tw_885 : Cond.methodLink "TollweaveModel" 166 yX7_pays ∈ TT := tt_of 885 rfl rfl
set_option maxRecDepth 20000 in
theorem tw_887 : Cond.instanceMethod yX7_pays ∈ TT := tt_of 887 rfl rfl
set_option maxRecDepth 20000 in
theorem tw_888 : Cond.code yX7_pays cX7_pays 11 ((Option.none : Option ClassFile.FieldType)) ∈ TT := tt_of 888 rfl rfl
set_option maxRecDepth 20000 in
theorem tw_889 : Cond.methodLink "TollweaveModel" 147 yX7_isExempt ∈ TT := tt_of 889 rfl rfl
set_option maxRecDepth 20000 in
theorem tw_891 : Cond.instanceMethod yX7_isExempt ∈ TT := tt_of 891 rfl rfl
set_option maxRecDepth 20000 in
theorem tw_892 : Cond.code yX7_isExempt cX7_isExempt 5 ((Option.some .boolean)) ∈ TT := tt_of 892 rfl rfl
set_option maxRecDepth 20000 in
theorem tw_893 : Cond.methodLink "TollweaveModel" 151 yX7_next ∈ TT := tt_of 893 rfl rfl
set_option maxRecDepth 20000 in
theorem tw_895 : Cond.instanceMethod yX7_next ∈ TT := tt_of 895 rfl rfl
set_option maxRecDepth 20000 in
theorem tw_896 : Cond.code yX7_next cX7_next 7 ((Option.some .int)) ∈ TT := tt_of 896 rfl rfl
set_option maxRecDepth 20000 in
theorem tw_897 : Cond.constantLong "TollweaveModel" 154 100 ∈ TT := tt_of 897 rfl rfl
set_option maxRecDepth 20000 in
theorem tw_898 : Cond.methodLink "TollweaveModel" 156 yX7_otherEnd ∈ TT := tt_of 898 rfl rfl
set_option maxRecDepth 20000 in
theorem tw_900 : Cond.instanceMethod yX7_otherEnd ∈ TT := tt_of 900 rfl rfl
set_option maxRecDepth 20000 in
theorem tw_901 : Cond.code yX7_otherEnd cX7_otherEnd 3 ((Option.some .int)) ∈ TT := tt_of 901 rfl rfl
set_option maxRecDepth 20000 in
theorem tw_902 : Cond.methodLink "TollweaveModel" 170 yX7_begins ∈ TT := tt_of 902 rfl rfl
set_option maxRecDepth 20000 in
theorem tw_904 : Cond.instanceMethod yX7_begins ∈ TT := tt_of 904 rfl rfl
set_option maxRecDepth 20000 in
theorem tw_905 : Cond.code yX7_begins cX7_begins 4 ((Option.none : Option ClassFile.FieldType)) ∈ TT := tt_of 905 rfl rfl
set_option maxRecDepth 20000 in
theorem tw_906 : Cond.methodLink "TollweaveModel" 174 yX7_shares ∈ TT := tt_of 906 rfl rfl
set_option maxRecDepth 20000 in
theorem tw_908 : Cond.instanceMethod yX7_shares ∈ TT := tt_of 908 rfl rfl
set_option maxRecDepth 20000 in
theorem tw_909 : Cond.code yX7_shares cX7_shares 10 ((Option.none : Option ClassFile.FieldType)) ∈ TT := tt_of 909 rfl rfl
set_option maxRecDepth 20000 in
theorem tw_910 : Cond.methodLink "TollweaveModel" 179 yX7_isOver ∈ TT := tt_of 910 rfl rfl
set_option maxRecDepth 20000 in
theorem tw_912 : Cond.instanceMethod yX7_isOver ∈ TT := tt_of 912 rfl rfl
set_option maxRecDepth 20000 in
theorem tw_913 : Cond.code yX7_isOver cX7_isOver 2 ((Option.some .boolean)) ∈ TT := tt_of 913 rfl rfl
set_option maxRecDepth 20000 in
theorem tw_914 : Cond.methodLink "TollweaveModel" 186 yX7_dueTo ∈ TT := tt_of 914 rfl rfl
set_option maxRecDepth 20000 in
theorem tw_916 : Cond.instanceMethod yX7_dueTo ∈ TT := tt_of 916 rfl rfl
set_option maxRecDepth 20000 in
theorem tw_917 : Cond.code yX7_dueTo cX7_dueTo 6 ((Option.some .long)) ∈ TT := tt_of 917 rfl rfl
set_option maxRecDepth 20000 in
theorem tw_918 : Cond.methodLink "TollweaveLaw" 138 yX7_distance ∈ TT := tt_of 918 rfl rfl
set_option maxRecDepth 20000 in
theorem tw_919 : Cond.instanceMethod yX7_distance ∈ TT := tt_of 919 rfl rfl
set_option maxRecDepth 20000 in
theorem tw_920 : Cond.selects "TollweaveModel" yX7_distance yX7_distance ∈ TT := tt_of 920 rfl rfl
set_option maxRecDepth 20000 in
theorem tw_921 : Cond.code yX7_distance cX7_distance 3 ((Option.some .int)) ∈ TT := tt_of 921 rfl rfl
set_option maxRecDepth 20000 in
theorem tw_922 : Cond.methodLink "TollweaveLaw" 141 yX7_way ∈ TT := tt_of 922 rfl rfl
set_option maxRecDepth 20000 in
theorem tw_923 : Cond.instanceMethod yX7_way ∈ TT := tt_of 923 rfl rfl
set_option maxRecDepth 20000 in
theorem tw_924 : Cond.selects "TollweaveModel" yX7_way yX7_way ∈ TT := tt_of 924 rfl rfl
set_option maxRecDepth 20000 in
theorem tw_925 : Cond.code yX7_way cX7_way 7 ((Option.some .int)) ∈ TT := tt_of 925 rfl rfl
set_option maxRecDepth 20000 in
theorem tw_926 : Cond.methodLink "TollweaveLaw" 144 yX7_journeys ∈ TT := tt_of 926 rfl rfl
set_option maxRecDepth 20000 in
theorem tw_927 : Cond.instanceMethod yX7_journeys ∈ TT := tt_of 927 rfl rfl
set_option maxRecDepth 20000 in
theorem tw_928 : Cond.selects "TollweaveModel" yX7_journeys yX7_journeys ∈ TT := tt_of 928 rfl rfl
set_option maxRecDepth 20000 in
theorem tw_929 : Cond.code yX7_journeys cX7_journeys 2 ((Option.some .int)) ∈ TT := tt_of 929 rfl rfl
set_option maxRecDepth 20000 in
theorem tw_930 : Cond.methodLink "TollweaveLaw" 147 yX7_journey ∈ TT := tt_of 930 rfl rfl
set_option maxRecDepth 20000 in
theorem tw_931 : Cond.instanceMethod yX7_journey ∈ TT := tt_of 931 rfl rfl
set_option maxRecDepth 20000 in
theorem tw_932 : Cond.selects "TollweaveModel" yX7_journey yX7_journey ∈ TT := tt_of 932 rfl rfl
set_option maxRecDepth 20000 in
theorem tw_933 : Cond.code yX7_journey cX7_journey 4 ((Option.some .int)) ∈ TT := tt_of 933 rfl rfl
set_option maxRecDepth 20000 in
theorem tw_934 : Cond.methodLink "TollweaveLaw" 150 yX7_ofReading ∈ TT := tt_of 934 rfl rfl
set_option maxRecDepth 20000 in
theorem tw_935 : Cond.instanceMethod yX7_ofReading ∈ TT := tt_of 935 rfl rfl
set_option maxRecDepth 20000 in
theorem tw_936 : Cond.selects "TollweaveModel" yX7_ofReading yX7_ofReading ∈ TT := tt_of 936 rfl rfl
set_option maxRecDepth 20000 in
theorem tw_937 : Cond.code yX7_ofReading cX7_ofReading 3 ((Option.some .int)) ∈ TT := tt_of 937 rfl rfl
set_option maxRecDepth 20000 in
theorem tw_938 : Cond.methodLink "TollweaveLaw" 153 yX7_due ∈ TT := tt_of 938 rfl rfl
set_option maxRecDepth 20000 in
theorem tw_939 : Cond.instanceMethod yX7_due ∈ TT := tt_of 939 rfl rfl
set_option maxRecDepth 20000 in
theorem tw_940 : Cond.selects "TollweaveModel" yX7_due yX7_due ∈ TT := tt_of 940 rfl rfl
set_option maxRecDepth 20000 in
theorem tw_941 : Cond.code yX7_due cX7_due 2 ((Option.some .long)) ∈ TT := tt_of 941 rfl rfl
set_option maxRecDepth 20000 in
theorem tw_942 : Cond.methodLink "TollweaveLaw" 156 yX7_billed ∈ TT := tt_of 942 rfl rfl
set_option maxRecDepth 20000 in
theorem tw_943 : Cond.instanceMethod yX7_billed ∈ TT := tt_of 943 rfl rfl
set_option maxRecDepth 20000 in
theorem tw_944 : Cond.selects "TollweaveModel" yX7_billed yX7_billed ∈ TT := tt_of 944 rfl rfl
set_option maxRecDepth 20000 in
theorem tw_945 : Cond.code yX7_billed cX7_billed 2 ((Option.some .long)) ∈ TT := tt_of 945 rfl rfl
set_option maxRecDepth 20000 in
theorem tw_946 : Cond.methodLink "TollweaveLaw" 159 yX7_wallet ∈ TT := tt_of 946 rfl rfl
set_option maxRecDepth 20000 in
theorem tw_947 : Cond.instanceMethod yX7_wallet ∈ TT := tt_of 947 rfl rfl
set_option maxRecDepth 20000 in
theorem tw_948 : Cond.selects "TollweaveModel" yX7_wallet yX7_wallet ∈ TT := tt_of 948 rfl rfl
set_option maxRecDepth 20000 in
theorem tw_949 : Cond.code yX7_wallet cX7_wallet 2 ((Option.some .long)) ∈ TT := tt_of 949 rfl rfl
set_option maxRecDepth 20000 in
theorem tw_950 : Cond.methodLink "TollweaveLaw" 162 yX7_own ∈ TT := tt_of 950 rfl rfl
set_option maxRecDepth 20000 in
theorem tw_951 : Cond.instanceMethod yX7_own ∈ TT := tt_of 951 rfl rfl
set_option maxRecDepth 20000 in
theorem tw_952 : Cond.selects "TollweaveModel" yX7_own yX7_own ∈ TT := tt_of 952 rfl rfl
set_option maxRecDepth 20000 in
theorem tw_953 : Cond.code yX7_own cX7_own 2 ((Option.some .long)) ∈ TT := tt_of 953 rfl rfl
set_option maxRecDepth 20000 in
theorem tw_954 : Cond.methodLink "TollweaveLaw" 166 yX7_share ∈ TT := tt_of 954 rfl rfl
set_option maxRecDepth 20000 in
theorem tw_955 : Cond.instanceMethod yX7_share ∈ TT := tt_of 955 rfl rfl
set_option maxRecDepth 20000 in
theorem tw_956 : Cond.selects "TollweaveModel" yX7_share yX7_share ∈ TT := tt_of 956 rfl rfl
set_option maxRecDepth 20000 in
theorem tw_957 : Cond.code yX7_share cX7_share 3 ((Option.some .long)) ∈ TT := tt_of 957 rfl rfl
end
section
abbrev vwCl : List vw_C := [(RX0, TX0, 4), (RX1, TX1, 7), (RX2, TX2, 6), (RX3, TX3, 6), (RX4, TX4, 7), (RX5, TX5, 3), (RX6, TX6, 7), (RX7, TX7, 37)]
/-! THE ONE WORLD: every object and array of the class, of the reference and of the law, each by a number; what they hold is (V, I, J): the int fields, the int (and boolean) arrays, the long arrays -/
/-- the arrays by number from 8 on: kind (0 int, 1 boolean, 2 long, 3 rows of ints) and length -/
def wTab : List (Nat × Nat) := [(0,24),(0,24),(0,24),(0,24),(0,3),(0,3),(0,10),(0,10),(0,20),(0,20),(0,20),(0,100),(0,100),(0,100),(1,100),(0,100),(0,100),(0,100),(0,100),(0,100),(1,100),(2,6),(2,10),(2,10),(2,4),(3,12),(3,4),
  (0,12),(0,12),(0,12),(0,12),(0,12),(0,12),(0,12),(0,12),(0,12),(0,12),(0,12),(0,12),(0,100),(0,100),(0,100),(0,100),
  (0,24),(0,24),(0,24),(0,24),(0,144),(0,3),(0,3),(0,10),(0,10),(2,10),(2,10),(2,6),(2,4),(0,20),(0,20),(0,20),(0,100),(0,100),(0,100),(1,100),(1,100),(0,100),(1,100),(0,100),(0,100),(0,100),(2,400),(2,100),(2,400),(2,1)]
def wKd (k : Nat) : Nat := (wTab.getD (k - 8) (0, 0)).1
def wLn (k : Nat) : Nat := (wTab.getD (k - 8) (0, 0)).2
/-- where the rows of an array of rows begin -/
def wBs (k : Nat) : Nat := if k = 33 then 35 else 47
/-- the classes' numbers, the addresses, the heap's size at the law's start, the array classes -/
abbrev wG : Type := va_G × (Nat → Nat) × Nat × (Nat → ClassId)
abbrev wV : Type := Nat → Int32
abbrev wI : Type := Nat → Nat → Int32
abbrev wJ : Type := Nat → Nat → Int64
def wArr (G : wG) (I : wI) (J : wJ) (k : Nat) : va_E := .inl (G.2.2.2 (wKd k), wLn k, if wKd k = 2 then .inr (.inl (J k)) else if wKd k = 3 then .inr (.inr (.inr (.inr (fun j => if j < wLn k then some (G.2.1 (wBs k + j)) else none)))) else .inl (I k))
def wEnt (G : wG) (V : wV) (I : wI) (J : wJ) : Nat → va_E
  | 0 => .inr (6, [.ref (G.2.1 1), .ref (G.2.1 2), .ref (G.2.1 3), .ref (G.2.1 4), .ref (G.2.1 5), .ref (G.2.1 6), .int (V 0)])
  | 1 => .inr (4, [.ref (G.2.1 8), .ref (G.2.1 9), .ref (G.2.1 10), .ref (G.2.1 11), .ref (G.2.1 33), .int (V 1), .int (V 2)])
  | 2 => .inr (5, [.ref (G.2.1 12), .ref (G.2.1 13), .int (V 3)])
  | 3 => .inr (2, [.ref (G.2.1 14), .ref (G.2.1 15), .ref (G.2.1 16), .ref (G.2.1 17), .ref (G.2.1 18), .int (V 4)])
  | 4 => .inr (3, [.ref (G.2.1 19), .ref (G.2.1 20), .ref (G.2.1 21), .ref (G.2.1 22), .ref (G.2.1 23), .int (V 5)])
  | 5 => .inr (1, [.ref (G.2.1 24), .ref (G.2.1 25), .ref (G.2.1 26), .ref (G.2.1 34), .ref (G.2.1 27), .ref (G.2.1 28), .int (V 6)])
  | 6 => .inr (0, [.ref (G.2.1 29), .ref (G.2.1 30), .ref (G.2.1 31), .ref (G.2.1 32)])
  | 7 => .inr (7, [.int (V 7), .int (V 8), .int (V 9), .int (V 10), .ref (G.2.1 51), .ref (G.2.1 52), .ref (G.2.1 53), .ref (G.2.1 54), .ref (G.2.1 55), .ref (G.2.1 56), .ref (G.2.1 57), .int (V 11), .ref (G.2.1 58), .ref (G.2.1 59), .ref (G.2.1 60), .ref (G.2.1 61), .ref (G.2.1 62), .ref (G.2.1 63), .int (V 12), .ref (G.2.1 64), .ref (G.2.1 65), .ref (G.2.1 66), .int (V 13), .ref (G.2.1 67), .ref (G.2.1 68), .ref (G.2.1 69), .ref (G.2.1 70), .ref (G.2.1 71), .ref (G.2.1 72), .ref (G.2.1 73), .int (V 14), .ref (G.2.1 74), .ref (G.2.1 75), .ref (G.2.1 76), .ref (G.2.1 77), .ref (G.2.1 78), .ref (G.2.1 79)])
  | k + 8 => wArr G I J (k + 8)
def Wd (G : wG) (V : wV) (I : wI) (J : wJ) : va_W := (List.range 81).map (fun k => (G.2.1 k, wEnt G V I J k))
theorem wd_at (G : wG) (V : wV) (I : wI) (J : wJ) {k : Nat} (h : k < 81) : (Wd G V I J)[k]? = some (G.2.1 k, wEnt G V I J k) := by
  unfold Wd
  rw [List.getElem?_map, List.getElem?_range h]
  rfl
theorem wd_set {G : wG} {V V' : wV} {I I' : wI} {J J' : wJ} {k : Nat} {e : va_E} (hk : k < 81) (he : e = wEnt G V' I' J' k) (ho : ∀ j, j ≠ k → wEnt G V I J j = wEnt G V' I' J' j) : (Wd G V I J).set k (G.2.1 k, e) = Wd G V' I' J' := by
  apply List.ext_getElem?
  intro j
  rcases Nat.lt_or_ge j 81 with hj | hj
  · rw [wd_at G V' I' J' hj, List.getElem?_set]
    have hl : (Wd G V I J).length = 81 := by unfold Wd; rw [List.length_map, List.length_range]
    by_cases e1 : k = j
    · subst e1
      rw [if_pos rfl, if_pos (by rw [hl]; exact hk), he]
    · rw [if_neg e1, wd_at G V I J hj, ho j (fun q => e1 q.symm)]
  · have hl : (Wd G V I J).length = 81 := by unfold Wd; rw [List.length_map, List.length_range]
    have hl2 : (Wd G V' I' J').length = 81 := by unfold Wd; rw [List.length_map, List.length_range]
    rw [List.getElem?_eq_none (by rw [List.length_set, hl]; exact hj), List.getElem?_eq_none (by rw [hl2]; exact hj)]
theorem wEnt_arr (G : wG) (V : wV) (I : wI) (J : wJ) {k : Nat} (h : 8 ≤ k) : wEnt G V I J k = wArr G I J k := by
  obtain ⟨j, rfl⟩ : ∃ j, k = j + 8 := ⟨k - 8, by omega⟩
  rfl
/-- array number k holds f from now on -/
def uI (I : wI) (k : Nat) (f : Nat → Int32) : wI := fun a => if a = k then f else I a
def uJ (J : wJ) (k : Nat) (f : Nat → Int64) : wJ := fun a => if a = k then f else J a
theorem uI_s {I : wI} {k : Nat} {f : Nat → Int32} : uI I k f k = f := if_pos rfl
theorem uI_n {I : wI} {k j : Nat} {f : Nat → Int32} (h : j ≠ k) : uI I k f j = I j := if_neg h
theorem uJ_s {J : wJ} {k : Nat} {f : Nat → Int64} : uJ J k f k = f := if_pos rfl
theorem uJ_n {J : wJ} {k j : Nat} {f : Nat → Int64} (h : j ≠ k) : uJ J k f j = J j := if_neg h
theorem wd_setI {G : wG} {V : wV} {I : wI} {J : wJ} {k : Nat} {f : Nat → Int32} (hk : k < 81) (h8 : 8 ≤ k) (hd : wKd k ≠ 2) (hd3 : wKd k ≠ 3) : (Wd G V I J).set k (G.2.1 k, .inl (G.2.2.2 (wKd k), wLn k, .inl f)) = Wd G V (uI I k f) J := by
  refine wd_set hk ?_ (fun j hj => ?_)
  · rw [wEnt_arr G _ _ _ h8]
    unfold wArr
    rw [if_neg hd, if_neg hd3, uI_s]
  · rcases Nat.lt_or_ge j 8 with h | h
    · rcases (show j = 0 ∨ j = 1 ∨ j = 2 ∨ j = 3 ∨ j = 4 ∨ j = 5 ∨ j = 6 ∨ j = 7 by omega) with rfl | rfl | rfl | rfl | rfl | rfl | rfl | rfl <;> rfl
    · rw [wEnt_arr G _ _ _ h, wEnt_arr G _ _ _ h]
      unfold wArr
      rw [uI_n hj]
theorem wd_setJ {G : wG} {V : wV} {I : wI} {J : wJ} {k : Nat} {f : Nat → Int64} (hk : k < 81) (h8 : 8 ≤ k) (hd : wKd k = 2) : (Wd G V I J).set k (G.2.1 k, .inl (G.2.2.2 (wKd k), wLn k, .inr (.inl f))) = Wd G V I (uJ J k f) := by
  refine wd_set hk ?_ (fun j hj => ?_)
  · rw [wEnt_arr G _ _ _ h8]
    unfold wArr
    rw [if_pos hd, uJ_s]
  · rcases Nat.lt_or_ge j 8 with h | h
    · rcases (show j = 0 ∨ j = 1 ∨ j = 2 ∨ j = 3 ∨ j = 4 ∨ j = 5 ∨ j = 6 ∨ j = 7 by omega) with rfl | rfl | rfl | rfl | rfl | rfl | rfl | rfl <;> rfl
    · rw [wEnt_arr G _ _ _ h, wEnt_arr G _ _ _ h]
      unfold wArr
      rw [uJ_n hj]
theorem wd_atI (G : wG) (V : wV) (I : wI) (J : wJ) {k : Nat} (hk : k < 81) (h8 : 8 ≤ k) (hd : wKd k ≠ 2) (hd3 : wKd k ≠ 3) : (Wd G V I J)[k]? = some (G.2.1 k, .inl (G.2.2.2 (wKd k), wLn k, .inl (I k))) := by
  rw [wd_at G V I J hk, wEnt_arr G V I J h8]
  unfold wArr
  rw [if_neg hd, if_neg hd3]
theorem wd_atJ (G : wG) (V : wV) (I : wI) (J : wJ) {k : Nat} (hk : k < 81) (h8 : 8 ≤ k) (hd : wKd k = 2) : (Wd G V I J)[k]? = some (G.2.1 k, .inl (G.2.2.2 (wKd k), wLn k, .inr (.inl (J k)))) := by
  rw [wd_at G V I J hk, wEnt_arr G V I J h8]
  unfold wArr
  rw [if_pos hd]
theorem wd_atQ (G : wG) (V : wV) (I : wI) (J : wJ) {k : Nat} (hk : k < 81) (h8 : 8 ≤ k) (hd : wKd k = 3) : (Wd G V I J)[k]? = some (G.2.1 k, .inl (G.2.2.2 (wKd k), wLn k, .inr (.inr (.inr (.inr (fun j => if j < wLn k then some (G.2.1 (wBs k + j)) else none)))))) := by
  rw [wd_at G V I J hk, wEnt_arr G V I J h8]
  unfold wArr
  rw [if_neg (by rw [hd]; decide), if_pos hd]
/-- what the tables know of the array classes -/
def wTy (G : wG) : List (ClassId × FieldType) := [(G.2.2.2 0, .int), (G.2.2.2 1, .boolean), (G.2.2.2 2, .long), (G.2.2.2 3, .array .int)]

/-- the texts of what is thrown: places in the class's pool -/
def wStr : List (Nat × String) := [(60, "there are as many gates as there can be"), (234, "there is no such gate"), (242, "an argument is out of range"), (79, "a road joins two gates"), (85, "there are as many roads as there can be"), (238, "there is no such plate"), (240, "there is no such holde\x72"), (121, "there are as many spans as there can be"), (130, "there are as many readings as there can be"), (236, "there is no such reading"), (142, "the reading is struck"), (144, "now would be behind the last minute"), (177, "a place is from 0 on"), (184, "there is no such journey"), (228, "there is no such owne\x72")]
/-- fields of nest mates that the class reads and writes -/
def wNst : List (String × Nat × String × String × String × String) := [("Tollweave", 284, "Tollweave$Roads", "length", "[I", "Tollweave"), ("Tollweave", 290, "Tollweave$Roads", "owner", "[I", "Tollweave"), ("Tollweave", 171, "Tollweave$Roads", "distance", "[[I", "Tollweave"), ("Tollweave", 55, "Tollweave$Roads", "gateCount", "I", "Tollweave"), ("Tollweave", 82, "Tollweave$Roads", "roadCount", "I", "Tollweave"), ("Tollweave", 91, "Tollweave$Tariff", "rate", "[I", "Tollweave"), ("Tollweave", 95, "Tollweave$Tariff", "busyPercent", "[I", "Tollweave"), ("Tollweave", 99, "Tollweave$Tariff", "mostCents", "I", "Tollweave"), ("Tollweave", 105, "Tollweave$Plates", "kind", "[I", "Tollweave"), ("Tollweave", 108, "Tollweave$Plates", "holder", "[I", "Tollweave"), ("Tollweave", 118, "Tollweave$Plates", "spanCount", "I", "Tollweave"), ("Tollweave", 205, "Tollweave$Readings", "gateOf", "[I", "Tollweave"), ("Tollweave", 208, "Tollweave$Readings", "plateOf", "[I", "Tollweave"), ("Tollweave", 211, "Tollweave$Readings", "minuteOf", "[I", "Tollweave"), ("Tollweave", 138, "Tollweave$Readings", "isStruck", "[Z", "Tollweave"), ("Tollweave", 247, "Tollweave$Readings", "inOrder", "[I", "Tollweave"), ("Tollweave", 127, "Tollweave$Readings", "count", "I", "Tollweave"), ("Tollweave", 186, "Tollweave$Journeys", "firstMinute", "[I", "Tollweave"), ("Tollweave", 189, "Tollweave$Journeys", "lastMinute", "[I", "Tollweave"), ("Tollweave", 192, "Tollweave$Journeys", "counting", "[I", "Tollweave"), ("Tollweave", 257, "Tollweave$Journeys", "journeyOf", "[I", "Tollweave"), ("Tollweave", 299, "Tollweave$Journeys", "isDouble", "[Z", "Tollweave"), ("Tollweave", 183, "Tollweave$Journeys", "count", "I", "Tollweave"), ("Tollweave", 114, "Tollweave$Accounts", "wallet", "[J", "Tollweave"), ("Tollweave", 225, "Tollweave$Accounts", "own", "[J", "Tollweave"), ("Tollweave", 222, "Tollweave$Accounts", "billed", "[J", "Tollweave"), ("Tollweave", 160, "Tollweave$Accounts", "got", "[J", "Tollweave")]
def wDec : List MethodName := [⟨"java/lang/RuntimeException", "<init>", "(Ljava/lang/String;)V"⟩, ⟨"java/lang/Exception", "<init>", "(Ljava/lang/String;)V"⟩, ⟨"java/lang/Throwable", "<init>", "(Ljava/lang/String;)V"⟩]
def wExc : List String := ["java/lang/IllegalStateException", "java/lang/IllegalArgumentException", "java/lang/IndexOutOfBoundsException"]
/-- what is known beside the world: the two statics of a throw, the texts, the nest mates, the casts -/
def wX (G : wG) (U : State) (H : Heap) : Prop := vx_Zq Bundle.tN "UNASSIGNED_STACK" Bundle.steD (fun q => G.2.2.1 ≤ q) U H ∧ vx_Zq Bundle.tN "SUPPRESSED_SENTINEL" Bundle.listD (fun q => G.2.2.1 ≤ q) U H ∧ (∀ q ∈ wStr, ∃ a, vk_R RX6 q.1 q.2 a U) ∧ (∀ q ∈ wNst, va_Nw (.fieldLinkNest q.1 q.2.1 q.2.2.1 q.2.2.2.1 q.2.2.2.2.1 q.2.2.2.2.2) U) ∧ (∀ q ∈ wExc, va_Nw (.castable q q) U) ∧ (∀ a ∈ wExc, ∀ b ∈ wExc, a ≠ b → va_Nc a b U) ∧ (∀ y ∈ wDec, va_Nw (.declares y) U)
theorem wX.warm {G : wG} {s U : State} {H : Heap} (hW : s.WarmedH U.vm) (h : wX G s H) : wX G U H := by
  obtain ⟨h1, h2, h3, h4, h5, h6, h7⟩ := h
  refine ⟨vx_Zq.moved hW.alike h1, vx_Zq.moved hW.alike h2, fun q hq => ?_, fun q hq => (h4 q hq).warmF hW, fun q hq => (h5 q hq).warmC hW, fun a ha b hb hab => (h6 a ha b hb hab).moved hW.alike, fun y hy => (h7 y hy).warmD hW⟩
  obtain ⟨a, ha⟩ := h3 q hq
  exact ⟨a, ha.warm hW⟩
theorem wX.kept {G : wG} {s : State} {H H1 : Heap} (h : wX G s H) (hq : ∀ a : Nat, a < H.size → ¬ (fun q => G.2.2.1 ≤ q) a → H1[a]? = H[a]?) : wX G s H1 := by
  obtain ⟨h1, h2, h3, h4, h5, h6⟩ := h
  exact ⟨h1.kept hq, h2.kept hq, h3, h4, h5, h6⟩
def wD (G : wG) : Prop := ∀ (V : wV) (I : wI) (J : wJ), va_D (fun q => G.2.2.1 ≤ q) (Wd G V I J)
/-- the walk of one method: program, launch, environment, room, start, method, arguments, what lies below, its row, its code -/
abbrev wK : Type := Program × Launch × Env × Room × State × MethodId × Array Value × List Frame × Method × Code
abbrev kp (K : wK) : Program := K.1
abbrev kl (K : wK) : Launch := K.2.1
abbrev ke (K : wK) : Env := K.2.2.1
abbrev kR (K : wK) : Room := K.2.2.2.1
abbrev ks (K : wK) : State := K.2.2.2.2.1
abbrev km (K : wK) : MethodId := K.2.2.2.2.2.1
abbrev ka (K : wK) : Array Value := K.2.2.2.2.2.2.1
abbrev kb (K : wK) : List Frame := K.2.2.2.2.2.2.2.1
abbrev kt (K : wK) : Method := K.2.2.2.2.2.2.2.2.1
abbrev kc (K : wK) : Code := K.2.2.2.2.2.2.2.2.2
abbrev wA (G : wG) : Nat → Prop := fun q => G.2.2.1 ≤ q
/-- the machine, at pc with locals lv and stack st over the world (V, I, J), comes to a state with Q -/
def WW (K : wK) (G : wG) (cells slots : Nat) (Q : State → Prop) (V : wV) (I : wI) (J : wJ) (pc : Nat) (lv : List (Nat × Value)) (st : List Value) : Prop :=
  ∀ (H : Heap) (locs : List Loc) (ls : Array Slot), va_P G.1 vwCl (Wd G V I J) H → va_S (wA G) (ks K).heap H locs → lv_has ls (kc K).maxLocals lv → W (kp K) (kl K) (ke K) (kR K) (ks K) (km K) (ka K) (kb K) (kt K) (kc K) H locs cells slots Q (F0 (km K) pc ls st)
/-- .. with a throw of class E over it -/
def XW (K : wK) (G : wG) (cells slots : Nat) (Q : State → Prop) (V : wV) (I : wI) (J : wJ) (pc : Nat) (lv : List (Nat × Value)) (E : String) : Prop :=
  ∀ (H : Heap) (locs : List Loc) (ls : Array Slot) (q : Addr) (ce : Cell) (rest : List Value), va_P G.1 vwCl (Wd G V I J) H → va_S (wA G) (ks K).heap H locs → lv_has ls (kc K).maxLocals lv → H[q]? = some ce → ce.vm = .none → (ks K).vm.findClass E = some ce.cls → vx_W (kp K) (kl K) (ke K) (kR K) (ks K) (km K) (ka K) (kb K) (kt K) (kc K) H locs cells slots Q (F0 (km K) pc ls rest) q
/-- what holds of a walk from its start on -/
def Cx (K : wK) (G : wG) (own : String) (cc : ByteArray) (nL : Nat) : Prop :=
  CallFix (kp K) (km K) (kc K) cc nL (ks K) (ka K) TT own ∧ va_K G.1 vwCl (wTy G) (ks K) ∧ wD G ∧ G.2.2.1 ≤ (ks K).heap.size ∧ (kt K).locks = false ∧ wX G (ks K) (ks K).heap ∧ (kl K).stackTraces = false
abbrev wPo : Type := Option Value → wV → wI → wJ → Prop
abbrev wPx : Type := String → wV → wI → wJ → Prop
/-- no throw -/
def noX : wPx := fun _ _ _ _ => False
def cP (G : wG) (av : List Value) (V : wV) (I : wI) (J : wJ) : Array Value → State → Prop := fun a U => a = av.toArray ∧ va_P G.1 vwCl (Wd G V I J) U.heap ∧ va_K G.1 vwCl (wTy G) U ∧ G.2.2.1 ≤ U.heap.size ∧ wX G U U.heap
def cQ (G : wG) (post : wPo) : Array Value → State → Outcome → State → Prop := fun _ st o t => (∃ (r : Option Value) (V : wV) (I : wI) (J : wJ), o = .returned r ∧ post r V I J ∧ va_P G.1 vwCl (Wd G V I J) t.heap) ∧ va_F (wA G) st t
def cX (G : wG) (xp : wPx) : String → State → State → Prop := fun E st t => (∃ (V : wV) (I : wI) (J : wJ), xp E V I J ∧ va_P G.1 vwCl (Wd G V I J) t.heap) ∧ va_F (wA G) st t
/-- a method's contract over the one world: from (V, I, J) with the arguments av it returns with post, or throws with xp -/
def Ctr (l : Launch) (y : MethodName) (bytes : ByteArray) (maxL : Nat) (ret : Option FieldType) (rm : Room) (G : wG) (av : List Value) (V : wV) (I : wI) (J : wJ) (post : wPo) (xp : wPx) : Prop :=
  vx_Met l y (Cond.code y bytes maxL ret :: TT) rm (cP G av V I J) (cQ G post) (cX G xp) rm.cells rm.slots (wA G)
abbrev QM (K : wK) (G : wG) (rm : Room) (post : wPo) (xp : wPx) : State → Prop := vx_MQ (kb K) (cQ G post) (cX G xp) (ka K) (ks K) rm.cells rm.slots (wA G)
theorem cP_blind {G : wG} {av : List Value} {V : wV} {I : wI} {J : wJ} : FrameBlind (cP G av V I J) := fun a U g mk q => ⟨q.1, q.2.1, va_K.moved (u := U) (U := U.calling g mk a) (Vm.Alike.refl U.vm) q.2.2.1, q.2.2.2.1, wX.warm (s := U) (U := U.calling g mk a) (State.WarmedH.refl U) q.2.2.2.2⟩
theorem ctr_of {l : Launch} {y : MethodName} {bytes : ByteArray} {maxL : Nat} {ret : Option FieldType} {rm : Room} {G : wG} {av : List Value} {V : wV} {I : wI} {J : wJ} {post : wPo} {xp : wPx} (hl : l.stackTraces = false) (hG : wD G) (hy : plainName y.cls = true) (hn : (lg_sl av).length ≤ maxL) (lv : List (Nat × Value)) (hlv : lv_args 0 av = lv)
    (body : ∀ K : wK, Cx K G y.cls bytes maxL → kl K = l → kR K = rm → (kt K).sig.returnType = ret → (∀ x ∈ (kc K).exceptionTable.toList, False) → WW K G 0 0 (QM K G rm post xp) V I J 0 lv []) : Ctr l y bytes maxL ret rm G av V I J post xp := by
  refine vx_ofW (cc := bytes) (maxL := maxL) (ret := ret) hy rfl ?_
  intro p e s m args below meth c s₁ B hml ht hv
  obtain ⟨rfl, hP, hK, hN, hX⟩ := hv
  have hts := atoms_spec (ws := Cond.code y bytes maxL ret :: TT) B.pre
  have h := body (p, l, e, rm, s, m, av.toArray, below, meth, c) ⟨⟨B.exec, B.bytes, hml, findClass_of_methodNamed B.named, fun w hw => hts w (List.mem_cons_of_mem _ hw)⟩, hK, hG, hN, B.notSynchronized, hX, hl⟩ rfl rfl B.returns ht
  rw [lg_entry_eq]
  refine h s.heap [] _ hP va_S.rf ?_
  subst hlv
  show lv_has _ c.maxLocals _
  rw [hml]
  exact lv_entry av hn
end
section
section GR
variable {K : wK} {G : wG} {cells slots : Nat} {Q : State → Prop} {V : wV} {I : wI} {J : wJ} {pc : Nat} {lv lv' : List (Nat × Value)} {st : List Value} {own : String} {cc : ByteArray} {nL : Nat}
theorem g_iconst (C : Cx K G own cc nL) {n : Int} {v : Int32} (hd : decode cc pc = .ok (.iconst n, 1)) (hv : Int32.ofInt n = v) (k : WW K G cells slots Q V I J (pc + 1) lv (.int v :: st)) : WW K G cells slots Q V I J (pc) lv (st) := fun H locs ls hP hS hl => lv_iconst C.1.1 C.1.2.1 hd hv (k H locs ls hP hS hl)
theorem g_bipush (C : Cx K G own cc nL) {n : Int} {v : Int32} (hd : decode cc pc = .ok (.bipush n, 2)) (hv : (Int8.ofInt n).toInt32 = v) (k : WW K G cells slots Q V I J (pc + 2) lv (.int v :: st)) : WW K G cells slots Q V I J (pc) lv (st) := fun H locs ls hP hS hl => lv_bipush C.1.1 C.1.2.1 hd hv (k H locs ls hP hS hl)
theorem g_sipush (C : Cx K G own cc nL) {n : Int} {v : Int32} (hd : decode cc pc = .ok (.sipush n, 3)) (hv : (Int16.ofInt n).toInt32 = v) (k : WW K G cells slots Q V I J (pc + 3) lv (.int v :: st)) : WW K G cells slots Q V I J (pc) lv (st) := fun H locs ls hP hS hl => lv_sipush C.1.1 C.1.2.1 hd hv (k H locs ls hP hS hl)
theorem g_lconst (C : Cx K G own cc nL) {n : Fin 2} {v : Int64} (hd : decode cc pc = .ok (.lconst n, 1)) (hv : Int64.ofNat (n : Nat) = v) (k : WW K G cells slots Q V I J (pc + 1) lv (.long v :: st)) : WW K G cells slots Q V I J (pc) lv (st) := fun H locs ls hP hS hl => lv_lconst C.1.1 C.1.2.1 hd hv (k H locs ls hP hS hl)
theorem g_iload_n (C : Cx K G own cc nL) {kk : Fin 4} {i : Nat} {x : Int32} (hd : decode cc pc = .ok (.iload_n kk, 1)) (hi : (kk : Nat) = i) (p : Nat) (hp : lv[p]? = some (i, .int x)) (k : WW K G cells slots Q V I J (pc + 1) lv (.int x :: st)) : WW K G cells slots Q V I J (pc) lv (st) := fun H locs ls hP hS hl => lv_iload_n C.1.1 C.1.2.1 hd hi (lv_at hl p hp) (k H locs ls hP hS hl)
theorem g_iload (C : Cx K G own cc nL) {i : Nat} {x : Int32} (hd : decode cc pc = .ok (.iload i, 2)) (p : Nat) (hp : lv[p]? = some (i, .int x)) (k : WW K G cells slots Q V I J (pc + 2) lv (.int x :: st)) : WW K G cells slots Q V I J (pc) lv (st) := fun H locs ls hP hS hl => lv_iload C.1.1 C.1.2.1 hd (lv_at hl p hp) (k H locs ls hP hS hl)
theorem g_istore_n (C : Cx K G own cc nL) {kk : Fin 4} {i : Nat} {x : Int32} (lv' : List (Nat × Value)) (hd : decode cc pc = .ok (.istore_n kk, 1)) (hi : (kk : Nat) = i) (hn : i < nL) (hv : (i, Value.int x) :: lv.filter (fun q => !(q.1 == i) && !(q.1 + 1 == i && q.2.category == 2)) = lv') (k : WW K G cells slots Q V I J (pc + 1) lv' (st)) : WW K G cells slots Q V I J (pc) lv (.int x :: st) := fun H locs ls hP hS hl => lv_istore_n C.1.1 C.1.2.1 hd hi hl (by rw [show (kc K).maxLocals = nL from C.1.2.2.1]; exact hn) hv (fun ls2 hl2 => k H locs ls2 hP hS hl2)
theorem g_istore (C : Cx K G own cc nL) {i : Nat} {x : Int32} (lv' : List (Nat × Value)) (hd : decode cc pc = .ok (.istore i, 2)) (hn : i < nL) (hv : (i, Value.int x) :: lv.filter (fun q => !(q.1 == i) && !(q.1 + 1 == i && q.2.category == 2)) = lv') (k : WW K G cells slots Q V I J (pc + 2) lv' (st)) : WW K G cells slots Q V I J (pc) lv (.int x :: st) := fun H locs ls hP hS hl => lv_istore C.1.1 C.1.2.1 hd hl (by rw [show (kc K).maxLocals = nL from C.1.2.2.1]; exact hn) hv (fun ls2 hl2 => k H locs ls2 hP hS hl2)
theorem g_lload_n (C : Cx K G own cc nL) {kk : Fin 4} {i : Nat} {x : Int64} (hd : decode cc pc = .ok (.lload_n kk, 1)) (hi : (kk : Nat) = i) (p : Nat) (hp : lv[p]? = some (i, .long x)) (k : WW K G cells slots Q V I J (pc + 1) lv (.long x :: st)) : WW K G cells slots Q V I J (pc) lv (st) := fun H locs ls hP hS hl => lv_lload_n C.1.1 C.1.2.1 hd hi (lv_at hl p hp) (k H locs ls hP hS hl)
theorem g_lload (C : Cx K G own cc nL) {i : Nat} {x : Int64} (hd : decode cc pc = .ok (.lload i, 2)) (p : Nat) (hp : lv[p]? = some (i, .long x)) (k : WW K G cells slots Q V I J (pc + 2) lv (.long x :: st)) : WW K G cells slots Q V I J (pc) lv (st) := fun H locs ls hP hS hl => lv_lload C.1.1 C.1.2.1 hd (lv_at hl p hp) (k H locs ls hP hS hl)
theorem g_lstore_n (C : Cx K G own cc nL) {kk : Fin 4} {i : Nat} {x : Int64} (lv' : List (Nat × Value)) (hd : decode cc pc = .ok (.lstore_n kk, 1)) (hi : (kk : Nat) = i) (hn : i + 1 < nL) (hv : (i, Value.long x) :: lv.filter (fun q => !(q.1 == i) && (!(q.1 == i + 1) && !(q.1 + 1 == i && q.2.category == 2))) = lv') (k : WW K G cells slots Q V I J (pc + 1) lv' (st)) : WW K G cells slots Q V I J (pc) lv (.long x :: st) := fun H locs ls hP hS hl => lv_lstore_n C.1.1 C.1.2.1 hd hi hl (by rw [show (kc K).maxLocals = nL from C.1.2.2.1]; exact hn) hv (fun ls2 hl2 => k H locs ls2 hP hS hl2)
theorem g_lstore (C : Cx K G own cc nL) {i : Nat} {x : Int64} (lv' : List (Nat × Value)) (hd : decode cc pc = .ok (.lstore i, 2)) (hn : i + 1 < nL) (hv : (i, Value.long x) :: lv.filter (fun q => !(q.1 == i) && (!(q.1 == i + 1) && !(q.1 + 1 == i && q.2.category == 2))) = lv') (k : WW K G cells slots Q V I J (pc + 2) lv' (st)) : WW K G cells slots Q V I J (pc) lv (.long x :: st) := fun H locs ls hP hS hl => lv_lstore C.1.1 C.1.2.1 hd hl (by rw [show (kc K).maxLocals = nL from C.1.2.2.1]; exact hn) hv (fun ls2 hl2 => k H locs ls2 hP hS hl2)
theorem g_aload_n (C : Cx K G own cc nL) {kk : Fin 4} {i : Nat} {x : Nat} (hd : decode cc pc = .ok (.aload_n kk, 1)) (hi : (kk : Nat) = i) (p : Nat) (hp : lv[p]? = some (i, .ref x)) (k : WW K G cells slots Q V I J (pc + 1) lv (.ref x :: st)) : WW K G cells slots Q V I J (pc) lv (st) := fun H locs ls hP hS hl => lv_aload_n C.1.1 C.1.2.1 hd hi (lv_at hl p hp) (k H locs ls hP hS hl)
theorem g_aload (C : Cx K G own cc nL) {i : Nat} {x : Nat} (hd : decode cc pc = .ok (.aload i, 2)) (p : Nat) (hp : lv[p]? = some (i, .ref x)) (k : WW K G cells slots Q V I J (pc + 2) lv (.ref x :: st)) : WW K G cells slots Q V I J (pc) lv (st) := fun H locs ls hP hS hl => lv_aload C.1.1 C.1.2.1 hd (lv_at hl p hp) (k H locs ls hP hS hl)
theorem g_astore_n (C : Cx K G own cc nL) {kk : Fin 4} {i : Nat} {x : Nat} (lv' : List (Nat × Value)) (hd : decode cc pc = .ok (.astore_n kk, 1)) (hi : (kk : Nat) = i) (hn : i < nL) (hv : (i, Value.ref x) :: lv.filter (fun q => !(q.1 == i) && !(q.1 + 1 == i && q.2.category == 2)) = lv') (k : WW K G cells slots Q V I J (pc + 1) lv' (st)) : WW K G cells slots Q V I J (pc) lv (.ref x :: st) := fun H locs ls hP hS hl => lv_astore_n C.1.1 C.1.2.1 hd hi hl (by rw [show (kc K).maxLocals = nL from C.1.2.2.1]; exact hn) hv (fun ls2 hl2 => k H locs ls2 hP hS hl2)
theorem g_astore (C : Cx K G own cc nL) {i : Nat} {x : Nat} (lv' : List (Nat × Value)) (hd : decode cc pc = .ok (.astore i, 2)) (hn : i < nL) (hv : (i, Value.ref x) :: lv.filter (fun q => !(q.1 == i) && !(q.1 + 1 == i && q.2.category == 2)) = lv') (k : WW K G cells slots Q V I J (pc + 2) lv' (st)) : WW K G cells slots Q V I J (pc) lv (.ref x :: st) := fun H locs ls hP hS hl => lv_astore C.1.1 C.1.2.1 hd hl (by rw [show (kc K).maxLocals = nL from C.1.2.2.1]; exact hn) hv (fun ls2 hl2 => k H locs ls2 hP hS hl2)
theorem g_iinc (C : Cx K G own cc nL) {i : Nat} {n : Int} {x v : Int32} (lv' : List (Nat × Value)) (hd : decode cc pc = .ok (.iinc i n, 3)) (p : Nat) (hp : lv[p]? = some (i, .int x)) (hx : x + Int32.ofInt n = v) (hn : i < nL) (hv : (i, Value.int v) :: lv.filter (fun q => !(q.1 == i) && !(q.1 + 1 == i && q.2.category == 2)) = lv') (k : WW K G cells slots Q V I J (pc + 3) lv' (st)) : WW K G cells slots Q V I J (pc) lv (st) := fun H locs ls hP hS hl => lv_iinc C.1.1 C.1.2.1 hd hl hp hx (by rw [show (kc K).maxLocals = nL from C.1.2.2.1]; exact hn) hv (fun ls2 hl2 => k H locs ls2 hP hS hl2)
theorem g_iadd (C : Cx K G own cc nL) {x y : Int32} (hd : decode cc pc = .ok (.iadd, 1))  (k : WW K G cells slots Q V I J (pc + 1) lv (.int (x + y) :: st)) : WW K G cells slots Q V I J (pc) lv (.int y :: .int x :: st) := fun H locs ls hP hS hl => lv_iadd C.1.1 C.1.2.1 hd  (k H locs ls hP hS hl)
theorem g_isub (C : Cx K G own cc nL) {x y : Int32} (hd : decode cc pc = .ok (.isub, 1))  (k : WW K G cells slots Q V I J (pc + 1) lv (.int (x - y) :: st)) : WW K G cells slots Q V I J (pc) lv (.int y :: .int x :: st) := fun H locs ls hP hS hl => lv_isub C.1.1 C.1.2.1 hd  (k H locs ls hP hS hl)
theorem g_imul (C : Cx K G own cc nL) {x y : Int32} (hd : decode cc pc = .ok (.imul, 1))  (k : WW K G cells slots Q V I J (pc + 1) lv (.int (x * y) :: st)) : WW K G cells slots Q V I J (pc) lv (.int y :: .int x :: st) := fun H locs ls hP hS hl => lv_imul C.1.1 C.1.2.1 hd  (k H locs ls hP hS hl)
theorem g_iand (C : Cx K G own cc nL) {x y : Int32} (hd : decode cc pc = .ok (.iand, 1))  (k : WW K G cells slots Q V I J (pc + 1) lv (.int (x &&& y) :: st)) : WW K G cells slots Q V I J (pc) lv (.int y :: .int x :: st) := fun H locs ls hP hS hl => lv_iand C.1.1 C.1.2.1 hd  (k H locs ls hP hS hl)
theorem g_ladd (C : Cx K G own cc nL) {x y : Int64} (hd : decode cc pc = .ok (.ladd, 1))  (k : WW K G cells slots Q V I J (pc + 1) lv (.long (x + y) :: st)) : WW K G cells slots Q V I J (pc) lv (.long y :: .long x :: st) := fun H locs ls hP hS hl => lv_ladd C.1.1 C.1.2.1 hd  (k H locs ls hP hS hl)
theorem g_lsub (C : Cx K G own cc nL) {x y : Int64} (hd : decode cc pc = .ok (.lsub, 1))  (k : WW K G cells slots Q V I J (pc + 1) lv (.long (x - y) :: st)) : WW K G cells slots Q V I J (pc) lv (.long y :: .long x :: st) := fun H locs ls hP hS hl => lv_lsub C.1.1 C.1.2.1 hd  (k H locs ls hP hS hl)
theorem g_lmul (C : Cx K G own cc nL) {x y : Int64} (hd : decode cc pc = .ok (.lmul, 1))  (k : WW K G cells slots Q V I J (pc + 1) lv (.long (x * y) :: st)) : WW K G cells slots Q V I J (pc) lv (.long y :: .long x :: st) := fun H locs ls hP hS hl => lv_lmul C.1.1 C.1.2.1 hd  (k H locs ls hP hS hl)
theorem g_idiv (C : Cx K G own cc nL) {x y : Int32} (hd : decode cc pc = .ok (.idiv, 1)) (hne : ¬ y = 0) (k : WW K G cells slots Q V I J (pc + 1) lv (.int (x / y) :: st)) : WW K G cells slots Q V I J (pc) lv (.int y :: .int x :: st) := fun H locs ls hP hS hl => lv_idiv C.1.1 C.1.2.1 hd hne (k H locs ls hP hS hl)
theorem g_irem (C : Cx K G own cc nL) {x y : Int32} (hd : decode cc pc = .ok (.irem, 1)) (hne : ¬ y = 0) (k : WW K G cells slots Q V I J (pc + 1) lv (.int (x - x / y * y) :: st)) : WW K G cells slots Q V I J (pc) lv (.int y :: .int x :: st) := fun H locs ls hP hS hl => lv_irem C.1.1 C.1.2.1 hd hne (k H locs ls hP hS hl)
theorem g_ldiv (C : Cx K G own cc nL) {x y : Int64} (hd : decode cc pc = .ok (.ldiv, 1)) (hne : ¬ y = 0) (k : WW K G cells slots Q V I J (pc + 1) lv (.long (x / y) :: st)) : WW K G cells slots Q V I J (pc) lv (.long y :: .long x :: st) := fun H locs ls hP hS hl => lv_ldiv C.1.1 C.1.2.1 hd hne (k H locs ls hP hS hl)
theorem g_i2l (C : Cx K G own cc nL) {x : Int32} (hd : decode cc pc = .ok (.i2l, 1))  (k : WW K G cells slots Q V I J (pc + 1) lv (.long x.toInt64 :: st)) : WW K G cells slots Q V I J (pc) lv (.int x :: st) := fun H locs ls hP hS hl => lv_i2l C.1.1 C.1.2.1 hd rfl (k H locs ls hP hS hl)
theorem g_l2i (C : Cx K G own cc nL) {x : Int64} (hd : decode cc pc = .ok (.l2i, 1))  (k : WW K G cells slots Q V I J (pc + 1) lv (.int x.toInt32 :: st)) : WW K G cells slots Q V I J (pc) lv (.long x :: st) := fun H locs ls hP hS hl => lv_l2i C.1.1 C.1.2.1 hd rfl (k H locs ls hP hS hl)
theorem g_lcmp (C : Cx K G own cc nL) {x y : Int64} (hd : decode cc pc = .ok (.lcmp, 1))  (k : WW K G cells slots Q V I J (pc + 1) lv (.int (lg_cmp x y) :: st)) : WW K G cells slots Q V I J (pc) lv (.long y :: .long x :: st) := fun H locs ls hP hS hl => W.lcmp C.1.1 C.1.2.1 hd  (k H locs ls hP hS hl)
theorem g_dup (C : Cx K G own cc nL) {va : Value} (hd : decode cc pc = .ok (.dup, 1)) (hva : va.category = 1) (k : WW K G cells slots Q V I J (pc + 1) lv (va :: va :: st)) : WW K G cells slots Q V I J (pc) lv (va :: st) := fun H locs ls hP hS hl => lv_dup C.1.1 C.1.2.1 hd hva (k H locs ls hP hS hl)
theorem g_dup2 (C : Cx K G own cc nL) {va vb : Value} (hd : decode cc pc = .ok (.dup2, 1)) (hva : va.category = 1) (hvb : vb.category = 1) (k : WW K G cells slots Q V I J (pc + 1) lv (va :: vb :: va :: vb :: st)) : WW K G cells slots Q V I J (pc) lv (va :: vb :: st) := fun H locs ls hP hS hl => lv_dup2_11 C.1.1 C.1.2.1 hd hva hvb (k H locs ls hP hS hl)
theorem g_goto (C : Cx K G own cc nL) {off : Int} (tgt : Nat) (hd : decode cc pc = .ok (.goto off, 3)) (ht : (pc : Int) + off = (tgt : Int)) (k : WW K G cells slots Q V I J (tgt) lv (st)) : WW K G cells slots Q V I J (pc) lv (st) := fun H locs ls hP hS hl => lv_goto C.1.1 C.1.2.1 hd ht (k H locs ls hP hS hl)
theorem g_if_eq (C : Cx K G own cc nL) {x : Int32} {off : Int} (tgt : Nat) (hd : decode cc pc = .ok (.ifCond .eq off, 3)) (ht : (pc : Int) + off = (tgt : Int)) (k1 : x = 0 → WW K G cells slots Q V I J (tgt) lv (st)) (k2 : ¬ x = 0 → WW K G cells slots Q V I J (pc + 3) lv (st)) : WW K G cells slots Q V I J (pc) lv (.int x :: st) := fun H locs ls hP hS hl => lv_if_eq C.1.1 C.1.2.1 hd ht (fun h => k1 h H locs ls hP hS hl) (fun h => k2 h H locs ls hP hS hl)
theorem g_icmp_eq (C : Cx K G own cc nL) {x y : Int32} {off : Int} (tgt : Nat) (hd : decode cc pc = .ok (.if_icmp .eq off, 3)) (ht : (pc : Int) + off = (tgt : Int)) (k1 : x = y → WW K G cells slots Q V I J (tgt) lv (st)) (k2 : ¬ x = y → WW K G cells slots Q V I J (pc + 3) lv (st)) : WW K G cells slots Q V I J (pc) lv (.int y :: .int x :: st) := fun H locs ls hP hS hl => lv_icmp_eq C.1.1 C.1.2.1 hd ht (fun h => k1 h H locs ls hP hS hl) (fun h => k2 h H locs ls hP hS hl)
theorem g_if_ne (C : Cx K G own cc nL) {x : Int32} {off : Int} (tgt : Nat) (hd : decode cc pc = .ok (.ifCond .ne off, 3)) (ht : (pc : Int) + off = (tgt : Int)) (k1 : ¬ x = 0 → WW K G cells slots Q V I J (tgt) lv (st)) (k2 : x = 0 → WW K G cells slots Q V I J (pc + 3) lv (st)) : WW K G cells slots Q V I J (pc) lv (.int x :: st) := fun H locs ls hP hS hl => lv_if_ne C.1.1 C.1.2.1 hd ht (fun h => k1 h H locs ls hP hS hl) (fun h => k2 h H locs ls hP hS hl)
theorem g_icmp_ne (C : Cx K G own cc nL) {x y : Int32} {off : Int} (tgt : Nat) (hd : decode cc pc = .ok (.if_icmp .ne off, 3)) (ht : (pc : Int) + off = (tgt : Int)) (k1 : ¬ x = y → WW K G cells slots Q V I J (tgt) lv (st)) (k2 : x = y → WW K G cells slots Q V I J (pc + 3) lv (st)) : WW K G cells slots Q V I J (pc) lv (.int y :: .int x :: st) := fun H locs ls hP hS hl => lv_icmp_ne C.1.1 C.1.2.1 hd ht (fun h => k1 h H locs ls hP hS hl) (fun h => k2 h H locs ls hP hS hl)
theorem g_if_lt (C : Cx K G own cc nL) {x : Int32} {off : Int} (tgt : Nat) (hd : decode cc pc = .ok (.ifCond .lt off, 3)) (ht : (pc : Int) + off = (tgt : Int)) (k1 : x < 0 → WW K G cells slots Q V I J (tgt) lv (st)) (k2 : ¬ x < 0 → WW K G cells slots Q V I J (pc + 3) lv (st)) : WW K G cells slots Q V I J (pc) lv (.int x :: st) := fun H locs ls hP hS hl => lv_if_lt C.1.1 C.1.2.1 hd ht (fun h => k1 h H locs ls hP hS hl) (fun h => k2 h H locs ls hP hS hl)
theorem g_icmp_lt (C : Cx K G own cc nL) {x y : Int32} {off : Int} (tgt : Nat) (hd : decode cc pc = .ok (.if_icmp .lt off, 3)) (ht : (pc : Int) + off = (tgt : Int)) (k1 : x < y → WW K G cells slots Q V I J (tgt) lv (st)) (k2 : ¬ x < y → WW K G cells slots Q V I J (pc + 3) lv (st)) : WW K G cells slots Q V I J (pc) lv (.int y :: .int x :: st) := fun H locs ls hP hS hl => lv_icmp_lt C.1.1 C.1.2.1 hd ht (fun h => k1 h H locs ls hP hS hl) (fun h => k2 h H locs ls hP hS hl)
theorem g_if_ge (C : Cx K G own cc nL) {x : Int32} {off : Int} (tgt : Nat) (hd : decode cc pc = .ok (.ifCond .ge off, 3)) (ht : (pc : Int) + off = (tgt : Int)) (k1 : 0 ≤ x → WW K G cells slots Q V I J (tgt) lv (st)) (k2 : ¬ 0 ≤ x → WW K G cells slots Q V I J (pc + 3) lv (st)) : WW K G cells slots Q V I J (pc) lv (.int x :: st) := fun H locs ls hP hS hl => lv_if_ge C.1.1 C.1.2.1 hd ht (fun h => k1 h H locs ls hP hS hl) (fun h => k2 h H locs ls hP hS hl)
theorem g_icmp_ge (C : Cx K G own cc nL) {x y : Int32} {off : Int} (tgt : Nat) (hd : decode cc pc = .ok (.if_icmp .ge off, 3)) (ht : (pc : Int) + off = (tgt : Int)) (k1 : y ≤ x → WW K G cells slots Q V I J (tgt) lv (st)) (k2 : ¬ y ≤ x → WW K G cells slots Q V I J (pc + 3) lv (st)) : WW K G cells slots Q V I J (pc) lv (.int y :: .int x :: st) := fun H locs ls hP hS hl => lv_icmp_ge C.1.1 C.1.2.1 hd ht (fun h => k1 h H locs ls hP hS hl) (fun h => k2 h H locs ls hP hS hl)
theorem g_if_gt (C : Cx K G own cc nL) {x : Int32} {off : Int} (tgt : Nat) (hd : decode cc pc = .ok (.ifCond .gt off, 3)) (ht : (pc : Int) + off = (tgt : Int)) (k1 : 0 < x → WW K G cells slots Q V I J (tgt) lv (st)) (k2 : ¬ 0 < x → WW K G cells slots Q V I J (pc + 3) lv (st)) : WW K G cells slots Q V I J (pc) lv (.int x :: st) := fun H locs ls hP hS hl => lv_if_gt C.1.1 C.1.2.1 hd ht (fun h => k1 h H locs ls hP hS hl) (fun h => k2 h H locs ls hP hS hl)
theorem g_icmp_gt (C : Cx K G own cc nL) {x y : Int32} {off : Int} (tgt : Nat) (hd : decode cc pc = .ok (.if_icmp .gt off, 3)) (ht : (pc : Int) + off = (tgt : Int)) (k1 : y < x → WW K G cells slots Q V I J (tgt) lv (st)) (k2 : ¬ y < x → WW K G cells slots Q V I J (pc + 3) lv (st)) : WW K G cells slots Q V I J (pc) lv (.int y :: .int x :: st) := fun H locs ls hP hS hl => lv_icmp_gt C.1.1 C.1.2.1 hd ht (fun h => k1 h H locs ls hP hS hl) (fun h => k2 h H locs ls hP hS hl)
theorem g_if_le (C : Cx K G own cc nL) {x : Int32} {off : Int} (tgt : Nat) (hd : decode cc pc = .ok (.ifCond .le off, 3)) (ht : (pc : Int) + off = (tgt : Int)) (k1 : x ≤ 0 → WW K G cells slots Q V I J (tgt) lv (st)) (k2 : ¬ x ≤ 0 → WW K G cells slots Q V I J (pc + 3) lv (st)) : WW K G cells slots Q V I J (pc) lv (.int x :: st) := fun H locs ls hP hS hl => lv_if_le C.1.1 C.1.2.1 hd ht (fun h => k1 h H locs ls hP hS hl) (fun h => k2 h H locs ls hP hS hl)
theorem g_icmp_le (C : Cx K G own cc nL) {x y : Int32} {off : Int} (tgt : Nat) (hd : decode cc pc = .ok (.if_icmp .le off, 3)) (ht : (pc : Int) + off = (tgt : Int)) (k1 : x ≤ y → WW K G cells slots Q V I J (tgt) lv (st)) (k2 : ¬ x ≤ y → WW K G cells slots Q V I J (pc + 3) lv (st)) : WW K G cells slots Q V I J (pc) lv (.int y :: .int x :: st) := fun H locs ls hP hS hl => lv_icmp_le C.1.1 C.1.2.1 hd ht (fun h => k1 h H locs ls hP hS hl) (fun h => k2 h H locs ls hP hS hl)
theorem g_ldc (C : Cx K G own cc nL) {index : Nat} {v : Int32} (hw : Cond.constant own index v ∈ TT) (hd : decode cc pc = .ok (.ldc index, 2)) (k : WW K G cells slots Q V I J (pc + 2) lv (.int v :: st)) : WW K G cells slots Q V I J (pc) lv (st) := fun H locs ls hP hS hl => lv_ldc C.1.1 C.1.2.1 C.1.2.2.2.1 (C.1.2.2.2.2 _ hw) hd (k H locs ls hP hS hl)
theorem g_ldc2 (C : Cx K G own cc nL) {index : Nat} {v : Int64} (hw : Cond.constantLong own index v ∈ TT) (hd : decode cc pc = .ok (.ldc2_w index, 3)) (k : WW K G cells slots Q V I J (pc + 3) lv (.long v :: st)) : WW K G cells slots Q V I J (pc) lv (st) := fun H locs ls hP hS hl => lv_ldc2 C.1.1 C.1.2.1 C.1.2.2.2.1 (C.1.2.2.2.2 _ hw) hd (k H locs ls hP hS hl)
/-- a field's value: object o, its class's place ci, its field k -/
theorem g_get (C : Cx K G own cc nL) (o : Nat) (ho : o < 81) {ci N : Nat} {Cn : String} {T : u_T} {fs : List Value} (he : wEnt G V I J o = .inr (ci, fs)) (hc : vwCl[ci]? = some (Cn, T, N)) (hin : ∀ w ∈ u_ws Cn T N, w ∈ TT) (f : Nat) (hf : f < N) {index : Nat} {v : Value} (hw : Cond.fieldLink own index (T f).1 (T f).2.1 (T f).2.2.1 ∈ TT) (hv : fs[f]? = some v) (hd : decode cc pc = .ok (.getfield index, 3)) (k : WW K G cells slots Q V I J (pc + 3) lv (v :: st)) : WW K G cells slots Q V I J (pc) lv (.ref (G.2.1 o) :: st) := fun H locs ls hP hS hl =>
  va_get C.1.1 C.1.2.1 C.1.2.2.2.2 hin C.1.2.2.2.1 C.2.1 hP o ((wd_at G V I J ho).trans (congrArg (fun e => some (G.2.1 o, e)) he)) hc f hf (C.1.2.2.2.2 _ hw) (fun _ h => h) hv hd (k H locs ls hP hS hl)
theorem g_getN (C : Cx K G own cc nL) (o : Nat) (ho : o < 81) {ci N : Nat} {Cn : String} {T : u_T} {fs : List Value} (he : wEnt G V I J o = .inr (ci, fs)) (hc : vwCl[ci]? = some (Cn, T, N)) (hin : ∀ w ∈ u_ws Cn T N, w ∈ TT) (f : Nat) (hf : f < N) {index : Nat} {host : String} {v : Value} (hw : (own, index, (T f).1, (T f).2.1, (T f).2.2.1, host) ∈ wNst) (hv : fs[f]? = some v) (hd : decode cc pc = .ok (.getfield index, 3)) (k : WW K G cells slots Q V I J (pc + 3) lv (v :: st)) : WW K G cells slots Q V I J (pc) lv (.ref (G.2.1 o) :: st) := fun H locs ls hP hS hl =>
  va_getN C.1.1 C.1.2.1 C.1.2.2.2.2 hin C.1.2.2.2.1 C.2.1 hP o ((wd_at G V I J ho).trans (congrArg (fun e => some (G.2.1 o, e)) he)) hc f hf (va_Nw.use rfl (C.2.2.2.2.2.1.2.2.2.1 _ hw)) (fun _ h => h) hv hd (k H locs ls hP hS hl)
/-- an int field is written: object o, field f, its number vi -/
theorem g_put (C : Cx K G own cc nL) (o : Nat) (ho : o < 8) (vi : Nat) {ci N : Nat} {Cn : String} {T : u_T} {fs : List Value} (ty0 : Nat → FieldType) (he : wEnt G V I J o = .inr (ci, fs)) (hc : vwCl[ci]? = some (Cn, T, N)) (hin : ∀ w ∈ u_ws Cn T N, w ∈ TT) (hty : ∀ k, k < N → parseFieldDescriptor (T k).2.2.1 = some (ty0 k)) (hnm : ∀ a, a < N → ∀ b, b < N → a ≠ b → (T a).2.1 ≠ (T b).2.1) (f : Nat) (hf : f < N) {index : Nat} (hw : Cond.fieldLink own index (T f).1 (T f).2.1 (T f).2.2.1 ∈ TT) {x : Int32} (hfin : (T f).2.2.2 = false) (hI : parseFieldDescriptor (T f).2.2.1 = some .int) (hl9 : f < fs.length) (hset : .inr (ci, fs.set f (.int x)) = wEnt G (upd V vi x) I J o) (hoth : ∀ j, j ≠ o → wEnt G V I J j = wEnt G (upd V vi x) I J j) (hd : decode cc pc = .ok (.putfield index, 3)) (k : WW K G cells slots Q (upd V vi x) I J (pc + 3) lv (st)) : WW K G cells slots Q V I J (pc) lv (.int x :: .ref (G.2.1 o) :: st) := fun H locs ls hP hS hl =>
  va_put C.1.1 C.1.2.1 C.1.2.2.2.2 hin ty0 hty hnm C.1.2.2.2.1 C.2.1 hP (C.2.2.1 V I J) hS o ((wd_at G V I J (by omega)).trans (congrArg (fun e => some (G.2.1 o, e)) he)) hc f hf (C.1.2.2.2.2 _ hw) (fun _ h => h) hfin hI rfl rfl hl9 hd (fun H1 locs1 hP1 _ hS1 => k H1 locs1 ls (by rw [wd_set (by omega) hset hoth] at hP1; exact hP1) hS1 hl)
/-- an int field is written: object o, field f, its number vi -/
theorem g_putN (C : Cx K G own cc nL) (o : Nat) (ho : o < 8) (vi : Nat) {ci N : Nat} {Cn : String} {T : u_T} {fs : List Value} (ty0 : Nat → FieldType) (he : wEnt G V I J o = .inr (ci, fs)) (hc : vwCl[ci]? = some (Cn, T, N)) (hin : ∀ w ∈ u_ws Cn T N, w ∈ TT) (hty : ∀ k, k < N → parseFieldDescriptor (T k).2.2.1 = some (ty0 k)) (hnm : ∀ a, a < N → ∀ b, b < N → a ≠ b → (T a).2.1 ≠ (T b).2.1) (f : Nat) (hf : f < N) {index : Nat} {host : String} (hw : (own, index, (T f).1, (T f).2.1, (T f).2.2.1, host) ∈ wNst) {x : Int32} (hfin : (T f).2.2.2 = false) (hI : parseFieldDescriptor (T f).2.2.1 = some .int) (hl9 : f < fs.length) (hset : .inr (ci, fs.set f (.int x)) = wEnt G (upd V vi x) I J o) (hoth : ∀ j, j ≠ o → wEnt G V I J j = wEnt G (upd V vi x) I J j) (hd : decode cc pc = .ok (.putfield index, 3)) (k : WW K G cells slots Q (upd V vi x) I J (pc + 3) lv (st)) : WW K G cells slots Q V I J (pc) lv (.int x :: .ref (G.2.1 o) :: st) := fun H locs ls hP hS hl =>
  va_putN C.1.1 C.1.2.1 C.1.2.2.2.2 hin ty0 hty hnm C.1.2.2.2.1 C.2.1 hP (C.2.2.1 V I J) hS o ((wd_at G V I J (by omega)).trans (congrArg (fun e => some (G.2.1 o, e)) he)) hc f hf (va_Nw.use rfl (C.2.2.2.2.2.1.2.2.2.1 _ hw)) (fun _ h => h) hfin hI rfl rfl hl9 hd (fun H1 locs1 hP1 _ hS1 => k H1 locs1 ls (by rw [wd_set (by omega) hset hoth] at hP1; exact hP1) hS1 hl)
theorem w_k2 {G : wG} (k : Nat) (h : wKd k = 0) : (wTy G)[0]? = some (G.2.2.2 (wKd k), .int) := by rw [h]; rfl
theorem w_k1 {G : wG} (k : Nat) (h : wKd k = 1) : (wTy G)[1]? = some (G.2.2.2 (wKd k), .boolean) := by rw [h]; rfl
theorem w_kJ {G : wG} (k : Nat) (h : wKd k = 2) : (wTy G)[2]? = some (G.2.2.2 (wKd k), .long) := by rw [h]; rfl
theorem w_kQ {G : wG} (k : Nat) (h : wKd k = 3) : (wTy G)[3]? = some (G.2.2.2 (wKd k), .array .int) := by rw [h]; rfl
theorem g_iald (C : Cx K G own cc nL) (a : Nat) (ha : 8 ≤ a ∧ a < 81 ∧ wKd a = 0) {i : Int32} (hi : vp_in i (wLn a)) (hd : decode cc pc = .ok (.iaload, 1)) (k : WW K G cells slots Q V I J (pc + 1) lv (.int (I a i.toNatClampNeg) :: st)) : WW K G cells slots Q V I J (pc) lv (.int i :: .ref (G.2.1 a) :: st) := fun H locs ls hP hS hl => va_iald C.1.1 C.1.2.1 C.2.1 hP a 0 (wd_atI G V I J ha.2.1 ha.1 (by rw [ha.2.2]; decide) (by rw [ha.2.2]; decide)) (w_k2 a ha.2.2) hi hd (k H locs ls hP hS hl)
theorem g_zald (C : Cx K G own cc nL) (a : Nat) (ha : 8 ≤ a ∧ a < 81 ∧ wKd a = 1) {i : Int32} (hi : vp_in i (wLn a)) (hd : decode cc pc = .ok (.baload, 1)) (k : WW K G cells slots Q V I J (pc + 1) lv (.int (I a i.toNatClampNeg) :: st)) : WW K G cells slots Q V I J (pc) lv (.int i :: .ref (G.2.1 a) :: st) := fun H locs ls hP hS hl => va_zald C.1.1 C.1.2.1 C.2.1 hP a 1 (wd_atI G V I J ha.2.1 ha.1 (by rw [ha.2.2]; decide) (by rw [ha.2.2]; decide)) (w_k1 a ha.2.2) hi hd (k H locs ls hP hS hl)
theorem g_lald (C : Cx K G own cc nL) (a : Nat) (ha : 8 ≤ a ∧ a < 81 ∧ wKd a = 2) {i : Int32} (hi : vp_in i (wLn a)) (hd : decode cc pc = .ok (.laload, 1)) (k : WW K G cells slots Q V I J (pc + 1) lv (.long (J a i.toNatClampNeg) :: st)) : WW K G cells slots Q V I J (pc) lv (.int i :: .ref (G.2.1 a) :: st) := fun H locs ls hP hS hl => va_lald C.1.1 C.1.2.1 C.2.1 hP a 2 (wd_atJ G V I J ha.2.1 ha.1 ha.2.2) (w_kJ a ha.2.2) hi hd (k H locs ls hP hS hl)
theorem g_aald (C : Cx K G own cc nL) (a : Nat) (ha : 8 ≤ a ∧ a < 81 ∧ wKd a = 3) {i : Int32} (hi : vp_in i (wLn a)) (hd : decode cc pc = .ok (.aaload, 1)) (k : WW K G cells slots Q V I J (pc + 1) lv (.ref (G.2.1 (wBs a + i.toNatClampNeg)) :: st)) : WW K G cells slots Q V I J (pc) lv (.int i :: .ref (G.2.1 a) :: st) := fun H locs ls hP hS hl => by
  have hlt : i.toNatClampNeg < wLn a := Nat.not_le.mp fun q => hi (Or.inr q)
  have h1 := hP a _ (wd_atQ G V I J ha.2.1 ha.1 ha.2.2)
  exact W.aald (v := .ref (G.2.1 (wBs a + i.toNatClampNeg))) (ty := .array .int) C.1.1 C.1.2.1 h1 ((C.2.1.2 3 _ (w_kQ a ha.2.2)).1 (wLn a) (fun j => va_rf (if j < wLn a then some (G.2.1 (wBs a + j)) else none))) rfl (fun q => by cases q) (by show ¬ (i < 0 ∨ (arrV _ _ _).slots.size ≤ _); rw [arrV_size]; exact hi) (by show (arrV _ _ _).slots[_]? = _; rw [arrV_read _ _ hlt]; show some (va_rf (if _ then _ else _)) = _; rw [if_pos hlt]; rfl) rfl rfl hd (k H locs ls hP hS hl)
theorem g_iast (C : Cx K G own cc nL) (a : Nat) (ha : 8 ≤ a ∧ a < 81 ∧ wKd a = 0) {i : Int32} {x : Int32} (hi : vp_in i (wLn a)) (hd : decode cc pc = .ok (.iastore, 1)) (k : WW K G cells slots Q V (uI I a (upd (I a) i.toNatClampNeg x)) J (pc + 1) lv (st)) : WW K G cells slots Q V I J (pc) lv (.int x :: .int i :: .ref (G.2.1 a) :: st) := fun H locs ls hP hS hl => va_iast C.1.1 C.1.2.1 C.2.1 hP (C.2.2.1 V I J) hS a 0 (wd_atI G V I J ha.2.1 ha.1 (by rw [ha.2.2]; decide) (by rw [ha.2.2]; decide)) (w_k2 a ha.2.2) hi hd (fun H1 locs1 hP1 _ hS1 => k H1 locs1 ls (by rw [wd_setI ha.2.1 ha.1 (by rw [ha.2.2]; decide) (by rw [ha.2.2]; decide)] at hP1; exact hP1) hS1 hl)
theorem g_zast (C : Cx K G own cc nL) (a : Nat) (ha : 8 ≤ a ∧ a < 81 ∧ wKd a = 1) {i : Int32} {x : Int32} (hi : vp_in i (wLn a)) (hx : vp_nar .boolean x = x) (hd : decode cc pc = .ok (.bastore, 1)) (k : WW K G cells slots Q V (uI I a (upd (I a) i.toNatClampNeg x)) J (pc + 1) lv (st)) : WW K G cells slots Q V I J (pc) lv (.int x :: .int i :: .ref (G.2.1 a) :: st) := fun H locs ls hP hS hl => va_zast C.1.1 C.1.2.1 C.2.1 hP (C.2.2.1 V I J) hS a 1 (wd_atI G V I J ha.2.1 ha.1 (by rw [ha.2.2]; decide) (by rw [ha.2.2]; decide)) (w_k1 a ha.2.2) hi hd (fun H1 locs1 hP1 _ hS1 => k H1 locs1 ls (by rw [hx, wd_setI ha.2.1 ha.1 (by rw [ha.2.2]; decide) (by rw [ha.2.2]; decide)] at hP1; exact hP1) hS1 hl)
theorem g_last (C : Cx K G own cc nL) (a : Nat) (ha : 8 ≤ a ∧ a < 81 ∧ wKd a = 2) {i : Int32} {x : Int64} (hi : vp_in i (wLn a)) (hd : decode cc pc = .ok (.lastore, 1)) (k : WW K G cells slots Q V I (uJ J a (vp_updL (J a) i.toNatClampNeg x)) (pc + 1) lv (st)) : WW K G cells slots Q V I J (pc) lv (.long x :: .int i :: .ref (G.2.1 a) :: st) := fun H locs ls hP hS hl => va_last C.1.1 C.1.2.1 C.2.1 hP (C.2.2.1 V I J) hS a 2 (wd_atJ G V I J ha.2.1 ha.1 ha.2.2) (w_kJ a ha.2.2) hi hd (fun H1 locs1 hP1 _ hS1 => k H1 locs1 ls (by rw [wd_setJ ha.2.1 ha.1 ha.2.2] at hP1; exact hP1) hS1 hl)
theorem g_widen {k9 n9 : Nat} (h1 : cells ≤ k9) (h2 : slots ≤ n9) (k : WW K G k9 n9 Q V I J pc lv st) : WW K G cells slots Q V I J pc lv st := fun H locs ls hP hS hl => W.widen h1 h2 (k H locs ls hP hS hl)
theorem g_at {pc2 : Nat} {lv2 : List (Nat × Value)} {st2 : List Value} (h1 : pc = pc2) (h2 : lv = lv2) (h3 : st = st2) (k : WW K G cells slots Q V I J pc2 lv2 st2) : WW K G cells slots Q V I J pc lv st := by subst h1; subst h2; subst h3; exact k
theorem g_lv {lv2 : List (Nat × Value)} (ps : List Nat) (h : lv_pick lv ps = lv2) (k : WW K G cells slots Q V I J pc lv2 st) : WW K G cells slots Q V I J pc lv st := fun H locs ls hP hS hl => k H locs ls hP hS (lv_sub hl ps h)
theorem g_min (C : Cx K G own cc nL) {index : Nat} {x y : Int32} (h1 : Cond.methodLink own index Lib.Math.min.name ∈ TT) (h2 : Cond.static Lib.Math.min.name ∈ TT) (h3 : Cond.initialized "java/lang/Math" ∈ TT) (h4 : Cond.code Lib.Math.min.name Lib.Math.min.code 2 (some .int) ∈ TT) (hf : 1 ≤ (kR K).frames) (hlo : (st.map fun v => v.category).sum + 13 ≤ (kR K).locals) (hc : cells ≤ (kR K).cells) (hs : slots ≤ (kR K).slots) (hd : decode cc pc = .ok (.invokestatic index, 3)) (k : WW K G cells slots Q V I J (pc + 3) lv (.int (if y < x then y else x) :: st)) : WW K G cells slots Q V I J (pc) lv (.int y :: .int x :: st) := fun H locs ls hP hS hl =>
  va_mmin C.1.1 C.1.2.1 hl.1.symm C.1.2.2.2.1 (C.1.2.2.2.2 _ h1) (C.1.2.2.2.2 _ h2) (C.1.2.2.2.2 _ h3) (C.1.2.2.2.2 _ h4) hf hlo hc hs hd (k H locs ls hP hS hl)
theorem g_iret (C : Cx K G own cc nL) {rm : Room} {post : wPo} {xp : wPx} {v : Int32}  (hr : (kt K).sig.returnType = some .int) (hd : decode cc pc = .ok (.ireturn, 1)) (hc : cells ≤ rm.cells) (hs : slots ≤ rm.slots) (hp : post (some (.int v)) V I J) : WW K G cells slots (QM K G rm post xp) V I J pc lv [.int v] := fun H locs ls hP hS hl => vx_ret (W.widen hc hs (W.iret C.1.1 C.1.2.1 hr (fun t ht _ => ⟨⟨_, V, I, J, rfl, hp, by rw [ht]; exact hP⟩, hS.F ht⟩) hS.2.2 hd C.2.2.2.2.1))
theorem g_zret (C : Cx K G own cc nL) {rm : Room} {post : wPo} {xp : wPx} {v : Int32} (hz : v = 0 ∨ v = 1) (hr : (kt K).sig.returnType = some .boolean) (hd : decode cc pc = .ok (.ireturn, 1)) (hc : cells ≤ rm.cells) (hs : slots ≤ rm.slots) (hp : post (some (.int v)) V I J) : WW K G cells slots (QM K G rm post xp) V I J pc lv [.int v] := fun H locs ls hP hS hl => vx_ret (W.widen hc hs (W.zret C.1.1 C.1.2.1 hr (by rcases hz with rfl | rfl <;> rfl) (fun t ht _ => ⟨⟨_, V, I, J, rfl, hp, by rw [ht]; exact hP⟩, hS.F ht⟩) hS.2.2 hd C.2.2.2.2.1))
theorem g_lret (C : Cx K G own cc nL) {rm : Room} {post : wPo} {xp : wPx} {v : Int64}  (hr : (kt K).sig.returnType = some .long) (hd : decode cc pc = .ok (.lreturn, 1)) (hc : cells ≤ rm.cells) (hs : slots ≤ rm.slots) (hp : post (some (.long v)) V I J) : WW K G cells slots (QM K G rm post xp) V I J pc lv [.long v] := fun H locs ls hP hS hl => vx_ret (W.widen hc hs (W.lret C.1.1 C.1.2.1 hr (fun t ht _ => ⟨⟨_, V, I, J, rfl, hp, by rw [ht]; exact hP⟩, hS.F ht⟩) hS.2.2 hd C.2.2.2.2.1))
theorem g_vret (C : Cx K G own cc nL) {rm : Room} {post : wPo} {xp : wPx}   (hr : (kt K).sig.returnType = none) (hd : decode cc pc = .ok (.return_, 1)) (hc : cells ≤ rm.cells) (hs : slots ≤ rm.slots) (hp : post none V I J) : WW K G cells slots (QM K G rm post xp) V I J pc lv [] := fun H locs ls hP hS hl => vx_ret (W.widen hc hs (W.vret C.1.1 C.1.2.1 hr (fun t ht _ => ⟨⟨_, V, I, J, rfl, hp, by rw [ht]; exact hP⟩, hS.F ht⟩) hS.2.2 hd C.2.2.2.2.1))
end GR
end
section
theorem gi_c {w : Cond} (h : w ∈ TT) : GoodIn TT (w :: TT) := fun z hz => (List.mem_cons.mp hz).elim (fun e => by rw [e]; exact ⟨h, tt_good h⟩) (fun h2 => ⟨h2, tt_good h2⟩)
theorem gi_app {a b : List Cond} (ha : ∀ w ∈ a, w ∈ TT) (hb : GoodIn TT b) : GoodIn TT (a ++ b) := fun w h => (List.mem_append.mp h).elim (fun q => ⟨ha w q, tt_good (ha w q)⟩) (hb w)
theorem fa_3 {p : Cond → Prop} {a b c : Cond} (h1 : p a) (h2 : p b) (h3 : p c) : ∀ w ∈ [a, b, c], p w := List.forall_mem_cons.mpr ⟨h1, List.forall_mem_cons.mpr ⟨h2, List.forall_mem_cons.mpr ⟨h3, fun _ h => absurd h List.not_mem_nil⟩⟩⟩
theorem fa_4 {p : Cond → Prop} {a b c d : Cond} (h1 : p a) (h2 : p b) (h3 : p c) (h4 : p d) : ∀ w ∈ [a, b, c, d], p w := List.forall_mem_cons.mpr ⟨h1, fa_3 h2 h3 h4⟩
section GC
variable {K : wK} {G : wG} {cells slots : Nat} {Q : State → Prop} {V : wV} {I : wI} {J : wJ} {pc : Nat} {lv : List (Nat × Value)} {st stk : List Value} {own : String} {cc : ByteArray} {nL : Nat}
variable {y : MethodName} {bytes : ByteArray} {maxL index : Nat} {ret : Option FieldType} {rm : Room} {As : List Value} {post : wPo} {xp : wPx} {ci N o : Nat} {Cn : String} {T : u_T} {fs : List Value}

/-- an instance method of object o is called -/
theorem g_callV (C : Cx K G own cc nL) (As : List Value) (o : Nat) (hM : Ctr (kl K) y bytes maxL ret rm G (.ref (G.2.1 o) :: As) V I J post xp) (hstk : stk = As.reverse ++ .ref (G.2.1 o) :: st) (ho : o < 81) (he : wEnt G V I J o = .inr (ci, fs)) (hc : vwCl[ci]? = some (Cn, T, N)) (hC : y.cls = Cn)
    (w1 : Cond.methodLink own index y ∈ TT) (w2 : Cond.instanceMethod y ∈ TT) (w3 : Cond.selects y.cls y y ∈ TT) (w4 : Cond.initialized y.cls ∈ TT) (w5 : Cond.code y bytes maxL ret ∈ TT) (hdd : y.cls ≠ "java/lang/invoke/MethodHandle" ∧ y.cls ≠ "java/lang/invoke/VarHandle" ∧ (parseMethodDescriptor y.desc).map (fun d => d.parameters.length) = some As.length)
    (hR : rm.frames + 1 ≤ (kR K).frames ∧ 8 + (maxL + 11) + rm.locals ≤ (kR K).locals) (hcat : (st.map fun v => v.category).sum ≤ 8) (hf : cells + rm.cells ≤ (kR K).cells ∧ slots + rm.slots ≤ (kR K).slots) (hd : decode cc pc = .ok (.invokevirtual index, 3))
    (kx : ∀ E V' I' J', xp E V' I' J' → XW K G (cells + rm.cells) (slots + rm.slots) Q V' I' J' pc lv E)
    (kk : ∀ r V' I' J', post r V' I' J' → WW K G (cells + rm.cells) (slots + rm.slots) Q V' I' J' (pc + 3) lv (r.toList ++ st)) : WW K G cells slots Q V I J pc lv stk := by
  subst hstk
  intro H locs ls hP hS hl
  have cw : CallW (kR K) (ks K) (ka K) own y.cls index y bytes maxL ret (Cond.code y bytes maxL ret :: TT) rm rm.cells rm.slots As.length := cwV As.length C.1.2.2.2.2 (gi_app (a := [.methodLink own index y, .instanceMethod y, .selects y.cls y y, .initialized y.cls]) (fa_4 w1 w2 w3 w4) (gi_c w5)) rfl rfl rfl ⟨rfl, hdd⟩ hR
  have hrv := va_recv (q0 := o) C.2.1 hP hc ((wd_at G V I J ho).trans (congrArg (fun e => some (G.2.1 o, e)) he))
  rw [show ((Cn, T, N) : vw_C).1 = y.cls from hC.symm] at hrv
  have hr := vx_runV (e := ke K) (below := kb K) (meth := kt K) (H := H) (locs := locs) (cells := cells) (slots := slots) (rest := st) (g := F0 (km K) pc ls (As.reverse ++ .ref (G.2.1 o) :: st)) (b := G.2.1 o) C.1 hM cw ⟨cP_blind, hrv, fun U hU hW => ⟨rfl, by rw [hU]; exact hP, va_K.moved hW.alike C.2.1, by rw [hU]; exact Nat.le_trans C.2.2.2.1 hS.1, wX.warm hW (by rw [hU]; exact wX.kept C.2.2.2.2.2.1 hS.2.1)⟩⟩ rfl rfl (hl.1.trans C.1.2.2.1) rfl (lv_room hcat) hd hf
  intro T9 hT X
  rcases hr T9 hT X with ⟨v, st₀, t, T', L, h0, X', hL, e1, e2, ⟨⟨r, V', I', J', hv, hp, hb⟩, hF⟩, sg⟩ | ⟨q, st₀, t, T', L, E, ce, h0, X', hL, e1, e2, ⟨⟨V', I', J', hp, hb⟩, hF⟩, hce, hcv, hcl, sg⟩
  · cases hv
    obtain ⟨k1, k2, k3⟩ := vx_keep (A1 := wA G) h0 e1 hS (fun q _ h => h) (fun q h => h) hL hF
    obtain ⟨t2, a1, b1⟩ := kk v V' I' J' hp T'.heap (locs ++ L) ls (by rw [e1]; exact hb) k3 hl T' rfl X'
    exact ⟨t2, sg t2 a1, b1⟩
  · obtain ⟨k1, k2, k3⟩ := vx_keep (A1 := wA G) h0 e1 hS (fun q _ h => h) (fun q h => h) hL hF
    obtain ⟨t2, a1, b1⟩ := kx E V' I' J' hp T'.heap (locs ++ L) ls q ce st (by rw [e1]; exact hb) k3 hl (by rw [e1]; exact hce) hcv hcl T' rfl X'
    exact ⟨t2, sg.trans a1, b1⟩
/-- a static method of the same class is called -/
theorem g_callS (C : Cx K G own cc nL) (As : List Value) (hM : Ctr (kl K) y bytes maxL ret rm G As V I J post xp) (hstk : stk = As.reverse ++ st) (hC : y.cls = own)
    (w1 : Cond.methodLink own index y ∈ TT) (w2 : Cond.static y ∈ TT) (w4 : Cond.initialized own ∈ TT) (w5 : Cond.code y bytes maxL ret ∈ TT) (hdd : y.cls ≠ "java/lang/invoke/MethodHandle" ∧ y.cls ≠ "java/lang/invoke/VarHandle" ∧ (parseMethodDescriptor y.desc).map (fun d => d.parameters.length) = some As.length)
    (hR : rm.frames + 1 ≤ (kR K).frames ∧ 8 + (maxL + 11) + rm.locals ≤ (kR K).locals) (hcat : (st.map fun v => v.category).sum ≤ 8) (hf : cells + rm.cells ≤ (kR K).cells ∧ slots + rm.slots ≤ (kR K).slots) (hd : decode cc pc = .ok (.invokestatic index, 3))
    (kx : ∀ E V' I' J', xp E V' I' J' → XW K G (cells + rm.cells) (slots + rm.slots) Q V' I' J' pc lv E)
    (kk : ∀ r V' I' J', post r V' I' J' → WW K G (cells + rm.cells) (slots + rm.slots) Q V' I' J' (pc + 3) lv (r.toList ++ st)) : WW K G cells slots Q V I J pc lv stk := by
  subst hstk
  intro H locs ls hP hS hl
  have cw : CallB (kR K) (ks K) (ka K) own index y bytes maxL ret (Cond.code y bytes maxL ret :: TT) rm rm.cells rm.slots As.length ∧ (Cond.static y).before (ka K) (ks K) = true := cwS As.length C.1.2.2.2.2 (gi_app (a := [.methodLink own index y, .static y, .initialized own]) (fa_3 w1 w2 w4) (gi_c w5)) rfl rfl rfl ⟨hC, hdd⟩ hR
  have hr := vx_runS (e := ke K) (below := kb K) (meth := kt K) (H := H) (locs := locs) (cells := cells) (slots := slots) (rest := st) (g := F0 (km K) pc ls (As.reverse ++ st)) C.1 hM cw ⟨cP_blind, fun U hU hW => ⟨rfl, by rw [hU]; exact hP, va_K.moved hW.alike C.2.1, by rw [hU]; exact Nat.le_trans C.2.2.2.1 hS.1, wX.warm hW (by rw [hU]; exact wX.kept C.2.2.2.2.2.1 hS.2.1)⟩⟩ rfl rfl (hl.1.trans C.1.2.2.1) rfl (lv_room hcat) hd hf
  intro T9 hT X
  rcases hr T9 hT X with ⟨v, st₀, t, T', L, h0, X', hL, e1, e2, ⟨⟨r, V', I', J', hv, hp, hb⟩, hF⟩, sg⟩ | ⟨q, st₀, t, T', L, E, ce, h0, X', hL, e1, e2, ⟨⟨V', I', J', hp, hb⟩, hF⟩, hce, hcv, hcl, sg⟩
  · cases hv
    obtain ⟨k1, k2, k3⟩ := vx_keep (A1 := wA G) h0 e1 hS (fun q _ h => h) (fun q h => h) hL hF
    obtain ⟨t2, a1, b1⟩ := kk v V' I' J' hp T'.heap (locs ++ L) ls (by rw [e1]; exact hb) k3 hl T' rfl X'
    exact ⟨t2, sg t2 a1, b1⟩
  · obtain ⟨k1, k2, k3⟩ := vx_keep (A1 := wA G) h0 e1 hS (fun q _ h => h) (fun q h => h) hL hF
    obtain ⟨t2, a1, b1⟩ := kx E V' I' J' hp T'.heap (locs ++ L) ls q ce st (by rw [e1]; exact hb) k3 hl (by rw [e1]; exact hce) hcv hcl T' rfl X'
    exact ⟨t2, sg.trans a1, b1⟩
/-- a static method with a table of its own is called -/
theorem g_callX {hh : List (Nat × Nat × Nat × Nat)} (C : Cx K G own cc nL) (As : List Value) (hM : vx_Met (kl K) y (Cond.codeWith y bytes maxL ret hh :: TT) rm (cP G As V I J) (cQ G post) (cX G xp) rm.cells rm.slots (wA G)) (hstk : stk = As.reverse ++ st)
    (w1 : Cond.methodLink own index y ∈ TT) (w2 : Cond.static y ∈ TT) (w4 : Cond.initialized y.cls ∈ TT) (w5 : Cond.codeWith y bytes maxL ret hh ∈ TT) (hdd : y.cls ≠ "java/lang/invoke/MethodHandle" ∧ y.cls ≠ "java/lang/invoke/VarHandle" ∧ (parseMethodDescriptor y.desc).map (fun d => d.parameters.length) = some As.length)
    (hR : rm.frames + 1 ≤ (kR K).frames ∧ 8 + (maxL + 11) + rm.locals ≤ (kR K).locals) (hcat : (st.map fun v => v.category).sum ≤ 8) (hf : cells + rm.cells ≤ (kR K).cells ∧ slots + rm.slots ≤ (kR K).slots) (hd : decode cc pc = .ok (.invokestatic index, 3))
    (kx : ∀ E V' I' J', xp E V' I' J' → XW K G (cells + rm.cells) (slots + rm.slots) Q V' I' J' pc lv E)
    (kk : ∀ r V' I' J', post r V' I' J' → WW K G (cells + rm.cells) (slots + rm.slots) Q V' I' J' (pc + 3) lv (r.toList ++ st)) : WW K G cells slots Q V I J pc lv stk := by
  subst hstk
  intro H locs ls hP hS hl
  have cw : vx_CSW (kR K) (ks K) (ka K) own index y bytes maxL ret hh (Cond.codeWith y bytes maxL ret hh :: TT) rm rm.cells rm.slots As.length := vx_cwSW As.length C.1.2.2.2.2 (gi_app (a := [.methodLink own index y, .static y, .initialized y.cls]) (fa_3 w1 w2 w4) (gi_c w5)) rfl rfl rfl hdd hR
  have hr := vx_runSX (e := ke K) (below := kb K) (meth := kt K) (H := H) (locs := locs) (cells := cells) (slots := slots) (rest := st) (g := F0 (km K) pc ls (As.reverse ++ st)) C.1 hM cw ⟨cP_blind, fun U hU hW => ⟨rfl, by rw [hU]; exact hP, va_K.moved hW.alike C.2.1, by rw [hU]; exact Nat.le_trans C.2.2.2.1 hS.1, wX.warm hW (by rw [hU]; exact wX.kept C.2.2.2.2.2.1 hS.2.1)⟩⟩ rfl rfl (hl.1.trans C.1.2.2.1) rfl (lv_room hcat) hd hf
  intro T9 hT X
  rcases hr T9 hT X with ⟨v, st₀, t, T', L, h0, X', hL, e1, e2, ⟨⟨r, V', I', J', hv, hp, hb⟩, hF⟩, sg⟩ | ⟨q, st₀, t, T', L, E, ce, h0, X', hL, e1, e2, ⟨⟨V', I', J', hp, hb⟩, hF⟩, hce, hcv, hcl, sg⟩
  · cases hv
    obtain ⟨k1, k2, k3⟩ := vx_keep (A1 := wA G) h0 e1 hS (fun q _ h => h) (fun q h => h) hL hF
    obtain ⟨t2, a1, b1⟩ := kk v V' I' J' hp T'.heap (locs ++ L) ls (by rw [e1]; exact hb) k3 hl T' rfl X'
    exact ⟨t2, sg t2 a1, b1⟩
  · obtain ⟨k1, k2, k3⟩ := vx_keep (A1 := wA G) h0 e1 hS (fun q _ h => h) (fun q h => h) hL hF
    obtain ⟨t2, a1, b1⟩ := kx E V' I' J' hp T'.heap (locs ++ L) ls q ce st (by rw [e1]; exact hb) k3 hl (by rw [e1]; exact hce) hcv hcl T' rfl X'
    exact ⟨t2, sg.trans a1, b1⟩
/-- a throw of a callee goes on to the caller -/
theorem g_out {rm' : Room} {post' : wPo} {xp' : wPx} {E : String} (C : Cx K G own cc nL) (hT : ∀ x ∈ (kc K).exceptionTable.toList, False) (hc : cells ≤ rm'.cells) (hs : slots ≤ rm'.slots) (hx : xp' E V I J) : XW K G cells slots (QM K G rm' post' xp') V I J pc lv E :=
  fun H locs ls q ce rest hP hS hl h1 h2 h3 => vx_out (fun x hx9 => (hT x hx9).elim) C.2.2.2.2.1 h1 h2 h3 (fun t ht _ => ⟨⟨V, I, J, hx, by rw [ht]; exact hP⟩, hS.F ht⟩) hS.2.2 hc hs
/-- a handler takes it -/
theorem g_catch {E : String} (C : Cx K G own cc nL) (pre : List ExceptionTableEntry) (x : ExceptionTableEntry) (suf : List ExceptionTableEntry) (hsplit : (kc K).exceptionTable.toList = pre ++ x :: suf) (hE : E ∈ wExc)
    (hpass : ∀ z ∈ pre, z.catchType ≠ 0 ∧ ∃ nm : String, Cond.classLink own z.catchType nm ∈ TT ∧ nm ∈ wExc ∧ E ≠ nm) (hx : covers x pc = true) (h0 : x.catchType ≠ 0) (hlink : Cond.classLink own x.catchType E ∈ TT)
    (k : ∀ q : Nat, WW K G cells slots Q V I J x.handlerPc lv [.ref q]) : XW K G cells slots Q V I J pc lv E :=
  fun H locs ls q ce rest hP hS hl h1 h2 h3 => vx_catch C.1.2.2.2.1 pre x suf hsplit (fun z hz => by
    obtain ⟨z0, nm, hl1, hn, hne⟩ := hpass z hz
    exact Or.inr ⟨z0, nm, C.1.2.2.2.2 _ hl1, C.2.2.2.2.2.1.2.2.2.2.2.1 E hE nm hn hne⟩) hx h0 (C.1.2.2.2.2 _ hlink) (va_Nw.use rfl (C.2.2.2.2.2.1.2.2.2.2.1 E hE)) h1 h2 h3 (k q H locs ls hP hS hl)
/-- the body of a method with a table -/
theorem ctrX_of {l : Launch} {hh : List (Nat × Nat × Nat × Nat)} {av : List Value} (hl : l.stackTraces = false) (hG : wD G) (hy : plainName y.cls = true) (hn : (lg_sl av).length ≤ maxL) (lv : List (Nat × Value)) (hlv : lv_args 0 av = lv)
    (body : ∀ K : wK, Cx K G y.cls bytes maxL → kl K = l → kR K = rm → (kt K).sig.returnType = ret → (kc K).exceptionTable.toList = tableOf hh → WW K G 0 0 (QM K G rm post xp) V I J 0 lv []) : vx_Met l y (Cond.codeWith y bytes maxL ret hh :: TT) rm (cP G av V I J) (cQ G post) (cX G xp) rm.cells rm.slots (wA G) := by
  refine vx_ofWH (cc := bytes) (maxL := maxL) (ret := ret) (hh := hh) hy rfl ?_
  intro p e s m args below meth c s₁ B hml hv
  obtain ⟨rfl, hP, hK, hN, hX⟩ := hv
  have hts := atoms_spec (ws := Cond.codeWith y bytes maxL ret hh :: TT) B.pre
  have h := body (p, l, e, rm, s, m, av.toArray, below, meth, c) ⟨⟨B.exec, B.bytes, hml, findClass_of_methodNamed B.named, fun w hw => hts w (List.mem_cons_of_mem _ hw)⟩, hK, hG, hN, B.notSynchronized, hX, hl⟩ rfl rfl B.returns (vx_table (x := y) B (hts _ List.mem_cons_self))
  rw [lg_entry_eq]
  refine h s.heap [] _ hP va_S.rf ?_
  subst hlv
  show lv_has _ c.maxLocals _
  rw [hml]
  exact lv_entry av hn
end GC
set_option maxRecDepth 20000 in
theorem hat_ISE {K : wK} {G : wG} {own : String} {cc : ByteArray} {nL : Nat} (C : Cx K G own cc nL) : ∀ w ∈ vx_atS RX6 62 "java/lang/IllegalStateException" ["java/lang/RuntimeException", "java/lang/Exception"], w.before (ka K) (ks K) = true := by
  have h : ∀ w ∈ Bundle.ownAtoms RX6 62 "java/lang/IllegalStateException" ["java/lang/RuntimeException", "java/lang/Exception"], vx_no w = true → w.before (ka K) (ks K) = true := (List.forall_mem_cons.mpr ⟨fun _ => C.1.2.2.2.2 _ (tt_of 39 rfl rfl), (List.forall_mem_cons.mpr ⟨fun _ => C.1.2.2.2.2 _ (tt_of 396 rfl rfl), (List.forall_mem_cons.mpr ⟨fun _ => C.1.2.2.2.2 _ (tt_of 405 rfl rfl), (List.forall_mem_cons.mpr ⟨fun _ => C.1.2.2.2.2 _ (tt_of 409 rfl rfl), (List.forall_mem_cons.mpr ⟨fun _ => C.1.2.2.2.2 _ (tt_of 412 rfl rfl), (List.forall_mem_cons.mpr ⟨fun _ => C.1.2.2.2.2 _ (tt_of 414 rfl rfl), (List.forall_mem_cons.mpr ⟨fun _ => C.1.2.2.2.2 _ (tt_of 397 rfl rfl), (List.forall_mem_cons.mpr ⟨fun _ => C.1.2.2.2.2 _ (tt_of 398 rfl rfl), (List.forall_mem_cons.mpr ⟨fun _ => C.1.2.2.2.2 _ (tt_of 52 rfl rfl), (List.forall_mem_cons.mpr ⟨fun _ => C.1.2.2.2.2 _ (tt_of 53 rfl rfl), (List.forall_mem_cons.mpr ⟨fun _ => C.1.2.2.2.2 _ (tt_of 399 rfl rfl), (List.forall_mem_cons.mpr ⟨fun _ => C.1.2.2.2.2 _ (tt_of 404 rfl rfl), (List.forall_mem_cons.mpr ⟨fun _ => C.1.2.2.2.2 _ (tt_of 410 rfl rfl), (List.forall_mem_cons.mpr ⟨fun _ => C.1.2.2.2.2 _ (tt_of 430 rfl rfl), (List.forall_mem_cons.mpr ⟨fun _ => C.1.2.2.2.2 _ (tt_of 386 rfl rfl), (List.forall_mem_cons.mpr ⟨fun _ => C.1.2.2.2.2 _ (tt_of 431 rfl rfl), (List.forall_mem_cons.mpr ⟨fun _ => C.1.2.2.2.2 _ (tt_of 388 rfl rfl), (List.forall_mem_cons.mpr ⟨fun _ => C.1.2.2.2.2 _ (tt_of 432 rfl rfl), (List.forall_mem_cons.mpr ⟨fun _ => C.1.2.2.2.2 _ (tt_of 390 rfl rfl), (List.forall_mem_cons.mpr ⟨fun _ => C.1.2.2.2.2 _ (tt_of 400 rfl rfl), (List.forall_mem_cons.mpr ⟨fun h => absurd h (by decide +kernel), (List.forall_mem_cons.mpr ⟨fun _ => C.1.2.2.2.2 _ (tt_of 402 rfl rfl), (List.forall_mem_cons.mpr ⟨fun h => absurd h (by decide +kernel), (List.forall_mem_cons.mpr ⟨fun _ => C.1.2.2.2.2 _ (tt_of 392 rfl rfl), (List.forall_mem_cons.mpr ⟨fun _ => C.1.2.2.2.2 _ (tt_of 426 rfl rfl), (List.forall_mem_cons.mpr ⟨fun _ => C.1.2.2.2.2 _ (tt_of 427 rfl rfl), (List.forall_mem_cons.mpr ⟨fun _ => C.1.2.2.2.2 _ (tt_of 429 rfl rfl), (List.forall_mem_cons.mpr ⟨fun _ => C.1.2.2.2.2 _ (tt_of 392 rfl rfl), (List.forall_mem_cons.mpr ⟨fun _ => C.1.2.2.2.2 _ (tt_of 417 rfl rfl), (List.forall_mem_cons.mpr ⟨fun _ => C.1.2.2.2.2 _ (tt_of 418 rfl rfl), (List.forall_mem_cons.mpr ⟨fun _ => C.1.2.2.2.2 _ (tt_of 419 rfl rfl), (List.forall_mem_cons.mpr ⟨fun _ => C.1.2.2.2.2 _ (tt_of 420 rfl rfl), (List.forall_mem_cons.mpr ⟨fun _ => va_Nw.use rfl (C.2.2.2.2.2.1.2.2.2.2.2.2 _ (List.mem_of_getElem? (i := 0) rfl)), (List.forall_mem_cons.mpr ⟨fun _ => C.1.2.2.2.2 _ (tt_of 420 rfl rfl), (List.forall_mem_cons.mpr ⟨fun _ => C.1.2.2.2.2 _ (tt_of 421 rfl rfl), (List.forall_mem_cons.mpr ⟨fun _ => C.1.2.2.2.2 _ (tt_of 422 rfl rfl), (List.forall_mem_cons.mpr ⟨fun _ => C.1.2.2.2.2 _ (tt_of 423 rfl rfl), (List.forall_mem_cons.mpr ⟨fun _ => va_Nw.use rfl (C.2.2.2.2.2.1.2.2.2.2.2.2 _ (List.mem_of_getElem? (i := 1) rfl)), (List.forall_mem_cons.mpr ⟨fun _ => C.1.2.2.2.2 _ (tt_of 423 rfl rfl), (List.forall_mem_cons.mpr ⟨fun _ => C.1.2.2.2.2 _ (tt_of 424 rfl rfl), (List.forall_mem_cons.mpr ⟨fun _ => C.1.2.2.2.2 _ (tt_of 425 rfl rfl), (List.forall_mem_cons.mpr ⟨fun _ => C.1.2.2.2.2 _ (tt_of 426 rfl rfl), (List.forall_mem_cons.mpr ⟨fun _ => va_Nw.use rfl (C.2.2.2.2.2.1.2.2.2.2.2.2 _ (List.mem_of_getElem? (i := 2) rfl)), (List.forall_mem_cons.mpr ⟨fun _ => C.1.2.2.2.2 _ (tt_of 416 rfl rfl), (List.forall_mem_cons.mpr ⟨fun _ => C.1.2.2.2.2 _ (tt_of 375 rfl rfl), (List.forall_mem_cons.mpr ⟨fun _ => va_Nw.use rfl (C.2.2.2.2.2.1.2.2.2.2.1 _ (List.mem_of_getElem? (i := 0) rfl)), (List.forall_mem_cons.mpr ⟨fun _ => C.1.2.2.2.2 _ (tt_of 383 rfl rfl), (List.forall_mem_cons.mpr ⟨fun _ => C.1.2.2.2.2 _ (tt_of 384 rfl rfl), (List.forall_mem_cons.mpr ⟨fun _ => C.1.2.2.2.2 _ (tt_of 385 rfl rfl), (List.forall_mem_cons.mpr ⟨fun _ => C.1.2.2.2.2 _ (tt_of 387 rfl rfl), (List.forall_mem_cons.mpr ⟨fun _ => C.1.2.2.2.2 _ (tt_of 389 rfl rfl), (List.forall_mem_cons.mpr ⟨fun _ => C.1.2.2.2.2 _ (tt_of 391 rfl rfl), (List.forall_mem_cons.mpr ⟨fun h => absurd h (by decide +kernel), (List.forall_mem_cons.mpr ⟨fun h => absurd h (by decide +kernel), (List.forall_mem_cons.mpr ⟨fun _ => C.1.2.2.2.2 _ (tt_of 395 rfl rfl), (List.forall_mem_cons.mpr ⟨fun _ => C.1.2.2.2.2 _ (tt_of 394 rfl rfl), (List.forall_mem_cons.mpr ⟨fun _ => C.1.2.2.2.2 _ (tt_of 393 rfl rfl), (fun _ h => absurd h List.not_mem_nil)⟩)⟩)⟩)⟩)⟩)⟩)⟩)⟩)⟩)⟩)⟩)⟩)⟩)⟩)⟩)⟩)⟩)⟩)⟩)⟩)⟩)⟩)⟩)⟩)⟩)⟩)⟩)⟩)⟩)⟩)⟩)⟩)⟩)⟩)⟩)⟩)⟩)⟩)⟩)⟩)⟩)⟩)⟩)⟩)⟩)⟩)⟩)⟩)⟩)⟩)⟩)⟩)⟩)⟩)⟩)⟩)⟩)
  intro w hw
  obtain ⟨h1, h2⟩ := List.mem_filter.mp hw
  exact h w h1 h2
set_option maxRecDepth 20000 in
theorem hgood_ISE : ∀ w ∈ Cond.classLink RX6 58 "java/lang/IllegalStateException" :: Cond.initialized "java/lang/IllegalStateException" :: vx_atS RX6 62 "java/lang/IllegalStateException" ["java/lang/RuntimeException", "java/lang/Exception"], vx_ot w = true := by
  have h : ∀ w ∈ Bundle.ownAtoms RX6 62 "java/lang/IllegalStateException" ["java/lang/RuntimeException", "java/lang/Exception"], vx_no w = true → vx_ot w = true := (List.forall_mem_cons.mpr ⟨fun _ => rfl, (List.forall_mem_cons.mpr ⟨fun _ => rfl, (List.forall_mem_cons.mpr ⟨fun _ => rfl, (List.forall_mem_cons.mpr ⟨fun _ => rfl, (List.forall_mem_cons.mpr ⟨fun _ => rfl, (List.forall_mem_cons.mpr ⟨fun _ => rfl, (List.forall_mem_cons.mpr ⟨fun _ => rfl, (List.forall_mem_cons.mpr ⟨fun _ => rfl, (List.forall_mem_cons.mpr ⟨fun _ => rfl, (List.forall_mem_cons.mpr ⟨fun _ => rfl, (List.forall_mem_cons.mpr ⟨fun _ => rfl, (List.forall_mem_cons.mpr ⟨fun _ => rfl, (List.forall_mem_cons.mpr ⟨fun _ => rfl, (List.forall_mem_cons.mpr ⟨fun _ => rfl, (List.forall_mem_cons.mpr ⟨fun _ => rfl, (List.forall_mem_cons.mpr ⟨fun _ => rfl, (List.forall_mem_cons.mpr ⟨fun _ => rfl, (List.forall_mem_cons.mpr ⟨fun _ => rfl, (List.forall_mem_cons.mpr ⟨fun _ => rfl, (List.forall_mem_cons.mpr ⟨fun _ => rfl, (List.forall_mem_cons.mpr ⟨fun h => absurd h (by decide +kernel), (List.forall_mem_cons.mpr ⟨fun _ => rfl, (List.forall_mem_cons.mpr ⟨fun h => absurd h (by decide +kernel), (List.forall_mem_cons.mpr ⟨fun _ => rfl, (List.forall_mem_cons.mpr ⟨fun _ => rfl, (List.forall_mem_cons.mpr ⟨fun _ => rfl, (List.forall_mem_cons.mpr ⟨fun _ => rfl, (List.forall_mem_cons.mpr ⟨fun _ => rfl, (List.forall_mem_cons.mpr ⟨fun _ => rfl, (List.forall_mem_cons.mpr ⟨fun _ => rfl, (List.forall_mem_cons.mpr ⟨fun _ => rfl, (List.forall_mem_cons.mpr ⟨fun _ => rfl, (List.forall_mem_cons.mpr ⟨fun _ => rfl, (List.forall_mem_cons.mpr ⟨fun _ => rfl, (List.forall_mem_cons.mpr ⟨fun _ => rfl, (List.forall_mem_cons.mpr ⟨fun _ => rfl, (List.forall_mem_cons.mpr ⟨fun _ => rfl, (List.forall_mem_cons.mpr ⟨fun _ => rfl, (List.forall_mem_cons.mpr ⟨fun _ => rfl, (List.forall_mem_cons.mpr ⟨fun _ => rfl, (List.forall_mem_cons.mpr ⟨fun _ => rfl, (List.forall_mem_cons.mpr ⟨fun _ => rfl, (List.forall_mem_cons.mpr ⟨fun _ => rfl, (List.forall_mem_cons.mpr ⟨fun _ => rfl, (List.forall_mem_cons.mpr ⟨fun _ => rfl, (List.forall_mem_cons.mpr ⟨fun _ => rfl, (List.forall_mem_cons.mpr ⟨fun _ => rfl, (List.forall_mem_cons.mpr ⟨fun _ => rfl, (List.forall_mem_cons.mpr ⟨fun _ => rfl, (List.forall_mem_cons.mpr ⟨fun _ => rfl, (List.forall_mem_cons.mpr ⟨fun _ => rfl, (List.forall_mem_cons.mpr ⟨fun _ => rfl, (List.forall_mem_cons.mpr ⟨fun h => absurd h (by decide +kernel), (List.forall_mem_cons.mpr ⟨fun h => absurd h (by decide +kernel), (List.forall_mem_cons.mpr ⟨fun _ => rfl, (List.forall_mem_cons.mpr ⟨fun _ => rfl, (List.forall_mem_cons.mpr ⟨fun _ => rfl, (fun _ h => absurd h List.not_mem_nil)⟩)⟩)⟩)⟩)⟩)⟩)⟩)⟩)⟩)⟩)⟩)⟩)⟩)⟩)⟩)⟩)⟩)⟩)⟩)⟩)⟩)⟩)⟩)⟩)⟩)⟩)⟩)⟩)⟩)⟩)⟩)⟩)⟩)⟩)⟩)⟩)⟩)⟩)⟩)⟩)⟩)⟩)⟩)⟩)⟩)⟩)⟩)⟩)⟩)⟩)⟩)⟩)⟩)⟩)⟩)⟩)⟩)
  refine List.forall_mem_cons.mpr ⟨rfl, List.forall_mem_cons.mpr ⟨rfl, ?_⟩⟩
  intro w hw
  obtain ⟨h1, h2⟩ := List.mem_filter.mp hw
  exact h w h1 h2
/-- 'throw new java/lang/IllegalStateException(text)' -/
theorem g_th_ISE {K : wK} {G : wG} {cells slots : Nat} {V : wV} {I : wI} {J : wJ} {pc : Nat} {lv : List (Nat × Value)} {cc : ByteArray} {nL : Nat} {rm : Room} {post : wPo} {xp : wPx} (C : Cx K G RX6 cc nL) (hT : ∀ x ∈ (kc K).exceptionTable.toList, False) (is : Nat) {text : String} (hs : (is, text) ∈ wStr)
    (d0 : decode cc pc = .ok (.new 58, 3)) (d3 : decode cc (pc + 3) = .ok (.dup, 1)) (d4 : decode cc (pc + 4) = .ok (.ldc is, 2)) (d6 : decode cc (pc + 6) = .ok (.invokespecial 62, 3)) (d9 : decode cc (pc + 9) = .ok (.athrow, 1))
    (hf : 5 < (kR K).frames) (hlo : 82 ≤ (kR K).locals) (hc1 : cells + 1 ≤ (kR K).cells) (hs1 : slots + 6 ≤ (kR K).slots) (hc : cells + 1 ≤ rm.cells) (hsl : slots + 6 ≤ rm.slots) (hx : xp "java/lang/IllegalStateException" V I J) : WW K G cells slots (QM K G rm post xp) V I J pc lv [] := by
  intro H locs ls hP hS hl
  obtain ⟨sa, hsa⟩ := C.2.2.2.2.2.1.2.2.1 _ hs
  exact vx_throwS (ik := 58) (ic := 62) (sa := sa) (names := ["java/lang/RuntimeException", "java/lang/Exception"]) C.1.1 C.1.2.1 C.2.2.2.2.2.2 C.1.2.2.2.1 (by decide +kernel) (by decide +kernel) (C.1.2.2.2.2 _ (tt_of 374 rfl rfl)) (C.1.2.2.2.2 _ (tt_of 42 rfl rfl)) hsa (hat_ISE C) hgood_ISE C.2.2.2.2.2.1.1 C.2.2.2.2.2.1.2.1 hS hl.1 d0 d3 d4 d6 d9 (fun x hx9 => (hT x hx9).elim) hf hlo hc1 hs1 C.2.2.2.2.1
    (fun t _ hz hk => ⟨⟨V, I, J, hx, hP.kept (fun k q hk2 => hk q.1 (hP k q hk2).lt)⟩, ⟨Nat.le_trans hS.1 hz, fun q h1 h2 => by rw [hk q (Nat.lt_of_lt_of_le h1 hS.1)]; exact hS.2.1 q h1 h2⟩⟩) hS.2.2 hc hsl
set_option maxRecDepth 20000 in
theorem hat_IAE {K : wK} {G : wG} {own : String} {cc : ByteArray} {nL : Nat} (C : Cx K G own cc nL) : ∀ w ∈ vx_atS RX6 81 "java/lang/IllegalArgumentException" ["java/lang/RuntimeException", "java/lang/Exception"], w.before (ka K) (ks K) = true := by
  have h : ∀ w ∈ Bundle.ownAtoms RX6 81 "java/lang/IllegalArgumentException" ["java/lang/RuntimeException", "java/lang/Exception"], vx_no w = true → w.before (ka K) (ks K) = true := (List.forall_mem_cons.mpr ⟨fun _ => C.1.2.2.2.2 _ (tt_of 39 rfl rfl), (List.forall_mem_cons.mpr ⟨fun _ => C.1.2.2.2.2 _ (tt_of 396 rfl rfl), (List.forall_mem_cons.mpr ⟨fun _ => C.1.2.2.2.2 _ (tt_of 405 rfl rfl), (List.forall_mem_cons.mpr ⟨fun _ => C.1.2.2.2.2 _ (tt_of 409 rfl rfl), (List.forall_mem_cons.mpr ⟨fun _ => C.1.2.2.2.2 _ (tt_of 412 rfl rfl), (List.forall_mem_cons.mpr ⟨fun _ => C.1.2.2.2.2 _ (tt_of 414 rfl rfl), (List.forall_mem_cons.mpr ⟨fun _ => C.1.2.2.2.2 _ (tt_of 397 rfl rfl), (List.forall_mem_cons.mpr ⟨fun _ => C.1.2.2.2.2 _ (tt_of 398 rfl rfl), (List.forall_mem_cons.mpr ⟨fun _ => C.1.2.2.2.2 _ (tt_of 52 rfl rfl), (List.forall_mem_cons.mpr ⟨fun _ => C.1.2.2.2.2 _ (tt_of 53 rfl rfl), (List.forall_mem_cons.mpr ⟨fun _ => C.1.2.2.2.2 _ (tt_of 399 rfl rfl), (List.forall_mem_cons.mpr ⟨fun _ => C.1.2.2.2.2 _ (tt_of 404 rfl rfl), (List.forall_mem_cons.mpr ⟨fun _ => C.1.2.2.2.2 _ (tt_of 410 rfl rfl), (List.forall_mem_cons.mpr ⟨fun _ => C.1.2.2.2.2 _ (tt_of 430 rfl rfl), (List.forall_mem_cons.mpr ⟨fun _ => C.1.2.2.2.2 _ (tt_of 386 rfl rfl), (List.forall_mem_cons.mpr ⟨fun _ => C.1.2.2.2.2 _ (tt_of 431 rfl rfl), (List.forall_mem_cons.mpr ⟨fun _ => C.1.2.2.2.2 _ (tt_of 388 rfl rfl), (List.forall_mem_cons.mpr ⟨fun _ => C.1.2.2.2.2 _ (tt_of 432 rfl rfl), (List.forall_mem_cons.mpr ⟨fun _ => C.1.2.2.2.2 _ (tt_of 390 rfl rfl), (List.forall_mem_cons.mpr ⟨fun _ => C.1.2.2.2.2 _ (tt_of 400 rfl rfl), (List.forall_mem_cons.mpr ⟨fun h => absurd h (by decide +kernel), (List.forall_mem_cons.mpr ⟨fun _ => C.1.2.2.2.2 _ (tt_of 402 rfl rfl), (List.forall_mem_cons.mpr ⟨fun h => absurd h (by decide +kernel), (List.forall_mem_cons.mpr ⟨fun _ => C.1.2.2.2.2 _ (tt_of 392 rfl rfl), (List.forall_mem_cons.mpr ⟨fun _ => C.1.2.2.2.2 _ (tt_of 426 rfl rfl), (List.forall_mem_cons.mpr ⟨fun _ => C.1.2.2.2.2 _ (tt_of 427 rfl rfl), (List.forall_mem_cons.mpr ⟨fun _ => C.1.2.2.2.2 _ (tt_of 429 rfl rfl), (List.forall_mem_cons.mpr ⟨fun _ => C.1.2.2.2.2 _ (tt_of 392 rfl rfl), (List.forall_mem_cons.mpr ⟨fun _ => C.1.2.2.2.2 _ (tt_of 489 rfl rfl), (List.forall_mem_cons.mpr ⟨fun _ => C.1.2.2.2.2 _ (tt_of 490 rfl rfl), (List.forall_mem_cons.mpr ⟨fun _ => C.1.2.2.2.2 _ (tt_of 491 rfl rfl), (List.forall_mem_cons.mpr ⟨fun _ => C.1.2.2.2.2 _ (tt_of 420 rfl rfl), (List.forall_mem_cons.mpr ⟨fun _ => va_Nw.use rfl (C.2.2.2.2.2.1.2.2.2.2.2.2 _ (List.mem_of_getElem? (i := 0) rfl)), (List.forall_mem_cons.mpr ⟨fun _ => C.1.2.2.2.2 _ (tt_of 420 rfl rfl), (List.forall_mem_cons.mpr ⟨fun _ => C.1.2.2.2.2 _ (tt_of 421 rfl rfl), (List.forall_mem_cons.mpr ⟨fun _ => C.1.2.2.2.2 _ (tt_of 422 rfl rfl), (List.forall_mem_cons.mpr ⟨fun _ => C.1.2.2.2.2 _ (tt_of 423 rfl rfl), (List.forall_mem_cons.mpr ⟨fun _ => va_Nw.use rfl (C.2.2.2.2.2.1.2.2.2.2.2.2 _ (List.mem_of_getElem? (i := 1) rfl)), (List.forall_mem_cons.mpr ⟨fun _ => C.1.2.2.2.2 _ (tt_of 423 rfl rfl), (List.forall_mem_cons.mpr ⟨fun _ => C.1.2.2.2.2 _ (tt_of 424 rfl rfl), (List.forall_mem_cons.mpr ⟨fun _ => C.1.2.2.2.2 _ (tt_of 425 rfl rfl), (List.forall_mem_cons.mpr ⟨fun _ => C.1.2.2.2.2 _ (tt_of 426 rfl rfl), (List.forall_mem_cons.mpr ⟨fun _ => va_Nw.use rfl (C.2.2.2.2.2.1.2.2.2.2.2.2 _ (List.mem_of_getElem? (i := 2) rfl)), (List.forall_mem_cons.mpr ⟨fun _ => C.1.2.2.2.2 _ (tt_of 488 rfl rfl), (List.forall_mem_cons.mpr ⟨fun _ => C.1.2.2.2.2 _ (tt_of 479 rfl rfl), (List.forall_mem_cons.mpr ⟨fun _ => va_Nw.use rfl (C.2.2.2.2.2.1.2.2.2.2.1 _ (List.mem_of_getElem? (i := 1) rfl)), (List.forall_mem_cons.mpr ⟨fun _ => C.1.2.2.2.2 _ (tt_of 481 rfl rfl), (List.forall_mem_cons.mpr ⟨fun _ => C.1.2.2.2.2 _ (tt_of 407 rfl rfl), (List.forall_mem_cons.mpr ⟨fun _ => C.1.2.2.2.2 _ (tt_of 482 rfl rfl), (List.forall_mem_cons.mpr ⟨fun _ => C.1.2.2.2.2 _ (tt_of 483 rfl rfl), (List.forall_mem_cons.mpr ⟨fun _ => C.1.2.2.2.2 _ (tt_of 484 rfl rfl), (List.forall_mem_cons.mpr ⟨fun _ => C.1.2.2.2.2 _ (tt_of 485 rfl rfl), (List.forall_mem_cons.mpr ⟨fun h => absurd h (by decide +kernel), (List.forall_mem_cons.mpr ⟨fun h => absurd h (by decide +kernel), (List.forall_mem_cons.mpr ⟨fun _ => C.1.2.2.2.2 _ (tt_of 395 rfl rfl), (List.forall_mem_cons.mpr ⟨fun _ => C.1.2.2.2.2 _ (tt_of 394 rfl rfl), (List.forall_mem_cons.mpr ⟨fun _ => C.1.2.2.2.2 _ (tt_of 486 rfl rfl), (fun _ h => absurd h List.not_mem_nil)⟩)⟩)⟩)⟩)⟩)⟩)⟩)⟩)⟩)⟩)⟩)⟩)⟩)⟩)⟩)⟩)⟩)⟩)⟩)⟩)⟩)⟩)⟩)⟩)⟩)⟩)⟩)⟩)⟩)⟩)⟩)⟩)⟩)⟩)⟩)⟩)⟩)⟩)⟩)⟩)⟩)⟩)⟩)⟩)⟩)⟩)⟩)⟩)⟩)⟩)⟩)⟩)⟩)⟩)⟩)⟩)⟩)
  intro w hw
  obtain ⟨h1, h2⟩ := List.mem_filter.mp hw
  exact h w h1 h2
set_option maxRecDepth 20000 in
theorem hgood_IAE : ∀ w ∈ Cond.classLink RX6 77 "java/lang/IllegalArgumentException" :: Cond.initialized "java/lang/IllegalArgumentException" :: vx_atS RX6 81 "java/lang/IllegalArgumentException" ["java/lang/RuntimeException", "java/lang/Exception"], vx_ot w = true := by
  have h : ∀ w ∈ Bundle.ownAtoms RX6 81 "java/lang/IllegalArgumentException" ["java/lang/RuntimeException", "java/lang/Exception"], vx_no w = true → vx_ot w = true := (List.forall_mem_cons.mpr ⟨fun _ => rfl, (List.forall_mem_cons.mpr ⟨fun _ => rfl, (List.forall_mem_cons.mpr ⟨fun _ => rfl, (List.forall_mem_cons.mpr ⟨fun _ => rfl, (List.forall_mem_cons.mpr ⟨fun _ => rfl, (List.forall_mem_cons.mpr ⟨fun _ => rfl, (List.forall_mem_cons.mpr ⟨fun _ => rfl, (List.forall_mem_cons.mpr ⟨fun _ => rfl, (List.forall_mem_cons.mpr ⟨fun _ => rfl, (List.forall_mem_cons.mpr ⟨fun _ => rfl, (List.forall_mem_cons.mpr ⟨fun _ => rfl, (List.forall_mem_cons.mpr ⟨fun _ => rfl, (List.forall_mem_cons.mpr ⟨fun _ => rfl, (List.forall_mem_cons.mpr ⟨fun _ => rfl, (List.forall_mem_cons.mpr ⟨fun _ => rfl, (List.forall_mem_cons.mpr ⟨fun _ => rfl, (List.forall_mem_cons.mpr ⟨fun _ => rfl, (List.forall_mem_cons.mpr ⟨fun _ => rfl, (List.forall_mem_cons.mpr ⟨fun _ => rfl, (List.forall_mem_cons.mpr ⟨fun _ => rfl, (List.forall_mem_cons.mpr ⟨fun h => absurd h (by decide +kernel), (List.forall_mem_cons.mpr ⟨fun _ => rfl, (List.forall_mem_cons.mpr ⟨fun h => absurd h (by decide +kernel), (List.forall_mem_cons.mpr ⟨fun _ => rfl, (List.forall_mem_cons.mpr ⟨fun _ => rfl, (List.forall_mem_cons.mpr ⟨fun _ => rfl, (List.forall_mem_cons.mpr ⟨fun _ => rfl, (List.forall_mem_cons.mpr ⟨fun _ => rfl, (List.forall_mem_cons.mpr ⟨fun _ => rfl, (List.forall_mem_cons.mpr ⟨fun _ => rfl, (List.forall_mem_cons.mpr ⟨fun _ => rfl, (List.forall_mem_cons.mpr ⟨fun _ => rfl, (List.forall_mem_cons.mpr ⟨fun _ => rfl, (List.forall_mem_cons.mpr ⟨fun _ => rfl, (List.forall_mem_cons.mpr ⟨fun _ => rfl, (List.forall_mem_cons.mpr ⟨fun _ => rfl, (List.forall_mem_cons.mpr ⟨fun _ => rfl, (List.forall_mem_cons.mpr ⟨fun _ => rfl, (List.forall_mem_cons.mpr ⟨fun _ => rfl, (List.forall_mem_cons.mpr ⟨fun _ => rfl, (List.forall_mem_cons.mpr ⟨fun _ => rfl, (List.forall_mem_cons.mpr ⟨fun _ => rfl, (List.forall_mem_cons.mpr ⟨fun _ => rfl, (List.forall_mem_cons.mpr ⟨fun _ => rfl, (List.forall_mem_cons.mpr ⟨fun _ => rfl, (List.forall_mem_cons.mpr ⟨fun _ => rfl, (List.forall_mem_cons.mpr ⟨fun _ => rfl, (List.forall_mem_cons.mpr ⟨fun _ => rfl, (List.forall_mem_cons.mpr ⟨fun _ => rfl, (List.forall_mem_cons.mpr ⟨fun _ => rfl, (List.forall_mem_cons.mpr ⟨fun _ => rfl, (List.forall_mem_cons.mpr ⟨fun _ => rfl, (List.forall_mem_cons.mpr ⟨fun h => absurd h (by decide +kernel), (List.forall_mem_cons.mpr ⟨fun h => absurd h (by decide +kernel), (List.forall_mem_cons.mpr ⟨fun _ => rfl, (List.forall_mem_cons.mpr ⟨fun _ => rfl, (List.forall_mem_cons.mpr ⟨fun _ => rfl, (fun _ h => absurd h List.not_mem_nil)⟩)⟩)⟩)⟩)⟩)⟩)⟩)⟩)⟩)⟩)⟩)⟩)⟩)⟩)⟩)⟩)⟩)⟩)⟩)⟩)⟩)⟩)⟩)⟩)⟩)⟩)⟩)⟩)⟩)⟩)⟩)⟩)⟩)⟩)⟩)⟩)⟩)⟩)⟩)⟩)⟩)⟩)⟩)⟩)⟩)⟩)⟩)⟩)⟩)⟩)⟩)⟩)⟩)⟩)⟩)⟩)⟩)
  refine List.forall_mem_cons.mpr ⟨rfl, List.forall_mem_cons.mpr ⟨rfl, ?_⟩⟩
  intro w hw
  obtain ⟨h1, h2⟩ := List.mem_filter.mp hw
  exact h w h1 h2
/-- 'throw new java/lang/IllegalArgumentException(text)' -/
theorem g_th_IAE {K : wK} {G : wG} {cells slots : Nat} {V : wV} {I : wI} {J : wJ} {pc : Nat} {lv : List (Nat × Value)} {cc : ByteArray} {nL : Nat} {rm : Room} {post : wPo} {xp : wPx} (C : Cx K G RX6 cc nL) (hT : ∀ x ∈ (kc K).exceptionTable.toList, False) (is : Nat) {text : String} (hs : (is, text) ∈ wStr)
    (d0 : decode cc pc = .ok (.new 77, 3)) (d3 : decode cc (pc + 3) = .ok (.dup, 1)) (d4 : decode cc (pc + 4) = .ok (.ldc is, 2)) (d6 : decode cc (pc + 6) = .ok (.invokespecial 81, 3)) (d9 : decode cc (pc + 9) = .ok (.athrow, 1))
    (hf : 5 < (kR K).frames) (hlo : 82 ≤ (kR K).locals) (hc1 : cells + 1 ≤ (kR K).cells) (hs1 : slots + 6 ≤ (kR K).slots) (hc : cells + 1 ≤ rm.cells) (hsl : slots + 6 ≤ rm.slots) (hx : xp "java/lang/IllegalArgumentException" V I J) : WW K G cells slots (QM K G rm post xp) V I J pc lv [] := by
  intro H locs ls hP hS hl
  obtain ⟨sa, hsa⟩ := C.2.2.2.2.2.1.2.2.1 _ hs
  exact vx_throwS (ik := 77) (ic := 81) (sa := sa) (names := ["java/lang/RuntimeException", "java/lang/Exception"]) C.1.1 C.1.2.1 C.2.2.2.2.2.2 C.1.2.2.2.1 (by decide +kernel) (by decide +kernel) (C.1.2.2.2.2 _ (tt_of 478 rfl rfl)) (C.1.2.2.2.2 _ (tt_of 44 rfl rfl)) hsa (hat_IAE C) hgood_IAE C.2.2.2.2.2.1.1 C.2.2.2.2.2.1.2.1 hS hl.1 d0 d3 d4 d6 d9 (fun x hx9 => (hT x hx9).elim) hf hlo hc1 hs1 C.2.2.2.2.1
    (fun t _ hz hk => ⟨⟨V, I, J, hx, hP.kept (fun k q hk2 => hk q.1 (hP k q hk2).lt)⟩, ⟨Nat.le_trans hS.1 hz, fun q h1 h2 => by rw [hk q (Nat.lt_of_lt_of_le h1 hS.1)]; exact hS.2.1 q h1 h2⟩⟩) hS.2.2 hc hsl
set_option maxRecDepth 20000 in
theorem hat_IOB {K : wK} {G : wG} {own : String} {cc : ByteArray} {nL : Nat} (C : Cx K G own cc nL) : ∀ w ∈ vx_atS RX6 179 "java/lang/IndexOutOfBoundsException" ["java/lang/RuntimeException", "java/lang/Exception"], w.before (ka K) (ks K) = true := by
  have h : ∀ w ∈ Bundle.ownAtoms RX6 179 "java/lang/IndexOutOfBoundsException" ["java/lang/RuntimeException", "java/lang/Exception"], vx_no w = true → w.before (ka K) (ks K) = true := (List.forall_mem_cons.mpr ⟨fun _ => C.1.2.2.2.2 _ (tt_of 39 rfl rfl), (List.forall_mem_cons.mpr ⟨fun _ => C.1.2.2.2.2 _ (tt_of 396 rfl rfl), (List.forall_mem_cons.mpr ⟨fun _ => C.1.2.2.2.2 _ (tt_of 405 rfl rfl), (List.forall_mem_cons.mpr ⟨fun _ => C.1.2.2.2.2 _ (tt_of 409 rfl rfl), (List.forall_mem_cons.mpr ⟨fun _ => C.1.2.2.2.2 _ (tt_of 412 rfl rfl), (List.forall_mem_cons.mpr ⟨fun _ => C.1.2.2.2.2 _ (tt_of 414 rfl rfl), (List.forall_mem_cons.mpr ⟨fun _ => C.1.2.2.2.2 _ (tt_of 397 rfl rfl), (List.forall_mem_cons.mpr ⟨fun _ => C.1.2.2.2.2 _ (tt_of 398 rfl rfl), (List.forall_mem_cons.mpr ⟨fun _ => C.1.2.2.2.2 _ (tt_of 52 rfl rfl), (List.forall_mem_cons.mpr ⟨fun _ => C.1.2.2.2.2 _ (tt_of 53 rfl rfl), (List.forall_mem_cons.mpr ⟨fun _ => C.1.2.2.2.2 _ (tt_of 399 rfl rfl), (List.forall_mem_cons.mpr ⟨fun _ => C.1.2.2.2.2 _ (tt_of 404 rfl rfl), (List.forall_mem_cons.mpr ⟨fun _ => C.1.2.2.2.2 _ (tt_of 410 rfl rfl), (List.forall_mem_cons.mpr ⟨fun _ => C.1.2.2.2.2 _ (tt_of 430 rfl rfl), (List.forall_mem_cons.mpr ⟨fun _ => C.1.2.2.2.2 _ (tt_of 386 rfl rfl), (List.forall_mem_cons.mpr ⟨fun _ => C.1.2.2.2.2 _ (tt_of 431 rfl rfl), (List.forall_mem_cons.mpr ⟨fun _ => C.1.2.2.2.2 _ (tt_of 388 rfl rfl), (List.forall_mem_cons.mpr ⟨fun _ => C.1.2.2.2.2 _ (tt_of 432 rfl rfl), (List.forall_mem_cons.mpr ⟨fun _ => C.1.2.2.2.2 _ (tt_of 390 rfl rfl), (List.forall_mem_cons.mpr ⟨fun _ => C.1.2.2.2.2 _ (tt_of 400 rfl rfl), (List.forall_mem_cons.mpr ⟨fun h => absurd h (by decide +kernel), (List.forall_mem_cons.mpr ⟨fun _ => C.1.2.2.2.2 _ (tt_of 402 rfl rfl), (List.forall_mem_cons.mpr ⟨fun h => absurd h (by decide +kernel), (List.forall_mem_cons.mpr ⟨fun _ => C.1.2.2.2.2 _ (tt_of 392 rfl rfl), (List.forall_mem_cons.mpr ⟨fun _ => C.1.2.2.2.2 _ (tt_of 426 rfl rfl), (List.forall_mem_cons.mpr ⟨fun _ => C.1.2.2.2.2 _ (tt_of 427 rfl rfl), (List.forall_mem_cons.mpr ⟨fun _ => C.1.2.2.2.2 _ (tt_of 429 rfl rfl), (List.forall_mem_cons.mpr ⟨fun _ => C.1.2.2.2.2 _ (tt_of 392 rfl rfl), (List.forall_mem_cons.mpr ⟨fun _ => C.1.2.2.2.2 _ (tt_of 470 rfl rfl), (List.forall_mem_cons.mpr ⟨fun _ => C.1.2.2.2.2 _ (tt_of 471 rfl rfl), (List.forall_mem_cons.mpr ⟨fun _ => C.1.2.2.2.2 _ (tt_of 472 rfl rfl), (List.forall_mem_cons.mpr ⟨fun _ => C.1.2.2.2.2 _ (tt_of 420 rfl rfl), (List.forall_mem_cons.mpr ⟨fun _ => va_Nw.use rfl (C.2.2.2.2.2.1.2.2.2.2.2.2 _ (List.mem_of_getElem? (i := 0) rfl)), (List.forall_mem_cons.mpr ⟨fun _ => C.1.2.2.2.2 _ (tt_of 420 rfl rfl), (List.forall_mem_cons.mpr ⟨fun _ => C.1.2.2.2.2 _ (tt_of 421 rfl rfl), (List.forall_mem_cons.mpr ⟨fun _ => C.1.2.2.2.2 _ (tt_of 422 rfl rfl), (List.forall_mem_cons.mpr ⟨fun _ => C.1.2.2.2.2 _ (tt_of 423 rfl rfl), (List.forall_mem_cons.mpr ⟨fun _ => va_Nw.use rfl (C.2.2.2.2.2.1.2.2.2.2.2.2 _ (List.mem_of_getElem? (i := 1) rfl)), (List.forall_mem_cons.mpr ⟨fun _ => C.1.2.2.2.2 _ (tt_of 423 rfl rfl), (List.forall_mem_cons.mpr ⟨fun _ => C.1.2.2.2.2 _ (tt_of 424 rfl rfl), (List.forall_mem_cons.mpr ⟨fun _ => C.1.2.2.2.2 _ (tt_of 425 rfl rfl), (List.forall_mem_cons.mpr ⟨fun _ => C.1.2.2.2.2 _ (tt_of 426 rfl rfl), (List.forall_mem_cons.mpr ⟨fun _ => va_Nw.use rfl (C.2.2.2.2.2.1.2.2.2.2.2.2 _ (List.mem_of_getElem? (i := 2) rfl)), (List.forall_mem_cons.mpr ⟨fun _ => C.1.2.2.2.2 _ (tt_of 469 rfl rfl), (List.forall_mem_cons.mpr ⟨fun _ => C.1.2.2.2.2 _ (tt_of 460 rfl rfl), (List.forall_mem_cons.mpr ⟨fun _ => va_Nw.use rfl (C.2.2.2.2.2.1.2.2.2.2.1 _ (List.mem_of_getElem? (i := 2) rfl)), (List.forall_mem_cons.mpr ⟨fun _ => C.1.2.2.2.2 _ (tt_of 462 rfl rfl), (List.forall_mem_cons.mpr ⟨fun _ => C.1.2.2.2.2 _ (tt_of 408 rfl rfl), (List.forall_mem_cons.mpr ⟨fun _ => C.1.2.2.2.2 _ (tt_of 463 rfl rfl), (List.forall_mem_cons.mpr ⟨fun _ => C.1.2.2.2.2 _ (tt_of 464 rfl rfl), (List.forall_mem_cons.mpr ⟨fun _ => C.1.2.2.2.2 _ (tt_of 465 rfl rfl), (List.forall_mem_cons.mpr ⟨fun _ => C.1.2.2.2.2 _ (tt_of 466 rfl rfl), (List.forall_mem_cons.mpr ⟨fun h => absurd h (by decide +kernel), (List.forall_mem_cons.mpr ⟨fun h => absurd h (by decide +kernel), (List.forall_mem_cons.mpr ⟨fun _ => C.1.2.2.2.2 _ (tt_of 395 rfl rfl), (List.forall_mem_cons.mpr ⟨fun _ => C.1.2.2.2.2 _ (tt_of 394 rfl rfl), (List.forall_mem_cons.mpr ⟨fun _ => C.1.2.2.2.2 _ (tt_of 467 rfl rfl), (fun _ h => absurd h List.not_mem_nil)⟩)⟩)⟩)⟩)⟩)⟩)⟩)⟩)⟩)⟩)⟩)⟩)⟩)⟩)⟩)⟩)⟩)⟩)⟩)⟩)⟩)⟩)⟩)⟩)⟩)⟩)⟩)⟩)⟩)⟩)⟩)⟩)⟩)⟩)⟩)⟩)⟩)⟩)⟩)⟩)⟩)⟩)⟩)⟩)⟩)⟩)⟩)⟩)⟩)⟩)⟩)⟩)⟩)⟩)⟩)⟩)⟩)
  intro w hw
  obtain ⟨h1, h2⟩ := List.mem_filter.mp hw
  exact h w h1 h2
set_option maxRecDepth 20000 in
theorem hgood_IOB : ∀ w ∈ Cond.classLink RX6 175 "java/lang/IndexOutOfBoundsException" :: Cond.initialized "java/lang/IndexOutOfBoundsException" :: vx_atS RX6 179 "java/lang/IndexOutOfBoundsException" ["java/lang/RuntimeException", "java/lang/Exception"], vx_ot w = true := by
  have h : ∀ w ∈ Bundle.ownAtoms RX6 179 "java/lang/IndexOutOfBoundsException" ["java/lang/RuntimeException", "java/lang/Exception"], vx_no w = true → vx_ot w = true := (List.forall_mem_cons.mpr ⟨fun _ => rfl, (List.forall_mem_cons.mpr ⟨fun _ => rfl, (List.forall_mem_cons.mpr ⟨fun _ => rfl, (List.forall_mem_cons.mpr ⟨fun _ => rfl, (List.forall_mem_cons.mpr ⟨fun _ => rfl, (List.forall_mem_cons.mpr ⟨fun _ => rfl, (List.forall_mem_cons.mpr ⟨fun _ => rfl, (List.forall_mem_cons.mpr ⟨fun _ => rfl, (List.forall_mem_cons.mpr ⟨fun _ => rfl, (List.forall_mem_cons.mpr ⟨fun _ => rfl, (List.forall_mem_cons.mpr ⟨fun _ => rfl, (List.forall_mem_cons.mpr ⟨fun _ => rfl, (List.forall_mem_cons.mpr ⟨fun _ => rfl, (List.forall_mem_cons.mpr ⟨fun _ => rfl, (List.forall_mem_cons.mpr ⟨fun _ => rfl, (List.forall_mem_cons.mpr ⟨fun _ => rfl, (List.forall_mem_cons.mpr ⟨fun _ => rfl, (List.forall_mem_cons.mpr ⟨fun _ => rfl, (List.forall_mem_cons.mpr ⟨fun _ => rfl, (List.forall_mem_cons.mpr ⟨fun _ => rfl, (List.forall_mem_cons.mpr ⟨fun h => absurd h (by decide +kernel), (List.forall_mem_cons.mpr ⟨fun _ => rfl, (List.forall_mem_cons.mpr ⟨fun h => absurd h (by decide +kernel), (List.forall_mem_cons.mpr ⟨fun _ => rfl, (List.forall_mem_cons.mpr ⟨fun _ => rfl, (List.forall_mem_cons.mpr ⟨fun _ => rfl, (List.forall_mem_cons.mpr ⟨fun _ => rfl, (List.forall_mem_cons.mpr ⟨fun _ => rfl, (List.forall_mem_cons.mpr ⟨fun _ => rfl, (List.forall_mem_cons.mpr ⟨fun _ => rfl, (List.forall_mem_cons.mpr ⟨fun _ => rfl, (List.forall_mem_cons.mpr ⟨fun _ => rfl, (List.forall_mem_cons.mpr ⟨fun _ => rfl, (List.forall_mem_cons.mpr ⟨fun _ => rfl, (List.forall_mem_cons.mpr ⟨fun _ => rfl, (List.forall_mem_cons.mpr ⟨fun _ => rfl, (List.forall_mem_cons.mpr ⟨fun _ => rfl, (List.forall_mem_cons.mpr ⟨fun _ => rfl, (List.forall_mem_cons.mpr ⟨fun _ => rfl, (List.forall_mem_cons.mpr ⟨fun _ => rfl, (List.forall_mem_cons.mpr ⟨fun _ => rfl, (List.forall_mem_cons.mpr ⟨fun _ => rfl, (List.forall_mem_cons.mpr ⟨fun _ => rfl, (List.forall_mem_cons.mpr ⟨fun _ => rfl, (List.forall_mem_cons.mpr ⟨fun _ => rfl, (List.forall_mem_cons.mpr ⟨fun _ => rfl, (List.forall_mem_cons.mpr ⟨fun _ => rfl, (List.forall_mem_cons.mpr ⟨fun _ => rfl, (List.forall_mem_cons.mpr ⟨fun _ => rfl, (List.forall_mem_cons.mpr ⟨fun _ => rfl, (List.forall_mem_cons.mpr ⟨fun _ => rfl, (List.forall_mem_cons.mpr ⟨fun _ => rfl, (List.forall_mem_cons.mpr ⟨fun h => absurd h (by decide +kernel), (List.forall_mem_cons.mpr ⟨fun h => absurd h (by decide +kernel), (List.forall_mem_cons.mpr ⟨fun _ => rfl, (List.forall_mem_cons.mpr ⟨fun _ => rfl, (List.forall_mem_cons.mpr ⟨fun _ => rfl, (fun _ h => absurd h List.not_mem_nil)⟩)⟩)⟩)⟩)⟩)⟩)⟩)⟩)⟩)⟩)⟩)⟩)⟩)⟩)⟩)⟩)⟩)⟩)⟩)⟩)⟩)⟩)⟩)⟩)⟩)⟩)⟩)⟩)⟩)⟩)⟩)⟩)⟩)⟩)⟩)⟩)⟩)⟩)⟩)⟩)⟩)⟩)⟩)⟩)⟩)⟩)⟩)⟩)⟩)⟩)⟩)⟩)⟩)⟩)⟩)⟩)⟩)
  refine List.forall_mem_cons.mpr ⟨rfl, List.forall_mem_cons.mpr ⟨rfl, ?_⟩⟩
  intro w hw
  obtain ⟨h1, h2⟩ := List.mem_filter.mp hw
  exact h w h1 h2
/-- 'throw new java/lang/IndexOutOfBoundsException(text)' -/
theorem g_th_IOB {K : wK} {G : wG} {cells slots : Nat} {V : wV} {I : wI} {J : wJ} {pc : Nat} {lv : List (Nat × Value)} {cc : ByteArray} {nL : Nat} {rm : Room} {post : wPo} {xp : wPx} (C : Cx K G RX6 cc nL) (hT : ∀ x ∈ (kc K).exceptionTable.toList, False) (is : Nat) {text : String} (hs : (is, text) ∈ wStr)
    (d0 : decode cc pc = .ok (.new 175, 3)) (d3 : decode cc (pc + 3) = .ok (.dup, 1)) (d4 : decode cc (pc + 4) = .ok (.ldc is, 2)) (d6 : decode cc (pc + 6) = .ok (.invokespecial 179, 3)) (d9 : decode cc (pc + 9) = .ok (.athrow, 1))
    (hf : 5 < (kR K).frames) (hlo : 82 ≤ (kR K).locals) (hc1 : cells + 1 ≤ (kR K).cells) (hs1 : slots + 6 ≤ (kR K).slots) (hc : cells + 1 ≤ rm.cells) (hsl : slots + 6 ≤ rm.slots) (hx : xp "java/lang/IndexOutOfBoundsException" V I J) : WW K G cells slots (QM K G rm post xp) V I J pc lv [] := by
  intro H locs ls hP hS hl
  obtain ⟨sa, hsa⟩ := C.2.2.2.2.2.1.2.2.1 _ hs
  exact vx_throwS (ik := 175) (ic := 179) (sa := sa) (names := ["java/lang/RuntimeException", "java/lang/Exception"]) C.1.1 C.1.2.1 C.2.2.2.2.2.2 C.1.2.2.2.1 (by decide +kernel) (by decide +kernel) (C.1.2.2.2.2 _ (tt_of 459 rfl rfl)) (C.1.2.2.2.2 _ (tt_of 43 rfl rfl)) hsa (hat_IOB C) hgood_IOB C.2.2.2.2.2.1.1 C.2.2.2.2.2.1.2.1 hS hl.1 d0 d3 d4 d6 d9 (fun x hx9 => (hT x hx9).elim) hf hlo hc1 hs1 C.2.2.2.2.1
    (fun t _ hz hk => ⟨⟨V, I, J, hx, hP.kept (fun k q hk2 => hk q.1 (hP k q hk2).lt)⟩, ⟨Nat.le_trans hS.1 hz, fun q h1 h2 => by rw [hk q (Nat.lt_of_lt_of_le h1 hS.1)]; exact hS.2.1 q h1 h2⟩⟩) hS.2.2 hc hsl
end
section
set_option maxRecDepth 20000 in
theorem inT0 : ∀ w ∈ u_ws RX0 TX0 4, w ∈ TT := (List.forall_mem_cons.mpr ⟨tt_of 219 rfl rfl, (List.forall_mem_cons.mpr ⟨tt_of 221 rfl rfl, (List.forall_mem_cons.mpr ⟨tt_of 223 rfl rfl, (List.forall_mem_cons.mpr ⟨tt_of 225 rfl rfl, (fun _ h => absurd h List.not_mem_nil)⟩)⟩)⟩)⟩)
set_option maxRecDepth 20000 in
theorem inT1 : ∀ w ∈ u_ws RX1 TX1 7, w ∈ TT := (List.forall_mem_cons.mpr ⟨tt_of 190 rfl rfl, (List.forall_mem_cons.mpr ⟨tt_of 192 rfl rfl, (List.forall_mem_cons.mpr ⟨tt_of 194 rfl rfl, (List.forall_mem_cons.mpr ⟨tt_of 196 rfl rfl, (List.forall_mem_cons.mpr ⟨tt_of 198 rfl rfl, (List.forall_mem_cons.mpr ⟨tt_of 200 rfl rfl, (List.forall_mem_cons.mpr ⟨tt_of 202 rfl rfl, (fun _ h => absurd h List.not_mem_nil)⟩)⟩)⟩)⟩)⟩)⟩)⟩)
set_option maxRecDepth 20000 in
theorem inT2 : ∀ w ∈ u_ws RX2 TX2 6, w ∈ TT := (List.forall_mem_cons.mpr ⟨tt_of 125 rfl rfl, (List.forall_mem_cons.mpr ⟨tt_of 127 rfl rfl, (List.forall_mem_cons.mpr ⟨tt_of 129 rfl rfl, (List.forall_mem_cons.mpr ⟨tt_of 131 rfl rfl, (List.forall_mem_cons.mpr ⟨tt_of 133 rfl rfl, (List.forall_mem_cons.mpr ⟨tt_of 135 rfl rfl, (fun _ h => absurd h List.not_mem_nil)⟩)⟩)⟩)⟩)⟩)⟩)
set_option maxRecDepth 20000 in
theorem inT3 : ∀ w ∈ u_ws RX3 TX3 6, w ∈ TT := (List.forall_mem_cons.mpr ⟨tt_of 156 rfl rfl, (List.forall_mem_cons.mpr ⟨tt_of 158 rfl rfl, (List.forall_mem_cons.mpr ⟨tt_of 160 rfl rfl, (List.forall_mem_cons.mpr ⟨tt_of 162 rfl rfl, (List.forall_mem_cons.mpr ⟨tt_of 164 rfl rfl, (List.forall_mem_cons.mpr ⟨tt_of 166 rfl rfl, (fun _ h => absurd h List.not_mem_nil)⟩)⟩)⟩)⟩)⟩)⟩)
set_option maxRecDepth 20000 in
theorem inT4 : ∀ w ∈ u_ws RX4 TX4 7, w ∈ TT := (List.forall_mem_cons.mpr ⟨tt_of 75 rfl rfl, (List.forall_mem_cons.mpr ⟨tt_of 77 rfl rfl, (List.forall_mem_cons.mpr ⟨tt_of 79 rfl rfl, (List.forall_mem_cons.mpr ⟨tt_of 81 rfl rfl, (List.forall_mem_cons.mpr ⟨tt_of 83 rfl rfl, (List.forall_mem_cons.mpr ⟨tt_of 85 rfl rfl, (List.forall_mem_cons.mpr ⟨tt_of 87 rfl rfl, (fun _ h => absurd h List.not_mem_nil)⟩)⟩)⟩)⟩)⟩)⟩)⟩)
set_option maxRecDepth 20000 in
theorem inT5 : ∀ w ∈ u_ws RX5 TX5 3, w ∈ TT := (List.forall_mem_cons.mpr ⟨tt_of 103 rfl rfl, (List.forall_mem_cons.mpr ⟨tt_of 105 rfl rfl, (List.forall_mem_cons.mpr ⟨tt_of 107 rfl rfl, (fun _ h => absurd h List.not_mem_nil)⟩)⟩)⟩)
set_option maxRecDepth 20000 in
theorem inT6 : ∀ w ∈ u_ws RX6 TX6 7, w ∈ TT := (List.forall_mem_cons.mpr ⟨tt_of 236 rfl rfl, (List.forall_mem_cons.mpr ⟨tt_of 238 rfl rfl, (List.forall_mem_cons.mpr ⟨tt_of 240 rfl rfl, (List.forall_mem_cons.mpr ⟨tt_of 242 rfl rfl, (List.forall_mem_cons.mpr ⟨tt_of 244 rfl rfl, (List.forall_mem_cons.mpr ⟨tt_of 246 rfl rfl, (List.forall_mem_cons.mpr ⟨tt_of 248 rfl rfl, (fun _ h => absurd h List.not_mem_nil)⟩)⟩)⟩)⟩)⟩)⟩)⟩)
set_option maxRecDepth 20000 in
theorem inT7 : ∀ w ∈ u_ws RX7 TX7 37, w ∈ TT := (List.forall_mem_cons.mpr ⟨tt_of 723 rfl rfl, (List.forall_mem_cons.mpr ⟨tt_of 725 rfl rfl, (List.forall_mem_cons.mpr ⟨tt_of 727 rfl rfl, (List.forall_mem_cons.mpr ⟨tt_of 729 rfl rfl, (List.forall_mem_cons.mpr ⟨tt_of 731 rfl rfl, (List.forall_mem_cons.mpr ⟨tt_of 733 rfl rfl, (List.forall_mem_cons.mpr ⟨tt_of 735 rfl rfl, (List.forall_mem_cons.mpr ⟨tt_of 737 rfl rfl, (List.forall_mem_cons.mpr ⟨tt_of 739 rfl rfl, (List.forall_mem_cons.mpr ⟨tt_of 741 rfl rfl, (List.forall_mem_cons.mpr ⟨tt_of 743 rfl rfl, (List.forall_mem_cons.mpr ⟨tt_of 745 rfl rfl, (List.forall_mem_cons.mpr ⟨tt_of 747 rfl rfl, (List.forall_mem_cons.mpr ⟨tt_of 749 rfl rfl, (List.forall_mem_cons.mpr ⟨tt_of 751 rfl rfl, (List.forall_mem_cons.mpr ⟨tt_of 753 rfl rfl, (List.forall_mem_cons.mpr ⟨tt_of 755 rfl rfl, (List.forall_mem_cons.mpr ⟨tt_of 757 rfl rfl, (List.forall_mem_cons.mpr ⟨tt_of 759 rfl rfl, (List.forall_mem_cons.mpr ⟨tt_of 761 rfl rfl, (List.forall_mem_cons.mpr ⟨tt_of 763 rfl rfl, (List.forall_mem_cons.mpr ⟨tt_of 765 rfl rfl, (List.forall_mem_cons.mpr ⟨tt_of 767 rfl rfl, (List.forall_mem_cons.mpr ⟨tt_of 769 rfl rfl, (List.forall_mem_cons.mpr ⟨tt_of 771 rfl rfl, (List.forall_mem_cons.mpr ⟨tt_of 773 rfl rfl, (List.forall_mem_cons.mpr ⟨tt_of 775 rfl rfl, (List.forall_mem_cons.mpr ⟨tt_of 777 rfl rfl, (List.forall_mem_cons.mpr ⟨tt_of 779 rfl rfl, (List.forall_mem_cons.mpr ⟨tt_of 781 rfl rfl, (List.forall_mem_cons.mpr ⟨tt_of 783 rfl rfl, (List.forall_mem_cons.mpr ⟨tt_of 785 rfl rfl, (List.forall_mem_cons.mpr ⟨tt_of 787 rfl rfl, (List.forall_mem_cons.mpr ⟨tt_of 789 rfl rfl, (List.forall_mem_cons.mpr ⟨tt_of 791 rfl rfl, (List.forall_mem_cons.mpr ⟨tt_of 793 rfl rfl, (List.forall_mem_cons.mpr ⟨tt_of 795 rfl rfl, (fun _ h => absurd h List.not_mem_nil)⟩)⟩)⟩)⟩)⟩)⟩)⟩)⟩)⟩)⟩)⟩)⟩)⟩)⟩)⟩)⟩)⟩)⟩)⟩)⟩)⟩)⟩)⟩)⟩)⟩)⟩)⟩)⟩)⟩)⟩)⟩)⟩)⟩)⟩)⟩)⟩)⟩)
end
