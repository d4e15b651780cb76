section
-- ===== PART A: goes FIRST, ahead of the names: the tables' words, and 'selects' of the private methods out of them =====
/-- a private method of a class that the tables say can be made, by its rows of tables_1 -/
def lw_okq (q : MethodName × Nat) : Prop := (q.1.cls ≠ "java/lang/invoke/MethodHandle" ∧ q.1.cls ≠ "java/lang/invoke/VarHandle") ∧ Cond.instantiable q.1.cls q.2 ∈ tables_1 ∧ Cond.privateMethod q.1 ∈ tables_1 ∧ Cond.instanceMethod q.1 ∈ tables_1
theorem lw_p0 : lw_okq (⟨"PartCurves", "partAt", "(I)LPartCurves$Part;"⟩, 7) := ⟨⟨by decide +kernel, by decide +kernel⟩, List.mem_of_getElem? (i := 9) (by decide +kernel), List.mem_of_getElem? (i := 152) (by decide +kernel), List.mem_of_getElem? (i := 153) (by decide +kernel)⟩
theorem lw_p1 : lw_okq (⟨"PartCurves", "wouldShort", "(II)Z"⟩, 7) := ⟨⟨by decide +kernel, by decide +kernel⟩, List.mem_of_getElem? (i := 9) (by decide +kernel), List.mem_of_getElem? (i := 183) (by decide +kernel), List.mem_of_getElem? (i := 184) (by decide +kernel)⟩
theorem lw_p2 : lw_okq (⟨"PartCurves", "inHand", "()I"⟩, 7) := ⟨⟨by decide +kernel, by decide +kernel⟩, List.mem_of_getElem? (i := 9) (by decide +kernel), List.mem_of_getElem? (i := 195) (by decide +kernel), List.mem_of_getElem? (i := 196) (by decide +kernel)⟩
theorem lw_p3 : lw_okq (⟨"PartCurves", "highAndLowAtOnePinEach", "()Z"⟩, 7) := ⟨⟨by decide +kernel, by decide +kernel⟩, List.mem_of_getElem? (i := 9) (by decide +kernel), List.mem_of_getElem? (i := 199) (by decide +kernel), List.mem_of_getElem? (i := 200) (by decide +kernel)⟩
theorem lw_p4 : lw_okq (⟨"PartCurves", "joinsHighAndLow", "(LPartCurves$Part;)Z"⟩, 7) := ⟨⟨by decide +kernel, by decide +kernel⟩, List.mem_of_getElem? (i := 9) (by decide +kernel), List.mem_of_getElem? (i := 209) (by decide +kernel), List.mem_of_getElem? (i := 210) (by decide +kernel)⟩
theorem lw_p5 : lw_okq (⟨"PartCurves", "fourWires", "()Z"⟩, 7) := ⟨⟨by decide +kernel, by decide +kernel⟩, List.mem_of_getElem? (i := 9) (by decide +kernel), List.mem_of_getElem? (i := 225) (by decide +kernel), List.mem_of_getElem? (i := 226) (by decide +kernel)⟩
theorem lw_p6 : lw_okq (⟨"PartCurves$Part", "coldAmps", "(I)I"⟩, 12) := ⟨⟨by decide +kernel, by decide +kernel⟩, List.mem_of_getElem? (i := 65) (by decide +kernel), List.mem_of_getElem? (i := 240) (by decide +kernel), List.mem_of_getElem? (i := 241) (by decide +kernel)⟩
theorem lw_p7 : lw_okq (⟨"PartCurves", "farthest", "(LPartCurves$Part;I)I"⟩, 7) := ⟨⟨by decide +kernel, by decide +kernel⟩, List.mem_of_getElem? (i := 9) (by decide +kernel), List.mem_of_getElem? (i := 252) (by decide +kernel), List.mem_of_getElem? (i := 253) (by decide +kernel)⟩
theorem lw_p8 : lw_okq (⟨"PartCurves", "allowed", "(LPartCurves$Part;II)Z"⟩, 7) := ⟨⟨by decide +kernel, by decide +kernel⟩, List.mem_of_getElem? (i := 9) (by decide +kernel), List.mem_of_getElem? (i := 259) (by decide +kernel), List.mem_of_getElem? (i := 260) (by decide +kernel)⟩
theorem lw_p9 : lw_okq (⟨"PartCurves", "ampsAt", "(LPartCurves$Part;I)I"⟩, 7) := ⟨⟨by decide +kernel, by decide +kernel⟩, List.mem_of_getElem? (i := 9) (by decide +kernel), List.mem_of_getElem? (i := 263) (by decide +kernel), List.mem_of_getElem? (i := 264) (by decide +kernel)⟩
theorem lw_p10 : lw_okq (⟨"PartCurves", "owned", "(LPartCurves$Part;I)I"⟩, 7) := ⟨⟨by decide +kernel, by decide +kernel⟩, List.mem_of_getElem? (i := 9) (by decide +kernel), List.mem_of_getElem? (i := 267) (by decide +kernel), List.mem_of_getElem? (i := 268) (by decide +kernel)⟩
theorem lw_p11 : lw_okq (⟨"PartCurves", "drop", "(I)I"⟩, 7) := ⟨⟨by decide +kernel, by decide +kernel⟩, List.mem_of_getElem? (i := 9) (by decide +kernel), List.mem_of_getElem? (i := 271) (by decide +kernel), List.mem_of_getElem? (i := 272) (by decide +kernel)⟩
theorem lw_p12 : lw_okq (⟨"PartCurves", "ruleAt", "(LPartCurves$Part;II)I"⟩, 7) := ⟨⟨by decide +kernel, by decide +kernel⟩, List.mem_of_getElem? (i := 9) (by decide +kernel), List.mem_of_getElem? (i := 276) (by decide +kernel), List.mem_of_getElem? (i := 277) (by decide +kernel)⟩
theorem lw_p13 : lw_okq (⟨"PartCurves", "aboveLimit", "(LPartCurves$Part;I)Z"⟩, 7) := ⟨⟨by decide +kernel, by decide +kernel⟩, List.mem_of_getElem? (i := 9) (by decide +kernel), List.mem_of_getElem? (i := 280) (by decide +kernel), List.mem_of_getElem? (i := 281) (by decide +kernel)⟩
theorem lw_p14 : lw_okq (⟨"PartCurves", "readPulse", "(LPartCurves$Part;II)I"⟩, 7) := ⟨⟨by decide +kernel, by decide +kernel⟩, List.mem_of_getElem? (i := 9) (by decide +kernel), List.mem_of_getElem? (i := 296) (by decide +kernel), List.mem_of_getElem? (i := 297) (by decide +kernel)⟩
theorem lw_p15 : lw_okq (⟨"PartCurves", "tellBurnt", "(II)V"⟩, 7) := ⟨⟨by decide +kernel, by decide +kernel⟩, List.mem_of_getElem? (i := 9) (by decide +kernel), List.mem_of_getElem? (i := 324) (by decide +kernel), List.mem_of_getElem? (i := 325) (by decide +kernel)⟩
def lw_privs_1 : List (MethodName × Nat) := [(⟨"PartCurves", "partAt", "(I)LPartCurves$Part;"⟩, 7), (⟨"PartCurves", "wouldShort", "(II)Z"⟩, 7), (⟨"PartCurves", "inHand", "()I"⟩, 7), (⟨"PartCurves", "highAndLowAtOnePinEach", "()Z"⟩, 7), (⟨"PartCurves", "joinsHighAndLow", "(LPartCurves$Part;)Z"⟩, 7), (⟨"PartCurves", "fourWires", "()Z"⟩, 7), (⟨"PartCurves$Part", "coldAmps", "(I)I"⟩, 12), (⟨"PartCurves", "farthest", "(LPartCurves$Part;I)I"⟩, 7), (⟨"PartCurves", "allowed", "(LPartCurves$Part;II)Z"⟩, 7), (⟨"PartCurves", "ampsAt", "(LPartCurves$Part;I)I"⟩, 7), (⟨"PartCurves", "owned", "(LPartCurves$Part;I)I"⟩, 7), (⟨"PartCurves", "drop", "(I)I"⟩, 7), (⟨"PartCurves", "ruleAt", "(LPartCurves$Part;II)I"⟩, 7), (⟨"PartCurves", "aboveLimit", "(LPartCurves$Part;I)Z"⟩, 7), (⟨"PartCurves", "readPulse", "(LPartCurves$Part;II)I"⟩, 7), (⟨"PartCurves", "tellBurnt", "(II)V"⟩, 7)]
theorem lw_r1 : ∀ q ∈ lw_privs_1, lw_okq q := List.forall_mem_cons.mpr ⟨lw_p0, List.forall_mem_cons.mpr ⟨lw_p1, List.forall_mem_cons.mpr ⟨lw_p2, List.forall_mem_cons.mpr ⟨lw_p3, List.forall_mem_cons.mpr ⟨lw_p4, List.forall_mem_cons.mpr ⟨lw_p5, List.forall_mem_cons.mpr ⟨lw_p6, List.forall_mem_cons.mpr ⟨lw_p7, List.forall_mem_cons.mpr ⟨lw_p8, List.forall_mem_cons.mpr ⟨lw_p9, List.forall_mem_cons.mpr ⟨lw_p10, List.forall_mem_cons.mpr ⟨lw_p11, List.forall_mem_cons.mpr ⟨lw_p12, List.forall_mem_cons.mpr ⟨lw_p13, List.forall_mem_cons.mpr ⟨lw_p14, List.forall_mem_cons.mpr ⟨lw_p15, fun _ h => absurd h List.not_mem_nil⟩⟩⟩⟩⟩⟩⟩⟩⟩⟩⟩⟩⟩⟩⟩⟩
theorem lw_p16 : lw_okq (⟨"PartCurves", "coolAll", "(I)V"⟩, 7) := ⟨⟨by decide +kernel, by decide +kernel⟩, List.mem_of_getElem? (i := 9) (by decide +kernel), List.mem_of_getElem? (i := 336) (by decide +kernel), List.mem_of_getElem? (i := 337) (by decide +kernel)⟩
theorem lw_p17 : lw_okq (⟨"PartCurves", "partsThere", "(Z)I"⟩, 7) := ⟨⟨by decide +kernel, by decide +kernel⟩, List.mem_of_getElem? (i := 9) (by decide +kernel), List.mem_of_getElem? (i := 412) (by decide +kernel), List.mem_of_getElem? (i := 413) (by decide +kernel)⟩
theorem lw_p18 : lw_okq (⟨"PartCurves", "closedRelays", "()I"⟩, 7) := ⟨⟨by decide +kernel, by decide +kernel⟩, List.mem_of_getElem? (i := 9) (by decide +kernel), List.mem_of_getElem? (i := 416) (by decide +kernel), List.mem_of_getElem? (i := 417) (by decide +kernel)⟩
theorem lw_p19 : lw_okq (⟨"PartCurvesModel", "isPart", "(I)Z"⟩, 25) := ⟨⟨by decide +kernel, by decide +kernel⟩, List.mem_of_getElem? (i := 424) (by decide +kernel), List.mem_of_getElem? (i := 521) (by decide +kernel), List.mem_of_getElem? (i := 522) (by decide +kernel)⟩
theorem lw_p20 : lw_okq (⟨"PartCurvesModel", "number", "(II)I"⟩, 25) := ⟨⟨by decide +kernel, by decide +kernel⟩, List.mem_of_getElem? (i := 424) (by decide +kernel), List.mem_of_getElem? (i := 529) (by decide +kernel), List.mem_of_getElem? (i := 530) (by decide +kernel)⟩
theorem lw_p21 : lw_okq (⟨"PartCurvesModel", "inHand", "()I"⟩, 25) := ⟨⟨by decide +kernel, by decide +kernel⟩, List.mem_of_getElem? (i := 424) (by decide +kernel), List.mem_of_getElem? (i := 552) (by decide +kernel), List.mem_of_getElem? (i := 553) (by decide +kernel)⟩
theorem lw_p22 : lw_okq (⟨"PartCurvesModel", "pinOf", "(I)I"⟩, 25) := ⟨⟨by decide +kernel, by decide +kernel⟩, List.mem_of_getElem? (i := 424) (by decide +kernel), List.mem_of_getElem? (i := 556) (by decide +kernel), List.mem_of_getElem? (i := 557) (by decide +kernel)⟩
theorem lw_p23 : lw_okq (⟨"PartCurvesModel", "isFourWires", "()Z"⟩, 25) := ⟨⟨by decide +kernel, by decide +kernel⟩, List.mem_of_getElem? (i := 424) (by decide +kernel), List.mem_of_getElem? (i := 572) (by decide +kernel), List.mem_of_getElem? (i := 573) (by decide +kernel)⟩
theorem lw_p24 : lw_okq (⟨"PartCurvesModel", "ownAmps", "(II)I"⟩, 25) := ⟨⟨by decide +kernel, by decide +kernel⟩, List.mem_of_getElem? (i := 424) (by decide +kernel), List.mem_of_getElem? (i := 580) (by decide +kernel), List.mem_of_getElem? (i := 581) (by decide +kernel)⟩
theorem lw_p25 : lw_okq (⟨"PartCurvesModel", "cold", "(II)I"⟩, 25) := ⟨⟨by decide +kernel, by decide +kernel⟩, List.mem_of_getElem? (i := 424) (by decide +kernel), List.mem_of_getElem? (i := 584) (by decide +kernel), List.mem_of_getElem? (i := 585) (by decide +kernel)⟩
theorem lw_p26 : lw_okq (⟨"PartCurvesModel", "finds", "(II)V"⟩, 25) := ⟨⟨by decide +kernel, by decide +kernel⟩, List.mem_of_getElem? (i := 424) (by decide +kernel), List.mem_of_getElem? (i := 596) (by decide +kernel), List.mem_of_getElem? (i := 597) (by decide +kernel)⟩
theorem lw_p27 : lw_okq (⟨"PartCurvesModel", "against", "(III)I"⟩, 25) := ⟨⟨by decide +kernel, by decide +kernel⟩, List.mem_of_getElem? (i := 424) (by decide +kernel), List.mem_of_getElem? (i := 600) (by decide +kernel), List.mem_of_getElem? (i := 601) (by decide +kernel)⟩
theorem lw_p28 : lw_okq (⟨"PartCurvesModel", "ampsAt", "(II)I"⟩, 25) := ⟨⟨by decide +kernel, by decide +kernel⟩, List.mem_of_getElem? (i := 424) (by decide +kernel), List.mem_of_getElem? (i := 604) (by decide +kernel), List.mem_of_getElem? (i := 605) (by decide +kernel)⟩
theorem lw_p29 : lw_okq (⟨"PartCurvesModel", "isForward", "(I)Z"⟩, 25) := ⟨⟨by decide +kernel, by decide +kernel⟩, List.mem_of_getElem? (i := 424) (by decide +kernel), List.mem_of_getElem? (i := 608) (by decide +kernel), List.mem_of_getElem? (i := 609) (by decide +kernel)⟩
theorem lw_p30 : lw_okq (⟨"PartCurvesModel", "dropBy", "(I)I"⟩, 25) := ⟨⟨by decide +kernel, by decide +kernel⟩, List.mem_of_getElem? (i := 424) (by decide +kernel), List.mem_of_getElem? (i := 615) (by decide +kernel), List.mem_of_getElem? (i := 616) (by decide +kernel)⟩
theorem lw_p31 : lw_okq (⟨"PartCurvesModel", "pulses", "(II)V"⟩, 25) := ⟨⟨by decide +kernel, by decide +kernel⟩, List.mem_of_getElem? (i := 424) (by decide +kernel), List.mem_of_getElem? (i := 623) (by decide +kernel), List.mem_of_getElem? (i := 624) (by decide +kernel)⟩
def lw_privs_2 : List (MethodName × Nat) := [(⟨"PartCurves", "coolAll", "(I)V"⟩, 7), (⟨"PartCurves", "partsThere", "(Z)I"⟩, 7), (⟨"PartCurves", "closedRelays", "()I"⟩, 7), (⟨"PartCurvesModel", "isPart", "(I)Z"⟩, 25), (⟨"PartCurvesModel", "number", "(II)I"⟩, 25), (⟨"PartCurvesModel", "inHand", "()I"⟩, 25), (⟨"PartCurvesModel", "pinOf", "(I)I"⟩, 25), (⟨"PartCurvesModel", "isFourWires", "()Z"⟩, 25), (⟨"PartCurvesModel", "ownAmps", "(II)I"⟩, 25), (⟨"PartCurvesModel", "cold", "(II)I"⟩, 25), (⟨"PartCurvesModel", "finds", "(II)V"⟩, 25), (⟨"PartCurvesModel", "against", "(III)I"⟩, 25), (⟨"PartCurvesModel", "ampsAt", "(II)I"⟩, 25), (⟨"PartCurvesModel", "isForward", "(I)Z"⟩, 25), (⟨"PartCurvesModel", "dropBy", "(I)I"⟩, 25), (⟨"PartCurvesModel", "pulses", "(II)V"⟩, 25)]
theorem lw_r2 : ∀ q ∈ lw_privs_2, lw_okq q := List.forall_mem_cons.mpr ⟨lw_p16, List.forall_mem_cons.mpr ⟨lw_p17, List.forall_mem_cons.mpr ⟨lw_p18, List.forall_mem_cons.mpr ⟨lw_p19, List.forall_mem_cons.mpr ⟨lw_p20, List.forall_mem_cons.mpr ⟨lw_p21, List.forall_mem_cons.mpr ⟨lw_p22, List.forall_mem_cons.mpr ⟨lw_p23, List.forall_mem_cons.mpr ⟨lw_p24, List.forall_mem_cons.mpr ⟨lw_p25, List.forall_mem_cons.mpr ⟨lw_p26, List.forall_mem_cons.mpr ⟨lw_p27, List.forall_mem_cons.mpr ⟨lw_p28, List.forall_mem_cons.mpr ⟨lw_p29, List.forall_mem_cons.mpr ⟨lw_p30, List.forall_mem_cons.mpr ⟨lw_p31, fun _ h => absurd h List.not_mem_nil⟩⟩⟩⟩⟩⟩⟩⟩⟩⟩⟩⟩⟩⟩⟩⟩
theorem lw_p32 : lw_okq (⟨"PartCurvesModel", "heats", "(III)V"⟩, 25) := ⟨⟨by decide +kernel, by decide +kernel⟩, List.mem_of_getElem? (i := 424) (by decide +kernel), List.mem_of_getElem? (i := 627) (by decide +kernel), List.mem_of_getElem? (i := 628) (by decide +kernel)⟩
theorem lw_p33 : lw_okq (⟨"PartCurvesModel", "cause", "(II)V"⟩, 25) := ⟨⟨by decide +kernel, by decide +kernel⟩, List.mem_of_getElem? (i := 424) (by decide +kernel), List.mem_of_getElem? (i := 632) (by decide +kernel), List.mem_of_getElem? (i := 633) (by decide +kernel)⟩
theorem lw_p34 : lw_okq (⟨"PartCurvesModel", "rests", "(I)V"⟩, 25) := ⟨⟨by decide +kernel, by decide +kernel⟩, List.mem_of_getElem? (i := 424) (by decide +kernel), List.mem_of_getElem? (i := 640) (by decide +kernel), List.mem_of_getElem? (i := 641) (by decide +kernel)⟩
theorem lw_p35 : lw_okq (⟨"PartCurvesModel", "isReading", "(I)Z"⟩, 25) := ⟨⟨by decide +kernel, by decide +kernel⟩, List.mem_of_getElem? (i := 424) (by decide +kernel), List.mem_of_getElem? (i := 659) (by decide +kernel), List.mem_of_getElem? (i := 660) (by decide +kernel)⟩
theorem lw_p36 : lw_okq (⟨"PartCurvesModel", "off", "(III)J"⟩, 25) := ⟨⟨by decide +kernel, by decide +kernel⟩, List.mem_of_getElem? (i := 424) (by decide +kernel), List.mem_of_getElem? (i := 671) (by decide +kernel), List.mem_of_getElem? (i := 672) (by decide +kernel)⟩
theorem lw_p37 : lw_okq (⟨"PartCurvesModel", "manyRule", "(I)I"⟩, 25) := ⟨⟨by decide +kernel, by decide +kernel⟩, List.mem_of_getElem? (i := 424) (by decide +kernel), List.mem_of_getElem? (i := 691) (by decide +kernel), List.mem_of_getElem? (i := 692) (by decide +kernel)⟩
def lw_privs_3 : List (MethodName × Nat) := [(⟨"PartCurvesModel", "heats", "(III)V"⟩, 25), (⟨"PartCurvesModel", "cause", "(II)V"⟩, 25), (⟨"PartCurvesModel", "rests", "(I)V"⟩, 25), (⟨"PartCurvesModel", "isReading", "(I)Z"⟩, 25), (⟨"PartCurvesModel", "off", "(III)J"⟩, 25), (⟨"PartCurvesModel", "manyRule", "(I)I"⟩, 25)]
theorem lw_r3 : ∀ q ∈ lw_privs_3, lw_okq q := List.forall_mem_cons.mpr ⟨lw_p32, List.forall_mem_cons.mpr ⟨lw_p33, List.forall_mem_cons.mpr ⟨lw_p34, List.forall_mem_cons.mpr ⟨lw_p35, List.forall_mem_cons.mpr ⟨lw_p36, List.forall_mem_cons.mpr ⟨lw_p37, fun _ h => absurd h List.not_mem_nil⟩⟩⟩⟩⟩⟩
def lw_privs : List (MethodName × Nat) := lw_privs_1 ++ (lw_privs_2 ++ (lw_privs_3))
def lw_tbl : List Cond := k2_sels lw_privs ++ tables_1
theorem lw_privs_ok : ∀ q ∈ lw_privs, lw_okq q := by
  show ∀ q ∈ lw_privs_1 ++ (lw_privs_2 ++ (lw_privs_3)), lw_okq q
  exact List.forall_mem_append.mpr ⟨lw_r1, List.forall_mem_append.mpr ⟨lw_r2, lw_r3⟩⟩
-- ===== end of PART A; then your names; then what follows =====
end
section
/-! ===== BEGIN words of one list among another's, by their places ===== -/
theorem goodIn_r {big : List Cond} (ws : List Cond) (ps : List Nat) (hp : ws = ps.filterMap (fun i => big[i]?)) (h : ws.all goodWord = true) : GoodIn big ws := by
  intro w hw
  have h1 := List.all_eq_true.mp h w hw
  rw [hp] at hw
  obtain ⟨i, -, hi⟩ := List.mem_filterMap.mp hw
  have hm : w ∈ big := by first | exact List.mem_of_getElem? hi | exact List.getElem?_mem hi
  exact ⟨hm, good_of_word h1⟩
theorem goodIn_app {big a b : List Cond} (ha : GoodIn big a) (hb : GoodIn big b) : GoodIn big (a ++ b) := fun w h => (List.mem_append.mp h).elim (ha w) (hb w)
theorem goodIn_ca {big a b : List Cond} {c : Cond} (ha : GoodIn big (c :: a)) (hb : GoodIn big b) : GoodIn big (c :: (a ++ b)) := fun w h => (List.mem_cons.mp h).elim (fun e => ha w (List.mem_cons.mpr (Or.inl e))) (fun h => (List.mem_append.mp h).elim (fun h => ha w (List.mem_cons.mpr (Or.inr h))) (hb w))
theorem goodIn_sub {big ws : List Cond} (hm : ∀ w ∈ ws, w ∈ big) (h : ws.all goodWord = true) : GoodIn big ws := fun w hw => ⟨hm w hw, good_of_word (List.all_eq_true.mp h w hw)⟩
/-! ===== END ===== -/

/-! ===== BEGIN printed: names, fields, word lists, decode rows ===== -/
def RX0 : String := "PartCurves$Causes"
def TX0 : u_T := fun k => match k with
  | 0 => ("PartCurves$Causes", "sorts", "[I", true)
  | 1 => ("PartCurves$Causes", "numbers", "[I", true)
  | _ => ("PartCurves$Causes", "count", "I", false)
def tyX0 : Nat → FieldType := fun k => match k with
  | 0 => .array .int
  | 1 => .array .int
  | _ => .int
abbrev wsX00 : List Cond := u_ws RX0 TX0 3
theorem nmX0 : ∀ a, a < 3 → ∀ b, b < 3 → a ≠ b → (TX0 a).2.1 ≠ (TX0 b).2.1 := by decide +kernel
theorem tyX0_ok : ∀ k, k < 3 → parseFieldDescriptor (TX0 k).2.2.1 = some (tyX0 k) := by decide +kernel
abbrev cX0_init : ByteArray := prog_2_method_1_code
def yX0_init : MethodName := ⟨RX0, "<init>", "()V"⟩
abbrev cX0_clearAll : ByteArray := prog_2_method_2_code
def yX0_clearAll : MethodName := ⟨RX0, "clearAll", "()V"⟩
abbrev cX0_put : ByteArray := prog_2_method_3_code
def yX0_put : MethodName := ⟨RX0, "put", "(II)V"⟩
def RX1 : String := "PartCurves$Part"
def TX1 : u_T := fun k => match k with
  | 0 => ("PartCurves$Part", "there", "Z", false)
  | 1 => ("PartCurves$Part", "burnt", "Z", false)
  | 2 => ("PartCurves$Part", "open", "Z", false)
  | 3 => ("PartCurves$Part", "first", "I", false)
  | 4 => ("PartCurves$Part", "other", "I", false)
  | 5 => ("PartCurves$Part", "kind", "I", false)
  | 6 => ("PartCurves$Part", "heat", "I", false)
  | 7 => ("PartCurves$Part", "g", "I", false)
  | 8 => ("PartCurves$Part", "k", "I", false)
  | 9 => ("PartCurves$Part", "h", "I", false)
  | 10 => ("PartCurves$Part", "m", "I", false)
  | _ => ("PartCurves$Part", "c", "I", false)
def tyX1 : Nat → FieldType := fun k => match k with
  | 0 => .boolean
  | 1 => .boolean
  | 2 => .boolean
  | 3 => .int
  | 4 => .int
  | 5 => .int
  | 6 => .int
  | 7 => .int
  | 8 => .int
  | 9 => .int
  | 10 => .int
  | _ => .int
abbrev wsX10 : List Cond := u_ws RX1 TX1 12
theorem nmX1 : ∀ a, a < 12 → ∀ b, b < 12 → a ≠ b → (TX1 a).2.1 ≠ (TX1 b).2.1 := by decide +kernel
theorem tyX1_ok : ∀ k, k < 12 → parseFieldDescriptor (TX1 k).2.2.1 = some (tyX1 k) := by decide +kernel
abbrev cX1_init : ByteArray := prog_3_method_1_code
def yX1_init : MethodName := ⟨RX1, "<init>", "()V"⟩
abbrev cX1_takes : ByteArray := prog_3_method_2_code
def yX1_takes : MethodName := ⟨RX1, "takes", "(II)Z"⟩
abbrev cX1_renew : ByteArray := prog_3_method_3_code
def yX1_renew : MethodName := ⟨RX1, "renew", "(III)V"⟩
abbrev cX1_number : ByteArray := prog_3_method_4_code
def yX1_number : MethodName := ⟨RX1, "number", "(I)I"⟩
abbrev cX1_putNumber : ByteArray := prog_3_method_5_code
def yX1_putNumber : MethodName := ⟨RX1, "putNumber", "(II)V"⟩
abbrev cX1_ownAmps : ByteArray := prog_3_method_6_code
def yX1_ownAmps : MethodName := ⟨RX1, "ownAmps", "(I)I"⟩
abbrev cX1_coldAmps : ByteArray := prog_3_method_7_code
def yX1_coldAmps : MethodName := ⟨RX1, "coldAmps", "(I)I"⟩
abbrev cX1_snapsOpenAt : ByteArray := prog_3_method_8_code
def yX1_snapsOpenAt : MethodName := ⟨RX1, "snapsOpenAt", "(I)Z"⟩
abbrev cX1_shutBelow : ByteArray := prog_3_method_9_code
def yX1_shutBelow : MethodName := ⟨RX1, "shutBelow", "(I)V"⟩
abbrev cX1_warm : ByteArray := prog_3_method_10_code
def yX1_warm : MethodName := ⟨RX1, "warm", "(III)I"⟩
abbrev cX1_cool : ByteArray := prog_3_method_11_code
def yX1_cool : MethodName := ⟨RX1, "cool", "(I)V"⟩
def RX2 : String := "PartCurves$Readings"
def TX2 : u_T := fun k => match k with
  | 0 => ("PartCurves$Readings", "forced", "[I", true)
  | 1 => ("PartCurves$Readings", "told", "[I", true)
  | 2 => ("PartCurves$Readings", "flowed", "[I", true)
  | 3 => ("PartCurves$Readings", "rules", "[I", true)
  | _ => ("PartCurves$Readings", "count", "I", false)
def tyX2 : Nat → FieldType := fun k => match k with
  | 0 => .array .int
  | 1 => .array .int
  | 2 => .array .int
  | 3 => .array .int
  | _ => .int
abbrev wsX20 : List Cond := u_ws RX2 TX2 5
theorem nmX2 : ∀ a, a < 5 → ∀ b, b < 5 → a ≠ b → (TX2 a).2.1 ≠ (TX2 b).2.1 := by decide +kernel
theorem tyX2_ok : ∀ k, k < 5 → parseFieldDescriptor (TX2 k).2.2.1 = some (tyX2 k) := by decide +kernel
abbrev cX2_init : ByteArray := prog_4_method_1_code
def yX2_init : MethodName := ⟨RX2, "<init>", "()V"⟩
abbrev cX2_has : ByteArray := prog_4_method_2_code
def yX2_has : MethodName := ⟨RX2, "has", "(I)Z"⟩
abbrev cX2_room : ByteArray := prog_4_method_3_code
def yX2_room : MethodName := ⟨RX2, "room", "()I"⟩
abbrev cX2_add : ByteArray := prog_4_method_4_code
def yX2_add : MethodName := ⟨RX2, "add", "(IIII)V"⟩
abbrev cX2_withRule : ByteArray := prog_4_method_5_code
def yX2_withRule : MethodName := ⟨RX2, "withRule", "(I)I"⟩
abbrev cX2_kneePoint : ByteArray := prog_4_method_6_code
def yX2_kneePoint : MethodName := ⟨RX2, "kneePoint", "(II)I"⟩
abbrev cX2_greatestGap : ByteArray := prog_4_method_7_code
def yX2_greatestGap : MethodName := ⟨RX2, "greatestGap", "(II)I"⟩
abbrev cX2_lineFitted : ByteArray := prog_4_method_8_code
def yX2_lineFitted : MethodName := ⟨RX2, "lineFitted", "(III)J"⟩
abbrev cX2_sum : ByteArray := prog_4_method_9_code
def yX2_sum : MethodName := ⟨RX2, "sum", "([III)J"⟩
abbrev cX2_sumOfProducts : ByteArray := prog_4_method_10_code
def yX2_sumOfProducts : MethodName := ⟨RX2, "sumOfProducts", "([I[III)J"⟩
abbrev cX2_ofFraction : ByteArray := prog_4_method_11_code
def yX2_ofFraction : MethodName := ⟨RX2, "ofFraction", "(JJZ)J"⟩
abbrev cX2_greatestDivisor : ByteArray := prog_4_method_12_code
def yX2_greatestDivisor : MethodName := ⟨RX2, "greatestDivisor", "(JJ)J"⟩
def RX3 : String := "PartCurves"
def TX3 : u_T := fun k => match k with
  | 0 => ("PartCurves", "parts", "[LPartCurves$Part;", true)
  | 1 => ("PartCurves", "pinSets", "[I", true)
  | 2 => ("PartCurves", "readings", "LPartCurves$Readings;", true)
  | 3 => ("PartCurves", "causes", "LPartCurves$Causes;", true)
  | 4 => ("PartCurves", "powerOn", "Z", false)
  | 5 => ("PartCurves", "mostAmps", "I", false)
  | _ => ("PartCurves", "leadOhms", "I", false)
def tyX3 : Nat → FieldType := fun k => match k with
  | 0 => .array (.object "PartCurves$Part")
  | 1 => .array .int
  | 2 => .object "PartCurves$Readings"
  | 3 => .object "PartCurves$Causes"
  | 4 => .boolean
  | 5 => .int
  | _ => .int
abbrev wsX30 : List Cond := u_ws RX3 TX3 7
theorem nmX3 : ∀ a, a < 7 → ∀ b, b < 7 → a ≠ b → (TX3 a).2.1 ≠ (TX3 b).2.1 := by decide +kernel
theorem tyX3_ok : ∀ k, k < 7 → parseFieldDescriptor (TX3 k).2.2.1 = some (tyX3 k) := by decide +kernel
abbrev cX3_init : ByteArray := prog_1_method_1_code
def yX3_init : MethodName := ⟨RX3, "<init>", "()V"⟩
abbrev cX3_part : ByteArray := prog_1_method_2_code
def yX3_part : MethodName := ⟨RX3, "part", "(IIII)I"⟩
abbrev cX3_remove : ByteArray := prog_1_method_3_code
def yX3_remove : MethodName := ⟨RX3, "remove", "(I)I"⟩
abbrev cX3_set : ByteArray := prog_1_method_4_code
def yX3_set : MethodName := ⟨RX3, "set", "(III)I"⟩
abbrev cX3_ofPart : ByteArray := prog_1_method_5_code
def yX3_ofPart : MethodName := ⟨RX3, "ofPart", "(II)I"⟩
abbrev cX3_relay : ByteArray := prog_1_method_6_code
def yX3_relay : MethodName := ⟨RX3, "relay", "(III)I"⟩
abbrev cX3_pins : ByteArray := prog_1_method_7_code
def yX3_pins : MethodName := ⟨RX3, "pins", "(I)I"⟩
abbrev cX3_power : ByteArray := prog_1_method_8_code
def yX3_power : MethodName := ⟨RX3, "power", "(I)I"⟩
abbrev cX3_limit : ByteArray := prog_1_method_9_code
def yX3_limit : MethodName := ⟨RX3, "limit", "(I)I"⟩
abbrev cX3_leads : ByteArray := prog_1_method_10_code
def yX3_leads : MethodName := ⟨RX3, "leads", "(I)I"⟩
abbrev cX3_now : ByteArray := prog_1_method_11_code
def yX3_now : MethodName := ⟨RX3, "now", "(I)I"⟩
abbrev cX3_amps : ByteArray := prog_1_method_12_code
def yX3_amps : MethodName := ⟨RX3, "amps", "(II)I"⟩
abbrev cX3_would : ByteArray := prog_1_method_13_code
def yX3_would : MethodName := ⟨RX3, "would", "(II)I"⟩
abbrev cX3_pulse : ByteArray := prog_1_method_14_code
def yX3_pulse : MethodName := ⟨RX3, "pulse", "(II)I"⟩
abbrev cX3_rest : ByteArray := prog_1_method_15_code
def yX3_rest : MethodName := ⟨RX3, "rest", "(I)I"⟩
abbrev cX3_sweep : ByteArray := prog_1_method_16_code
def yX3_sweep : MethodName := ⟨RX3, "sweep", "(IIIIII)I"⟩
abbrev cX3_why : ByteArray := prog_1_method_17_code
def yX3_why : MethodName := ⟨RX3, "why", "(II)I"⟩
abbrev cX3_reading : ByteArray := prog_1_method_18_code
def yX3_reading : MethodName := ⟨RX3, "reading", "(II)I"⟩
abbrev cX3_clear : ByteArray := prog_1_method_19_code
def yX3_clear : MethodName := ⟨RX3, "clear", "()I"⟩
abbrev cX3_knee : ByteArray := prog_1_method_20_code
def yX3_knee : MethodName := ⟨RX3, "knee", "(II)I"⟩
abbrev cX3_fit : ByteArray := prog_1_method_21_code
def yX3_fit : MethodName := ⟨RX3, "fit", "(III)J"⟩
abbrev cX3_gap : ByteArray := prog_1_method_22_code
def yX3_gap : MethodName := ⟨RX3, "gap", "(II)I"⟩
abbrev cX3_many : ByteArray := prog_1_method_23_code
def yX3_many : MethodName := ⟨RX3, "many", "(I)I"⟩
abbrev cX3_within : ByteArray := prog_1_method_24_code
def yX3_within : MethodName := ⟨RX3, "within", "(III)Z"⟩
abbrev cX3_isVolts : ByteArray := prog_1_method_25_code
def yX3_isVolts : MethodName := ⟨RX3, "isVolts", "(I)Z"⟩
abbrev cX3_partAt : ByteArray := prog_1_method_26_code
def yX3_partAt : MethodName := ⟨RX3, "partAt", "(I)LPartCurves$Part;"⟩
abbrev cX3_wouldShort : ByteArray := prog_1_method_27_code
def yX3_wouldShort : MethodName := ⟨RX3, "wouldShort", "(II)Z"⟩
abbrev cX3_highAndLowAtOnePinEach : ByteArray := prog_1_method_28_code
def yX3_highAndLowAtOnePinEach : MethodName := ⟨RX3, "highAndLowAtOnePinEach", "()Z"⟩
abbrev cX3_inHand : ByteArray := prog_1_method_29_code
def yX3_inHand : MethodName := ⟨RX3, "inHand", "()I"⟩
abbrev cX3_joinsHighAndLow : ByteArray := prog_1_method_30_code
def yX3_joinsHighAndLow : MethodName := ⟨RX3, "joinsHighAndLow", "(LPartCurves$Part;)Z"⟩
abbrev cX3_fourWires : ByteArray := prog_1_method_31_code
def yX3_fourWires : MethodName := ⟨RX3, "fourWires", "()Z"⟩
abbrev cX3_closedRelays : ByteArray := prog_1_method_32_code
def yX3_closedRelays : MethodName := ⟨RX3, "closedRelays", "()I"⟩
abbrev cX3_partsThere : ByteArray := prog_1_method_33_code
def yX3_partsThere : MethodName := ⟨RX3, "partsThere", "(Z)I"⟩
abbrev cX3_owned : ByteArray := prog_1_method_34_code
def yX3_owned : MethodName := ⟨RX3, "owned", "(LPartCurves$Part;I)I"⟩
abbrev cX3_ampsAt : ByteArray := prog_1_method_35_code
def yX3_ampsAt : MethodName := ⟨RX3, "ampsAt", "(LPartCurves$Part;I)I"⟩
abbrev cX3_drop : ByteArray := prog_1_method_36_code
def yX3_drop : MethodName := ⟨RX3, "drop", "(I)I"⟩
abbrev cX3_aboveLimit : ByteArray := prog_1_method_37_code
def yX3_aboveLimit : MethodName := ⟨RX3, "aboveLimit", "(LPartCurves$Part;I)Z"⟩
abbrev cX3_allowed : ByteArray := prog_1_method_38_code
def yX3_allowed : MethodName := ⟨RX3, "allowed", "(LPartCurves$Part;II)Z"⟩
abbrev cX3_farthest : ByteArray := prog_1_method_39_code
def yX3_farthest : MethodName := ⟨RX3, "farthest", "(LPartCurves$Part;I)I"⟩
abbrev cX3_ruleAt : ByteArray := prog_1_method_40_code
def yX3_ruleAt : MethodName := ⟨RX3, "ruleAt", "(LPartCurves$Part;II)I"⟩
abbrev cX3_readPulse : ByteArray := prog_1_method_41_code
def yX3_readPulse : MethodName := ⟨RX3, "readPulse", "(LPartCurves$Part;II)I"⟩
abbrev cX3_tellBurnt : ByteArray := prog_1_method_42_code
def yX3_tellBurnt : MethodName := ⟨RX3, "tellBurnt", "(II)V"⟩
abbrev cX3_coolAll : ByteArray := prog_1_method_43_code
def yX3_coolAll : MethodName := ⟨RX3, "coolAll", "(I)V"⟩
def RX4 : String := "PartCurvesModel"
def TX4 : u_T := fun k => match k with
  | 0 => ("PartCurvesModel", "isThere", "[Z", true)
  | 1 => ("PartCurvesModel", "firstOf", "[I", true)
  | 2 => ("PartCurvesModel", "otherOf", "[I", true)
  | 3 => ("PartCurvesModel", "kindOf", "[I", true)
  | 4 => ("PartCurvesModel", "numberOf", "[I", true)
  | 5 => ("PartCurvesModel", "leastNumber", "[I", true)
  | 6 => ("PartCurvesModel", "mostNumber", "[I", true)
  | 7 => ("PartCurvesModel", "heatOf", "[I", true)
  | 8 => ("PartCurvesModel", "isBurnt", "[Z", true)
  | 9 => ("PartCurvesModel", "isOpen", "[Z", true)
  | 10 => ("PartCurvesModel", "pinsOf", "[I", true)
  | 11 => ("PartCurvesModel", "isOn", "Z", false)
  | 12 => ("PartCurvesModel", "limit", "I", false)
  | 13 => ("PartCurvesModel", "leads", "I", false)
  | 14 => ("PartCurvesModel", "found", "I", false)
  | 15 => ("PartCurvesModel", "rule", "I", false)
  | 16 => ("PartCurvesModel", "readings", "I", false)
  | 17 => ("PartCurvesModel", "forced", "[I", true)
  | 18 => ("PartCurvesModel", "toldVolts", "[I", true)
  | 19 => ("PartCurvesModel", "ampsOf", "[I", true)
  | 20 => ("PartCurvesModel", "ruleOf", "[I", true)
  | 21 => ("PartCurvesModel", "causes", "I", false)
  | 22 => ("PartCurvesModel", "causeSort", "[I", true)
  | 23 => ("PartCurvesModel", "causeNumber", "[I", true)
  | _ => ("PartCurvesModel", "tooHot", "I", false)
def tyX4 : Nat → FieldType := fun k => match k with
  | 0 => .array .boolean
  | 1 => .array .int
  | 2 => .array .int
  | 3 => .array .int
  | 4 => .array .int
  | 5 => .array .int
  | 6 => .array .int
  | 7 => .array .int
  | 8 => .array .boolean
  | 9 => .array .boolean
  | 10 => .array .int
  | 11 => .boolean
  | 12 => .int
  | 13 => .int
  | 14 => .int
  | 15 => .int
  | 16 => .int
  | 17 => .array .int
  | 18 => .array .int
  | 19 => .array .int
  | 20 => .array .int
  | 21 => .int
  | 22 => .array .int
  | 23 => .array .int
  | _ => .int
abbrev wsX40 : List Cond := u_ws RX4 TX4 25
theorem nmX4 : ∀ a, a < 25 → ∀ b, b < 25 → a ≠ b → (TX4 a).2.1 ≠ (TX4 b).2.1 := by decide +kernel
theorem tyX4_ok : ∀ k, k < 25 → parseFieldDescriptor (TX4 k).2.2.1 = some (tyX4 k) := by decide +kernel
abbrev cX4_init : ByteArray := prog_6_method_1_code
def yX4_init : MethodName := ⟨RX4, "<init>", "()V"⟩
abbrev cX4_within : ByteArray := prog_6_method_2_code
def yX4_within : MethodName := ⟨RX4, "within", "(III)Z"⟩
abbrev cX4_size : ByteArray := prog_6_method_3_code
def yX4_size : MethodName := ⟨RX4, "size", "(I)I"⟩
abbrev cX4_cut : ByteArray := prog_6_method_4_code
def yX4_cut : MethodName := ⟨RX4, "cut", "(II)I"⟩
abbrev cX4_isPin : ByteArray := prog_6_method_5_code
def yX4_isPin : MethodName := ⟨RX4, "isPin", "(I)Z"⟩
abbrev cX4_isPart : ByteArray := prog_6_method_6_code
def yX4_isPart : MethodName := ⟨RX4, "isPart", "(I)Z"⟩
abbrev cX4_number : ByteArray := prog_6_method_7_code
def yX4_number : MethodName := ⟨RX4, "number", "(II)I"⟩
abbrev cX4_part : ByteArray := prog_6_method_8_code
def yX4_part : MethodName := ⟨RX4, "part", "(IIII)I"⟩
abbrev cX4_remove : ByteArray := prog_6_method_9_code
def yX4_remove : MethodName := ⟨RX4, "remove", "(I)I"⟩
abbrev cX4_set : ByteArray := prog_6_method_10_code
def yX4_set : MethodName := ⟨RX4, "set", "(III)I"⟩
abbrev cX4_ofPart : ByteArray := prog_6_method_11_code
def yX4_ofPart : MethodName := ⟨RX4, "ofPart", "(II)I"⟩
abbrev cX4_isTerminal : ByteArray := prog_6_method_12_code
def yX4_isTerminal : MethodName := ⟨RX4, "isTerminal", "(I)Z"⟩
abbrev cX4_relay : ByteArray := prog_6_method_13_code
def yX4_relay : MethodName := ⟨RX4, "relay", "(III)I"⟩
abbrev cX4_pins : ByteArray := prog_6_method_14_code
def yX4_pins : MethodName := ⟨RX4, "pins", "(I)I"⟩
abbrev cX4_pinOf : ByteArray := prog_6_method_15_code
def yX4_pinOf : MethodName := ⟨RX4, "pinOf", "(I)I"⟩
abbrev cX4_inHand : ByteArray := prog_6_method_16_code
def yX4_inHand : MethodName := ⟨RX4, "inHand", "()I"⟩
abbrev cX4_isFourWires : ByteArray := prog_6_method_17_code
def yX4_isFourWires : MethodName := ⟨RX4, "isFourWires", "()Z"⟩
abbrev cX4_power : ByteArray := prog_6_method_18_code
def yX4_power : MethodName := ⟨RX4, "power", "(I)I"⟩
abbrev cX4_limit : ByteArray := prog_6_method_19_code
def yX4_limit : MethodName := ⟨RX4, "limit", "(I)I"⟩
abbrev cX4_leads : ByteArray := prog_6_method_20_code
def yX4_leads : MethodName := ⟨RX4, "leads", "(I)I"⟩
abbrev cX4_now : ByteArray := prog_6_method_21_code
def yX4_now : MethodName := ⟨RX4, "now", "(I)I"⟩
abbrev cX4_cold : ByteArray := prog_6_method_22_code
def yX4_cold : MethodName := ⟨RX4, "cold", "(II)I"⟩
abbrev cX4_ownAmps : ByteArray := prog_6_method_23_code
def yX4_ownAmps : MethodName := ⟨RX4, "ownAmps", "(II)I"⟩
abbrev cX4_amps : ByteArray := prog_6_method_24_code
def yX4_amps : MethodName := ⟨RX4, "amps", "(II)I"⟩
abbrev cX4_isForward : ByteArray := prog_6_method_25_code
def yX4_isForward : MethodName := ⟨RX4, "isForward", "(I)Z"⟩
abbrev cX4_ampsAt : ByteArray := prog_6_method_26_code
def yX4_ampsAt : MethodName := ⟨RX4, "ampsAt", "(II)I"⟩
abbrev cX4_dropBy : ByteArray := prog_6_method_27_code
def yX4_dropBy : MethodName := ⟨RX4, "dropBy", "(I)I"⟩
abbrev cX4_against : ByteArray := prog_6_method_28_code
def yX4_against : MethodName := ⟨RX4, "against", "(III)I"⟩
abbrev cX4_finds : ByteArray := prog_6_method_29_code
def yX4_finds : MethodName := ⟨RX4, "finds", "(II)V"⟩
abbrev cX4_would : ByteArray := prog_6_method_30_code
def yX4_would : MethodName := ⟨RX4, "would", "(II)I"⟩
abbrev cX4_cause : ByteArray := prog_6_method_31_code
def yX4_cause : MethodName := ⟨RX4, "cause", "(II)V"⟩
abbrev cX4_pulses : ByteArray := prog_6_method_32_code
def yX4_pulses : MethodName := ⟨RX4, "pulses", "(II)V"⟩
abbrev cX4_heats : ByteArray := prog_6_method_33_code
def yX4_heats : MethodName := ⟨RX4, "heats", "(III)V"⟩
abbrev cX4_pulse : ByteArray := prog_6_method_34_code
def yX4_pulse : MethodName := ⟨RX4, "pulse", "(II)I"⟩
abbrev cX4_rests : ByteArray := prog_6_method_35_code
def yX4_rests : MethodName := ⟨RX4, "rests", "(I)V"⟩
abbrev cX4_rest : ByteArray := prog_6_method_36_code
def yX4_rest : MethodName := ⟨RX4, "rest", "(I)I"⟩
abbrev cX4_isSweep : ByteArray := prog_6_method_37_code
def yX4_isSweep : MethodName := ⟨RX4, "isSweep", "(IIIIII)Z"⟩
abbrev cX4_sweep : ByteArray := prog_6_method_38_code
def yX4_sweep : MethodName := ⟨RX4, "sweep", "(IIIIII)I"⟩
abbrev cX4_why : ByteArray := prog_6_method_39_code
def yX4_why : MethodName := ⟨RX4, "why", "(II)I"⟩
abbrev cX4_isReading : ByteArray := prog_6_method_40_code
def yX4_isReading : MethodName := ⟨RX4, "isReading", "(I)Z"⟩
abbrev cX4_reading : ByteArray := prog_6_method_41_code
def yX4_reading : MethodName := ⟨RX4, "reading", "(II)I"⟩
abbrev cX4_clear : ByteArray := prog_6_method_42_code
def yX4_clear : MethodName := ⟨RX4, "clear", "()I"⟩
abbrev cX4_off : ByteArray := prog_6_method_43_code
def yX4_off : MethodName := ⟨RX4, "off", "(III)J"⟩
abbrev cX4_knee : ByteArray := prog_6_method_44_code
def yX4_knee : MethodName := ⟨RX4, "knee", "(II)I"⟩
abbrev cX4_fraction : ByteArray := prog_6_method_45_code
def yX4_fraction : MethodName := ⟨RX4, "fraction", "(JJI)J"⟩
abbrev cX4_fit : ByteArray := prog_6_method_46_code
def yX4_fit : MethodName := ⟨RX4, "fit", "(III)J"⟩
abbrev cX4_gap : ByteArray := prog_6_method_47_code
def yX4_gap : MethodName := ⟨RX4, "gap", "(II)I"⟩
abbrev cX4_manyRule : ByteArray := prog_6_method_48_code
def yX4_manyRule : MethodName := ⟨RX4, "manyRule", "(I)I"⟩
abbrev cX4_many : ByteArray := prog_6_method_49_code
def yX4_many : MethodName := ⟨RX4, "many", "(I)I"⟩
def RJ6 : String := "java/lang/Integer"
def TJ6 : u_T := fun k => match k with
  | _ => ("", "", "", false)
def tyJ6 : Nat → FieldType := fun k => match k with
  | _ => .int
abbrev wsJ60 : List Cond := u_ws RJ6 TJ6 0
theorem nmJ6 : ∀ a, a < 0 → ∀ b, b < 0 → a ≠ b → (TJ6 a).2.1 ≠ (TJ6 b).2.1 := by decide +kernel
theorem tyJ6_ok : ∀ k, k < 0 → parseFieldDescriptor (TJ6 k).2.2.1 = some (tyJ6 k) := by decide +kernel
abbrev cJ6_bitCount_0f7a4 : ByteArray := prog_7_method_49_code
def yJ6_bitCount_0f7a4 : MethodName := ⟨RJ6, "bitCount", "(I)I"⟩
def RJ9 : String := "java/lang/Math"
def TJ9 : u_T := fun k => match k with
  | _ => ("", "", "", false)
def tyJ9 : Nat → FieldType := fun k => match k with
  | _ => .int
abbrev wsJ90 : List Cond := u_ws RJ9 TJ9 0
theorem nmJ9 : ∀ a, a < 0 → ∀ b, b < 0 → a ≠ b → (TJ9 a).2.1 ≠ (TJ9 b).2.1 := by decide +kernel
theorem tyJ9_ok : ∀ k, k < 0 → parseFieldDescriptor (TJ9 k).2.2.1 = some (tyJ9 k) := by decide +kernel
abbrev cJ9_floorDiv_7cf53 : ByteArray := prog_8_method_47_code
def yJ9_floorDiv_7cf53 : MethodName := ⟨RJ9, "floorDiv", "(II)I"⟩
abbrev cJ9_abs_0f7a4 : ByteArray := prog_8_method_59_code
def yJ9_abs_0f7a4 : MethodName := ⟨RJ9, "abs", "(I)I"⟩
abbrev cJ9_abs_067f4 : ByteArray := prog_8_method_61_code
def yJ9_abs_067f4 : MethodName := ⟨RJ9, "abs", "(J)J"⟩
abbrev cJ9_max_7cf53 : ByteArray := prog_8_method_65_code
def yJ9_max_7cf53 : MethodName := ⟨RJ9, "max", "(II)I"⟩
abbrev cJ9_min_7cf53 : ByteArray := prog_8_method_69_code
def yJ9_min_7cf53 : MethodName := ⟨RJ9, "min", "(II)I"⟩
def RL : String := "PartCurvesLaw"
abbrev cL_law : ByteArray := code
def yL_law : MethodName := ⟨RL, "law", "([I)Z"⟩
def wsX0_init : List Cond := .code yX0_init cX0_init 1 none :: ([.methodLink RX0 1 objectInit, .instanceMethod objectInit, .code objectInit ⟨#[0xb1]⟩ 1 none, .arrayClass .int, .fieldLink RX0 9 "PartCurves$Causes" "sorts" "[I", .fieldLink RX0 13 "PartCurves$Causes" "numbers" "[I", .fieldLink RX0 16 "PartCurves$Causes" "count" "I"] ++ wsX00)
def wsX0_clearAll : List Cond := .code yX0_clearAll cX0_clearAll 1 none :: ([.fieldLink RX0 16 "PartCurves$Causes" "count" "I"] ++ wsX00)
def wsX0_put : List Cond := .code yX0_put cX0_put 3 none :: ([.fieldLink RX0 16 "PartCurves$Causes" "count" "I", .fieldLink RX0 9 "PartCurves$Causes" "sorts" "[I", .fieldLink RX0 13 "PartCurves$Causes" "numbers" "[I"] ++ wsX00)
def wsX1_init : List Cond := .code yX1_init cX1_init 1 none :: ([.methodLink RX1 1 objectInit, .instanceMethod objectInit, .code objectInit ⟨#[0xb1]⟩ 1 none])
def wsX1_takes : List Cond := .code yX1_takes cX1_takes 2 (some .boolean) :: ([.fieldLink RX1 9 "PartCurves$Part" "LEAST" "[I", .fieldLink RX1 13 "PartCurves$Part" "MOST" "[I"])
def wsX1_renew : List Cond := .code yX1_renew cX1_renew 4 none :: ([.fieldLink RX1 16 "PartCurves$Part" "there" "Z", .fieldLink RX1 20 "PartCurves$Part" "burnt" "Z", .fieldLink RX1 23 "PartCurves$Part" "open" "Z", .fieldLink RX1 26 "PartCurves$Part" "first" "I", .fieldLink RX1 30 "PartCurves$Part" "other" "I", .fieldLink RX1 33 "PartCurves$Part" "kind" "I", .fieldLink RX1 36 "PartCurves$Part" "heat" "I", .fieldLink RX1 39 "PartCurves$Part" "g" "I", .fieldLink RX1 42 "PartCurves$Part" "k" "I", .fieldLink RX1 45 "PartCurves$Part" "h" "I", .fieldLink RX1 48 "PartCurves$Part" "m" "I", .fieldLink RX1 51 "PartCurves$Part" "c" "I"] ++ wsX10)
def wsX1_number : List Cond := .code yX1_number cX1_number 2 (some .int) :: ([.fieldLink RX1 39 "PartCurves$Part" "g" "I", .fieldLink RX1 42 "PartCurves$Part" "k" "I", .fieldLink RX1 45 "PartCurves$Part" "h" "I", .fieldLink RX1 48 "PartCurves$Part" "m" "I", .fieldLink RX1 51 "PartCurves$Part" "c" "I"] ++ wsX10)
def wsX1_putNumber : List Cond := .code yX1_putNumber cX1_putNumber 3 none :: ([.fieldLink RX1 39 "PartCurves$Part" "g" "I", .fieldLink RX1 42 "PartCurves$Part" "k" "I", .fieldLink RX1 45 "PartCurves$Part" "h" "I", .fieldLink RX1 48 "PartCurves$Part" "m" "I", .fieldLink RX1 51 "PartCurves$Part" "c" "I"] ++ wsX10)
def wsJ9_floorDiv_7cf53 : List Cond := .code yJ9_floorDiv_7cf53 cJ9_floorDiv_7cf53 3 (some .int) :: ([])
def wsX1_coldAmps : List Cond := .code yX1_coldAmps cX1_coldAmps 3 (some .int) :: ([.fieldLink RX1 33 "PartCurves$Part" "kind" "I", .fieldLink RX1 23 "PartCurves$Part" "open" "Z", .fieldLink RX1 39 "PartCurves$Part" "g" "I", .fieldLink RX1 45 "PartCurves$Part" "h" "I", .fieldLink RX1 42 "PartCurves$Part" "k" "I", .methodLink RX1 58 yJ9_floorDiv_7cf53, .static yJ9_floorDiv_7cf53, .initialized RJ9, .code yJ9_floorDiv_7cf53 cJ9_floorDiv_7cf53 3 (some .int)] ++ wsX10)
def wsX1_ownAmps : List Cond := .code yX1_ownAmps cX1_ownAmps 3 (some .int) :: ([.fieldLink RX1 51 "PartCurves$Part" "c" "I", .fieldLink RX1 36 "PartCurves$Part" "heat" "I", .fieldLink RX1 20 "PartCurves$Part" "burnt" "Z", .methodLink RX1 54 yX1_coldAmps, .instanceMethod yX1_coldAmps, .selects RX1 yX1_coldAmps yX1_coldAmps, .initialized RX1, .code yX1_coldAmps cX1_coldAmps 3 (some .int), .fieldLink RX1 33 "PartCurves$Part" "kind" "I", .fieldLink RX1 23 "PartCurves$Part" "open" "Z", .fieldLink RX1 39 "PartCurves$Part" "g" "I", .fieldLink RX1 45 "PartCurves$Part" "h" "I", .fieldLink RX1 42 "PartCurves$Part" "k" "I", .methodLink RX1 58 yJ9_floorDiv_7cf53, .static yJ9_floorDiv_7cf53, .initialized RJ9, .code yJ9_floorDiv_7cf53 cJ9_floorDiv_7cf53 3 (some .int)] ++ wsX10)
def wsX1_snapsOpenAt : List Cond := .code yX1_snapsOpenAt cX1_snapsOpenAt 2 (some .boolean) :: ([.fieldLink RX1 33 "PartCurves$Part" "kind" "I", .fieldLink RX1 23 "PartCurves$Part" "open" "Z", .fieldLink RX1 20 "PartCurves$Part" "burnt" "Z", .fieldLink RX1 42 "PartCurves$Part" "k" "I"] ++ wsX10)
def wsX1_shutBelow : List Cond := .code yX1_shutBelow cX1_shutBelow 2 none :: ([.fieldLink RX1 33 "PartCurves$Part" "kind" "I", .fieldLink RX1 23 "PartCurves$Part" "open" "Z", .fieldLink RX1 48 "PartCurves$Part" "m" "I"] ++ wsX10)
def wsX1_warm : List Cond := .code yX1_warm cX1_warm 7 (some .int) :: ([.methodLink RX1 64 Lib.MathLoose.abs_long.x, .static Lib.MathLoose.abs_long.x, .initialized "java/lang/Math", .code Lib.MathLoose.abs_long.x Lib.MathLoose.abs_long.code 2 (some .long), .fieldLink RX1 36 "PartCurves$Part" "heat" "I", .constantLong RX1 68 (500000), .methodLink RX1 70 Lib.Math.min.name, .static Lib.Math.min.name, .code Lib.Math.min.name Lib.Math.min.code 2 (some .int), .fieldLink RX1 20 "PartCurves$Part" "burnt" "Z"] ++ wsX10)
def wsX1_cool : List Cond := .code yX1_cool cX1_cool 3 none :: ([.fieldLink RX1 36 "PartCurves$Part" "heat" "I"] ++ wsX10)
def wsX2_init : List Cond := .code yX2_init cX2_init 1 none :: ([.methodLink RX2 3 objectInit, .instanceMethod objectInit, .code objectInit ⟨#[0xb1]⟩ 1 none, .arrayClass .int, .fieldLink RX2 11 "PartCurves$Readings" "forced" "[I", .fieldLink RX2 15 "PartCurves$Readings" "told" "[I", .fieldLink RX2 18 "PartCurves$Readings" "flowed" "[I", .fieldLink RX2 21 "PartCurves$Readings" "rules" "[I", .fieldLink RX2 24 "PartCurves$Readings" "count" "I"] ++ wsX20)
def wsX2_has : List Cond := .code yX2_has cX2_has 2 (some .boolean) :: ([.fieldLink RX2 24 "PartCurves$Readings" "count" "I"] ++ wsX20)
def wsX2_room : List Cond := .code yX2_room cX2_room 1 (some .int) :: ([.fieldLink RX2 24 "PartCurves$Readings" "count" "I"] ++ wsX20)
def wsX2_add : List Cond := .code yX2_add cX2_add 5 none :: ([.fieldLink RX2 11 "PartCurves$Readings" "forced" "[I", .fieldLink RX2 24 "PartCurves$Readings" "count" "I", .fieldLink RX2 15 "PartCurves$Readings" "told" "[I", .fieldLink RX2 18 "PartCurves$Readings" "flowed" "[I", .fieldLink RX2 21 "PartCurves$Readings" "rules" "[I", .methodLink RX2 28 yX2_room, .instanceMethod yX2_room, .selects RX2 yX2_room yX2_room, .initialized RX2, .code yX2_room cX2_room 1 (some .int)] ++ wsX20)
def wsX2_withRule : List Cond := .code yX2_withRule cX2_withRule 4 (some .int) :: ([.fieldLink RX2 24 "PartCurves$Readings" "count" "I", .fieldLink RX2 21 "PartCurves$Readings" "rules" "[I"] ++ wsX20)
def wsX2_kneePoint : List Cond := .code yX2_kneePoint cX2_kneePoint 13 (some .int) :: ([.fieldLink RX2 15 "PartCurves$Readings" "told" "[I", .fieldLink RX2 18 "PartCurves$Readings" "flowed" "[I", .methodLink RX2 32 Lib.MathLoose.abs_long.x, .static Lib.MathLoose.abs_long.x, .initialized "java/lang/Math", .code Lib.MathLoose.abs_long.x Lib.MathLoose.abs_long.code 2 (some .long)] ++ wsX20)
def wsX2_greatestGap : List Cond := .code yX2_greatestGap cX2_greatestGap 6 (some .int) :: ([.fieldLink RX2 11 "PartCurves$Readings" "forced" "[I", .fieldLink RX2 18 "PartCurves$Readings" "flowed" "[I", .methodLink RX2 38 Lib.Math.abs.name, .static Lib.Math.abs.name, .initialized "java/lang/Math", .code Lib.Math.abs.name Lib.Math.abs.code 1 (some .int), .methodLink RX2 41 Lib.Math.max.name, .static Lib.Math.max.name, .code Lib.Math.max.name Lib.Math.max.code 2 (some .int)] ++ wsX20)
def wsX2_sum : List Cond := .code yX2_sum cX2_sum 6 (some .long) :: ([])
def wsX2_sumOfProducts : List Cond := .code yX2_sumOfProducts cX2_sumOfProducts 7 (some .long) :: ([])
def wsX2_greatestDivisor : List Cond := .code yX2_greatestDivisor cX2_greatestDivisor 7 (some .long) :: ([])
def wsX2_ofFraction : List Cond := .code yX2_ofFraction cX2_ofFraction 9 (some .long) :: ([.methodLink RX2 32 Lib.MathLoose.abs_long.x, .static Lib.MathLoose.abs_long.x, .initialized "java/lang/Math", .code Lib.MathLoose.abs_long.x Lib.MathLoose.abs_long.code 2 (some .long), .constantLong RX2 53 (-9223372036854775808), .methodLink RX2 59 yX2_greatestDivisor, .static yX2_greatestDivisor, .initialized RX2, .code yX2_greatestDivisor cX2_greatestDivisor 7 (some .long)])
def wsX2_lineFitted : List Cond := .code yX2_lineFitted cX2_lineFitted 21 (some .long) :: ([.fieldLink RX2 15 "PartCurves$Readings" "told" "[I", .fieldLink RX2 18 "PartCurves$Readings" "flowed" "[I", .constantLong RX2 53 (-9223372036854775808), .methodLink RX2 45 yX2_sum, .static yX2_sum, .initialized RX2, .code yX2_sum cX2_sum 6 (some .long), .methodLink RX2 49 yX2_sumOfProducts, .static yX2_sumOfProducts, .code yX2_sumOfProducts cX2_sumOfProducts 7 (some .long), .methodLink RX2 55 yX2_ofFraction, .static yX2_ofFraction, .code yX2_ofFraction cX2_ofFraction 9 (some .long), .methodLink RX2 32 Lib.MathLoose.abs_long.x, .static Lib.MathLoose.abs_long.x, .initialized "java/lang/Math", .code Lib.MathLoose.abs_long.x Lib.MathLoose.abs_long.code 2 (some .long), .methodLink RX2 59 yX2_greatestDivisor, .static yX2_greatestDivisor, .code yX2_greatestDivisor cX2_greatestDivisor 7 (some .long)] ++ wsX20)
def wsX3_init_r1 : List Cond := [Cond.methodLink RX3 3 objectInit, Cond.instanceMethod objectInit, Cond.code objectInit ⟨#[0xb1]⟩ 1 none, Cond.classLink RX3 11 RX1, Cond.fieldLink RX3 13 "PartCurves" "parts" "[LPartCurves$Part;", Cond.arrayClass .int, Cond.fieldLink RX3 17 "PartCurves" "pinSets" "[I", Cond.classLink RX3 21 RX2, Cond.instantiable RX2 5, Cond.initialized RX2, Cond.fieldLink RX3 24 "PartCurves" "readings" "LPartCurves$Readings;", Cond.classLink RX3 28 RX0, Cond.instantiable RX0 3, Cond.initialized RX0, Cond.fieldLink RX3 31 "PartCurves" "causes" "LPartCurves$Causes;", Cond.fieldLink RX3 35 "PartCurves" "powerOn" "Z", Cond.fieldLink RX3 39 "PartCurves" "mostAmps" "I", Cond.fieldLink RX3 43 "PartCurves" "leadOhms" "I", Cond.instantiable RX1 12, Cond.initialized RX1, Cond.instanceMethod yX2_init, Cond.code yX2_init cX2_init 1 none, Cond.methodLink RX2 3 objectInit, Cond.fieldLink RX2 11 "PartCurves$Readings" "forced" "[I"]
def wsX3_init_r2 : List Cond := [Cond.fieldLink RX2 15 "PartCurves$Readings" "told" "[I", Cond.fieldLink RX2 18 "PartCurves$Readings" "flowed" "[I", Cond.fieldLink RX2 21 "PartCurves$Readings" "rules" "[I", Cond.fieldLink RX2 24 "PartCurves$Readings" "count" "I", Cond.instanceMethod yX0_init, Cond.code yX0_init cX0_init 1 none, Cond.methodLink RX0 1 objectInit, Cond.fieldLink RX0 9 "PartCurves$Causes" "sorts" "[I", Cond.fieldLink RX0 13 "PartCurves$Causes" "numbers" "[I", Cond.fieldLink RX0 16 "PartCurves$Causes" "count" "I", Cond.instanceMethod yX1_init, Cond.code yX1_init cX1_init 1 none, Cond.methodLink RX1 1 objectInit]
def wsX3_init : List Cond := .code yX3_init cX3_init 2 none :: ((wsX3_init_r1 ++ wsX3_init_r2) ++ wsX30 ++ wsX20 ++ wsX00 ++ wsX10)
def wsX3_within : List Cond := .code yX3_within cX3_within 3 (some .boolean) :: ([])
def wsX3_part : List Cond := .code yX3_part cX3_part 6 (some .int) :: ([.fieldLink RX3 35 "PartCurves" "powerOn" "Z", .fieldLink RX3 13 "PartCurves" "parts" "[LPartCurves$Part;", .fieldLink RX3 51 "PartCurves$Part" "there" "Z", .methodLink RX3 47 yX3_within, .static yX3_within, .initialized RX3, .code yX3_within cX3_within 3 (some .boolean), .methodLink RX3 54 yX1_renew, .instanceMethod yX1_renew, .selects RX1 yX1_renew yX1_renew, .initialized RX1, .code yX1_renew cX1_renew 4 none, .fieldLink RX1 16 "PartCurves$Part" "there" "Z", .fieldLink RX1 20 "PartCurves$Part" "burnt" "Z", .fieldLink RX1 23 "PartCurves$Part" "open" "Z", .fieldLink RX1 26 "PartCurves$Part" "first" "I", .fieldLink RX1 30 "PartCurves$Part" "other" "I", .fieldLink RX1 33 "PartCurves$Part" "kind" "I", .fieldLink RX1 36 "PartCurves$Part" "heat" "I", .fieldLink RX1 39 "PartCurves$Part" "g" "I", .fieldLink RX1 42 "PartCurves$Part" "k" "I", .fieldLink RX1 45 "PartCurves$Part" "h" "I", .fieldLink RX1 48 "PartCurves$Part" "m" "I", .fieldLink RX1 51 "PartCurves$Part" "c" "I"] ++ wsX30 ++ wsX10)
def wsX3_partAt : List Cond := .code yX3_partAt cX3_partAt 2 (some (.object "PartCurves$Part")) :: ([.fieldLink RX3 13 "PartCurves" "parts" "[LPartCurves$Part;", .fieldLink RX3 51 "PartCurves$Part" "there" "Z", .methodLink RX3 47 yX3_within, .static yX3_within, .initialized RX3, .code yX3_within cX3_within 3 (some .boolean)] ++ wsX30 ++ wsX10)
def wsX3_remove : List Cond := .code yX3_remove cX3_remove 3 (some .int) :: ([.fieldLink RX3 35 "PartCurves" "powerOn" "Z", .fieldLink RX3 51 "PartCurves$Part" "there" "Z", .methodLink RX3 58 yX3_partAt, .instanceMethod yX3_partAt, .selects RX3 yX3_partAt yX3_partAt, .initialized RX3, .code yX3_partAt cX3_partAt 2 (some (.object "PartCurves$Part")), .fieldLink RX3 13 "PartCurves" "parts" "[LPartCurves$Part;", .methodLink RX3 47 yX3_within, .static yX3_within, .code yX3_within cX3_within 3 (some .boolean)] ++ wsX30 ++ wsX10)
def wsX3_set_r1 : List Cond := [Cond.methodLink RX3 58 yX3_partAt, Cond.instanceMethod yX3_partAt, Cond.selects RX3 yX3_partAt yX3_partAt, Cond.initialized RX3, Cond.code yX3_partAt cX3_partAt 2 (some (.object "PartCurves$Part")), Cond.fieldLink RX3 13 "PartCurves" "parts" "[LPartCurves$Part;", Cond.fieldLink RX3 51 "PartCurves$Part" "there" "Z", Cond.methodLink RX3 47 yX3_within, Cond.static yX3_within, Cond.code yX3_within cX3_within 3 (some .boolean), Cond.methodLink RX3 62 yX1_takes, Cond.static yX1_takes, Cond.initialized RX1, Cond.code yX1_takes cX1_takes 2 (some .boolean), Cond.fieldLink RX1 9 "PartCurves$Part" "LEAST" "[I", Cond.fieldLink RX1 13 "PartCurves$Part" "MOST" "[I", Cond.methodLink RX3 66 yX1_number, Cond.instanceMethod yX1_number, Cond.selects RX1 yX1_number yX1_number, Cond.code yX1_number cX1_number 2 (some .int), Cond.fieldLink RX1 39 "PartCurves$Part" "g" "I", Cond.fieldLink RX1 42 "PartCurves$Part" "k" "I", Cond.fieldLink RX1 45 "PartCurves$Part" "h" "I", Cond.fieldLink RX1 48 "PartCurves$Part" "m" "I"]
def wsX3_set_r2 : List Cond := [Cond.fieldLink RX1 51 "PartCurves$Part" "c" "I", Cond.methodLink RX3 70 yX1_putNumber, Cond.instanceMethod yX1_putNumber, Cond.selects RX1 yX1_putNumber yX1_putNumber, Cond.code yX1_putNumber cX1_putNumber 3 none]
def wsX3_set : List Cond := .code yX3_set cX3_set 6 (some .int) :: ((wsX3_set_r1 ++ wsX3_set_r2) ++ wsX30 ++ wsX10)
def wsX3_ofPart_r1 : List Cond := [Cond.fieldLink RX3 74 "PartCurves$Part" "first" "I", Cond.fieldLink RX3 77 "PartCurves$Part" "other" "I", Cond.fieldLink RX3 80 "PartCurves$Part" "kind" "I", Cond.fieldLink RX3 83 "PartCurves$Part" "heat" "I", Cond.fieldLink RX3 86 "PartCurves$Part" "burnt" "Z", Cond.fieldLink RX3 89 "PartCurves$Part" "open" "Z", Cond.methodLink RX3 58 yX3_partAt, Cond.instanceMethod yX3_partAt, Cond.selects RX3 yX3_partAt yX3_partAt, Cond.initialized RX3, Cond.code yX3_partAt cX3_partAt 2 (some (.object "PartCurves$Part")), Cond.fieldLink RX3 13 "PartCurves" "parts" "[LPartCurves$Part;", Cond.fieldLink RX3 51 "PartCurves$Part" "there" "Z", Cond.methodLink RX3 47 yX3_within, Cond.static yX3_within, Cond.code yX3_within cX3_within 3 (some .boolean), Cond.methodLink RX3 66 yX1_number, Cond.instanceMethod yX1_number, Cond.selects RX1 yX1_number yX1_number, Cond.initialized RX1, Cond.code yX1_number cX1_number 2 (some .int), Cond.fieldLink RX1 39 "PartCurves$Part" "g" "I", Cond.fieldLink RX1 42 "PartCurves$Part" "k" "I", Cond.fieldLink RX1 45 "PartCurves$Part" "h" "I"]
def wsX3_ofPart_r2 : List Cond := [Cond.fieldLink RX1 48 "PartCurves$Part" "m" "I", Cond.fieldLink RX1 51 "PartCurves$Part" "c" "I"]
def wsX3_ofPart : List Cond := .code yX3_ofPart cX3_ofPart 4 (some .int) :: ((wsX3_ofPart_r1 ++ wsX3_ofPart_r2) ++ wsX10 ++ wsX30)
def wsX3_wouldShort : List Cond := .code yX3_wouldShort cX3_wouldShort 3 (some .boolean) :: ([.fieldLink RX3 17 "PartCurves" "pinSets" "[I"] ++ wsX30)
def wsX3_relay : List Cond := .code yX3_relay cX3_relay 6 (some .int) :: ([.fieldLink RX3 35 "PartCurves" "powerOn" "Z", .fieldLink RX3 17 "PartCurves" "pinSets" "[I", .methodLink RX3 47 yX3_within, .static yX3_within, .initialized RX3, .code yX3_within cX3_within 3 (some .boolean), .methodLink RX3 92 yX3_wouldShort, .instanceMethod yX3_wouldShort, .selects RX3 yX3_wouldShort yX3_wouldShort, .code yX3_wouldShort cX3_wouldShort 3 (some .boolean)] ++ wsX30)
def wsX3_pins : List Cond := .code yX3_pins cX3_pins 2 (some .int) :: ([.fieldLink RX3 17 "PartCurves" "pinSets" "[I", .methodLink RX3 47 yX3_within, .static yX3_within, .initialized RX3, .code yX3_within cX3_within 3 (some .boolean)] ++ wsX30)
def wsJ6_bitCount_0f7a4 : List Cond := .code yJ6_bitCount_0f7a4 cJ6_bitCount_0f7a4 1 (some .int) :: ([.constant RJ6 265 (1431655765), .constant RJ6 266 (858993459), .constant RJ6 267 (252645135)])
def wsX3_highAndLowAtOnePinEach : List Cond := .code yX3_highAndLowAtOnePinEach cX3_highAndLowAtOnePinEach 1 (some .boolean) :: ([.fieldLink RX3 17 "PartCurves" "pinSets" "[I", .methodLink RX3 197 yJ6_bitCount_0f7a4, .static yJ6_bitCount_0f7a4, .initialized RJ6, .code yJ6_bitCount_0f7a4 cJ6_bitCount_0f7a4 1 (some .int), .constant RJ6 265 (1431655765), .constant RJ6 266 (858993459), .constant RJ6 267 (252645135)] ++ wsX30)
def wsX3_joinsHighAndLow : List Cond := .code yX3_joinsHighAndLow cX3_joinsHighAndLow 4 (some .boolean) :: ([.fieldLink RX3 74 "PartCurves$Part" "first" "I", .fieldLink RX3 77 "PartCurves$Part" "other" "I", .fieldLink RX3 17 "PartCurves" "pinSets" "[I"] ++ wsX10 ++ wsX30)
def wsX3_inHand : List Cond := .code yX3_inHand cX3_inHand 2 (some .int) :: ([.fieldLink RX3 13 "PartCurves" "parts" "[LPartCurves$Part;", .fieldLink RX3 51 "PartCurves$Part" "there" "Z", .methodLink RX3 202 yX3_highAndLowAtOnePinEach, .instanceMethod yX3_highAndLowAtOnePinEach, .selects RX3 yX3_highAndLowAtOnePinEach yX3_highAndLowAtOnePinEach, .initialized RX3, .code yX3_highAndLowAtOnePinEach cX3_highAndLowAtOnePinEach 1 (some .boolean), .fieldLink RX3 17 "PartCurves" "pinSets" "[I", .methodLink RX3 197 yJ6_bitCount_0f7a4, .static yJ6_bitCount_0f7a4, .initialized RJ6, .code yJ6_bitCount_0f7a4 cJ6_bitCount_0f7a4 1 (some .int), .constant RJ6 265 (1431655765), .constant RJ6 266 (858993459), .constant RJ6 267 (252645135), .methodLink RX3 205 yX3_joinsHighAndLow, .instanceMethod yX3_joinsHighAndLow, .selects RX3 yX3_joinsHighAndLow yX3_joinsHighAndLow, .code yX3_joinsHighAndLow cX3_joinsHighAndLow 4 (some .boolean), .fieldLink RX3 74 "PartCurves$Part" "first" "I", .fieldLink RX3 77 "PartCurves$Part" "other" "I"] ++ wsX30 ++ wsX10)
def wsX3_power_r1 : List Cond := [Cond.fieldLink RX3 35 "PartCurves" "powerOn" "Z", Cond.methodLink RX3 47 yX3_within, Cond.static yX3_within, Cond.initialized RX3, Cond.code yX3_within cX3_within 3 (some .boolean), Cond.methodLink RX3 95 yX3_inHand, Cond.instanceMethod yX3_inHand, Cond.selects RX3 yX3_inHand yX3_inHand, Cond.code yX3_inHand cX3_inHand 2 (some .int), Cond.fieldLink RX3 13 "PartCurves" "parts" "[LPartCurves$Part;", Cond.fieldLink RX3 51 "PartCurves$Part" "there" "Z", Cond.methodLink RX3 202 yX3_highAndLowAtOnePinEach, Cond.instanceMethod yX3_highAndLowAtOnePinEach, Cond.selects RX3 yX3_highAndLowAtOnePinEach yX3_highAndLowAtOnePinEach, Cond.code yX3_highAndLowAtOnePinEach cX3_highAndLowAtOnePinEach 1 (some .boolean), Cond.fieldLink RX3 17 "PartCurves" "pinSets" "[I", Cond.methodLink RX3 197 yJ6_bitCount_0f7a4, Cond.static yJ6_bitCount_0f7a4, Cond.initialized RJ6, Cond.code yJ6_bitCount_0f7a4 cJ6_bitCount_0f7a4 1 (some .int), Cond.constant RJ6 265 (1431655765), Cond.constant RJ6 266 (858993459), Cond.constant RJ6 267 (252645135), Cond.methodLink RX3 205 yX3_joinsHighAndLow]
def wsX3_power_r2 : List Cond := [Cond.instanceMethod yX3_joinsHighAndLow, Cond.selects RX3 yX3_joinsHighAndLow yX3_joinsHighAndLow, Cond.code yX3_joinsHighAndLow cX3_joinsHighAndLow 4 (some .boolean), Cond.fieldLink RX3 74 "PartCurves$Part" "first" "I", Cond.fieldLink RX3 77 "PartCurves$Part" "other" "I"]
def wsX3_power : List Cond := .code yX3_power cX3_power 3 (some .int) :: ((wsX3_power_r1 ++ wsX3_power_r2) ++ wsX30 ++ wsX10)
def wsX3_limit : List Cond := .code yX3_limit cX3_limit 3 (some .int) :: ([.fieldLink RX3 39 "PartCurves" "mostAmps" "I", .methodLink RX3 47 yX3_within, .static yX3_within, .initialized RX3, .code yX3_within cX3_within 3 (some .boolean)] ++ wsX30)
def wsX3_leads : List Cond := .code yX3_leads cX3_leads 3 (some .int) :: ([.fieldLink RX3 43 "PartCurves" "leadOhms" "I", .methodLink RX3 47 yX3_within, .static yX3_within, .initialized RX3, .code yX3_within cX3_within 3 (some .boolean)] ++ wsX30)
def wsX3_fourWires : List Cond := .code yX3_fourWires cX3_fourWires 1 (some .boolean) :: ([.fieldLink RX3 17 "PartCurves" "pinSets" "[I", .methodLink RX3 202 yX3_highAndLowAtOnePinEach, .instanceMethod yX3_highAndLowAtOnePinEach, .selects RX3 yX3_highAndLowAtOnePinEach yX3_highAndLowAtOnePinEach, .initialized RX3, .code yX3_highAndLowAtOnePinEach cX3_highAndLowAtOnePinEach 1 (some .boolean), .methodLink RX3 197 yJ6_bitCount_0f7a4, .static yJ6_bitCount_0f7a4, .initialized RJ6, .code yJ6_bitCount_0f7a4 cJ6_bitCount_0f7a4 1 (some .int), .constant RJ6 265 (1431655765), .constant RJ6 266 (858993459), .constant RJ6 267 (252645135)] ++ wsX30)
def wsX3_now_r1 : List Cond := [Cond.fieldLink RX3 35 "PartCurves" "powerOn" "Z", Cond.fieldLink RX3 39 "PartCurves" "mostAmps" "I", Cond.fieldLink RX3 43 "PartCurves" "leadOhms" "I", Cond.methodLink RX3 95 yX3_inHand, Cond.instanceMethod yX3_inHand, Cond.selects RX3 yX3_inHand yX3_inHand, Cond.initialized RX3, Cond.code yX3_inHand cX3_inHand 2 (some .int), Cond.fieldLink RX3 13 "PartCurves" "parts" "[LPartCurves$Part;", Cond.fieldLink RX3 51 "PartCurves$Part" "there" "Z", Cond.methodLink RX3 202 yX3_highAndLowAtOnePinEach, Cond.instanceMethod yX3_highAndLowAtOnePinEach, Cond.selects RX3 yX3_highAndLowAtOnePinEach yX3_highAndLowAtOnePinEach, Cond.code yX3_highAndLowAtOnePinEach cX3_highAndLowAtOnePinEach 1 (some .boolean), Cond.fieldLink RX3 17 "PartCurves" "pinSets" "[I", Cond.methodLink RX3 197 yJ6_bitCount_0f7a4, Cond.static yJ6_bitCount_0f7a4, Cond.initialized RJ6, Cond.code yJ6_bitCount_0f7a4 cJ6_bitCount_0f7a4 1 (some .int), Cond.constant RJ6 265 (1431655765), Cond.constant RJ6 266 (858993459), Cond.constant RJ6 267 (252645135), Cond.methodLink RX3 205 yX3_joinsHighAndLow, Cond.instanceMethod yX3_joinsHighAndLow]
def wsX3_now_r2 : List Cond := [Cond.selects RX3 yX3_joinsHighAndLow yX3_joinsHighAndLow, Cond.code yX3_joinsHighAndLow cX3_joinsHighAndLow 4 (some .boolean), Cond.fieldLink RX3 74 "PartCurves$Part" "first" "I", Cond.fieldLink RX3 77 "PartCurves$Part" "other" "I", Cond.methodLink RX3 99 yX3_fourWires, Cond.instanceMethod yX3_fourWires, Cond.selects RX3 yX3_fourWires yX3_fourWires, Cond.code yX3_fourWires cX3_fourWires 1 (some .boolean)]
def wsX3_now : List Cond := .code yX3_now cX3_now 2 (some .int) :: ((wsX3_now_r1 ++ wsX3_now_r2) ++ wsX30 ++ wsX10)
def wsX3_isVolts : List Cond := .code yX3_isVolts cX3_isVolts 1 (some .boolean) :: ([.methodLink RX3 47 yX3_within, .static yX3_within, .initialized RX3, .code yX3_within cX3_within 3 (some .boolean)])
def wsX3_amps_r1 : List Cond := [Cond.constant RX3 110 (50000), Cond.methodLink RX3 58 yX3_partAt, Cond.instanceMethod yX3_partAt, Cond.selects RX3 yX3_partAt yX3_partAt, Cond.initialized RX3, Cond.code yX3_partAt cX3_partAt 2 (some (.object "PartCurves$Part")), Cond.fieldLink RX3 13 "PartCurves" "parts" "[LPartCurves$Part;", Cond.fieldLink RX3 51 "PartCurves$Part" "there" "Z", Cond.methodLink RX3 47 yX3_within, Cond.static yX3_within, Cond.code yX3_within cX3_within 3 (some .boolean), Cond.methodLink RX3 103 yX3_isVolts, Cond.static yX3_isVolts, Cond.code yX3_isVolts cX3_isVolts 1 (some .boolean), Cond.methodLink RX3 107 yX1_ownAmps, Cond.instanceMethod yX1_ownAmps, Cond.selects RX1 yX1_ownAmps yX1_ownAmps, Cond.initialized RX1, Cond.code yX1_ownAmps cX1_ownAmps 3 (some .int), Cond.fieldLink RX1 51 "PartCurves$Part" "c" "I", Cond.fieldLink RX1 36 "PartCurves$Part" "heat" "I", Cond.fieldLink RX1 20 "PartCurves$Part" "burnt" "Z", Cond.methodLink RX1 54 yX1_coldAmps, Cond.instanceMethod yX1_coldAmps]
def wsX3_amps_r2 : List Cond := [Cond.selects RX1 yX1_coldAmps yX1_coldAmps, Cond.code yX1_coldAmps cX1_coldAmps 3 (some .int), Cond.fieldLink RX1 33 "PartCurves$Part" "kind" "I", Cond.fieldLink RX1 23 "PartCurves$Part" "open" "Z", Cond.fieldLink RX1 39 "PartCurves$Part" "g" "I", Cond.fieldLink RX1 45 "PartCurves$Part" "h" "I", Cond.fieldLink RX1 42 "PartCurves$Part" "k" "I", Cond.methodLink RX1 58 yJ9_floorDiv_7cf53, Cond.static yJ9_floorDiv_7cf53, Cond.initialized RJ9, Cond.code yJ9_floorDiv_7cf53 cJ9_floorDiv_7cf53 3 (some .int)]
def wsX3_amps : List Cond := .code yX3_amps cX3_amps 4 (some .int) :: ((wsX3_amps_r1 ++ wsX3_amps_r2) ++ wsX30 ++ wsX10)
def wsX3_owned : List Cond := .code yX3_owned cX3_owned 3 (some .int) :: ([.fieldLink RX3 74 "PartCurves$Part" "first" "I", .fieldLink RX3 17 "PartCurves" "pinSets" "[I"] ++ wsX10 ++ wsX30)
def wsX3_ampsAt_r1 : List Cond := [Cond.methodLink RX3 209 yX3_owned, Cond.instanceMethod yX3_owned, Cond.selects RX3 yX3_owned yX3_owned, Cond.initialized RX3, Cond.code yX3_owned cX3_owned 3 (some .int), Cond.fieldLink RX3 74 "PartCurves$Part" "first" "I", Cond.fieldLink RX3 17 "PartCurves" "pinSets" "[I", Cond.methodLink RX3 107 yX1_ownAmps, Cond.instanceMethod yX1_ownAmps, Cond.selects RX1 yX1_ownAmps yX1_ownAmps, Cond.initialized RX1, Cond.code yX1_ownAmps cX1_ownAmps 3 (some .int), Cond.fieldLink RX1 51 "PartCurves$Part" "c" "I", Cond.fieldLink RX1 36 "PartCurves$Part" "heat" "I", Cond.fieldLink RX1 20 "PartCurves$Part" "burnt" "Z", Cond.methodLink RX1 54 yX1_coldAmps, Cond.instanceMethod yX1_coldAmps, Cond.selects RX1 yX1_coldAmps yX1_coldAmps, Cond.code yX1_coldAmps cX1_coldAmps 3 (some .int), Cond.fieldLink RX1 33 "PartCurves$Part" "kind" "I", Cond.fieldLink RX1 23 "PartCurves$Part" "open" "Z", Cond.fieldLink RX1 39 "PartCurves$Part" "g" "I", Cond.fieldLink RX1 45 "PartCurves$Part" "h" "I", Cond.fieldLink RX1 42 "PartCurves$Part" "k" "I"]
def wsX3_ampsAt_r2 : List Cond := [Cond.methodLink RX1 58 yJ9_floorDiv_7cf53, Cond.static yJ9_floorDiv_7cf53, Cond.initialized RJ9, Cond.code yJ9_floorDiv_7cf53 cJ9_floorDiv_7cf53 3 (some .int)]
def wsX3_ampsAt : List Cond := .code yX3_ampsAt cX3_ampsAt 3 (some .int) :: ((wsX3_ampsAt_r1 ++ wsX3_ampsAt_r2) ++ wsX10 ++ wsX30)
def wsX3_drop : List Cond := .code yX3_drop cX3_drop 2 (some .int) :: ([.fieldLink RX3 43 "PartCurves" "leadOhms" "I", .methodLink RX3 212 yJ9_floorDiv_7cf53, .static yJ9_floorDiv_7cf53, .initialized RJ9, .code yJ9_floorDiv_7cf53 cJ9_floorDiv_7cf53 3 (some .int)] ++ wsX30)
def wsX3_allowed_r1 : List Cond := [Cond.methodLink RX3 147 Lib.Math.abs.name, Cond.static Lib.Math.abs.name, Cond.initialized "java/lang/Math", Cond.code Lib.Math.abs.name Lib.Math.abs.code 1 (some .int), Cond.fieldLink RX3 39 "PartCurves" "mostAmps" "I", Cond.methodLink RX3 115 yX3_ampsAt, Cond.instanceMethod yX3_ampsAt, Cond.selects RX3 yX3_ampsAt yX3_ampsAt, Cond.initialized RX3, Cond.code yX3_ampsAt cX3_ampsAt 3 (some .int), Cond.methodLink RX3 209 yX3_owned, Cond.instanceMethod yX3_owned, Cond.selects RX3 yX3_owned yX3_owned, Cond.code yX3_owned cX3_owned 3 (some .int), Cond.fieldLink RX3 74 "PartCurves$Part" "first" "I", Cond.fieldLink RX3 17 "PartCurves" "pinSets" "[I", Cond.methodLink RX3 107 yX1_ownAmps, Cond.instanceMethod yX1_ownAmps, Cond.selects RX1 yX1_ownAmps yX1_ownAmps, Cond.initialized RX1, Cond.code yX1_ownAmps cX1_ownAmps 3 (some .int), Cond.fieldLink RX1 51 "PartCurves$Part" "c" "I", Cond.fieldLink RX1 36 "PartCurves$Part" "heat" "I", Cond.fieldLink RX1 20 "PartCurves$Part" "burnt" "Z"]
def wsX3_allowed_r2 : List Cond := [Cond.methodLink RX1 54 yX1_coldAmps, Cond.instanceMethod yX1_coldAmps, Cond.selects RX1 yX1_coldAmps yX1_coldAmps, Cond.code yX1_coldAmps cX1_coldAmps 3 (some .int), Cond.fieldLink RX1 33 "PartCurves$Part" "kind" "I", Cond.fieldLink RX1 23 "PartCurves$Part" "open" "Z", Cond.fieldLink RX1 39 "PartCurves$Part" "g" "I", Cond.fieldLink RX1 45 "PartCurves$Part" "h" "I", Cond.fieldLink RX1 42 "PartCurves$Part" "k" "I", Cond.methodLink RX1 58 yJ9_floorDiv_7cf53, Cond.static yJ9_floorDiv_7cf53, Cond.initialized RJ9, Cond.code yJ9_floorDiv_7cf53 cJ9_floorDiv_7cf53 3 (some .int), Cond.methodLink RX3 99 yX3_fourWires, Cond.instanceMethod yX3_fourWires, Cond.selects RX3 yX3_fourWires yX3_fourWires, Cond.code yX3_fourWires cX3_fourWires 1 (some .boolean), Cond.methodLink RX3 202 yX3_highAndLowAtOnePinEach, Cond.instanceMethod yX3_highAndLowAtOnePinEach, Cond.selects RX3 yX3_highAndLowAtOnePinEach yX3_highAndLowAtOnePinEach, Cond.code yX3_highAndLowAtOnePinEach cX3_highAndLowAtOnePinEach 1 (some .boolean), Cond.methodLink RX3 197 yJ6_bitCount_0f7a4, Cond.static yJ6_bitCount_0f7a4, Cond.initialized RJ6]
def wsX3_allowed_r3 : List Cond := [Cond.code yJ6_bitCount_0f7a4 cJ6_bitCount_0f7a4 1 (some .int), Cond.constant RJ6 265 (1431655765), Cond.constant RJ6 266 (858993459), Cond.constant RJ6 267 (252645135), Cond.methodLink RX3 215 yX3_drop, Cond.instanceMethod yX3_drop, Cond.selects RX3 yX3_drop yX3_drop, Cond.code yX3_drop cX3_drop 2 (some .int), Cond.fieldLink RX3 43 "PartCurves" "leadOhms" "I", Cond.methodLink RX3 212 yJ9_floorDiv_7cf53]
def wsX3_allowed : List Cond := .code yX3_allowed cX3_allowed 5 (some .boolean) :: ((wsX3_allowed_r1 ++ (wsX3_allowed_r2 ++ wsX3_allowed_r3)) ++ wsX30 ++ wsX10)
def wsX3_farthest_r1 : List Cond := [Cond.methodLink RX3 147 Lib.Math.abs.name, Cond.static Lib.Math.abs.name, Cond.initialized "java/lang/Math", Cond.code Lib.Math.abs.name Lib.Math.abs.code 1 (some .int), Cond.methodLink RX3 218 yX3_allowed, Cond.instanceMethod yX3_allowed, Cond.selects RX3 yX3_allowed yX3_allowed, Cond.initialized RX3, Cond.code yX3_allowed cX3_allowed 5 (some .boolean), Cond.fieldLink RX3 39 "PartCurves" "mostAmps" "I", Cond.methodLink RX3 115 yX3_ampsAt, Cond.instanceMethod yX3_ampsAt, Cond.selects RX3 yX3_ampsAt yX3_ampsAt, Cond.code yX3_ampsAt cX3_ampsAt 3 (some .int), Cond.methodLink RX3 209 yX3_owned, Cond.instanceMethod yX3_owned, Cond.selects RX3 yX3_owned yX3_owned, Cond.code yX3_owned cX3_owned 3 (some .int), Cond.fieldLink RX3 74 "PartCurves$Part" "first" "I", Cond.fieldLink RX3 17 "PartCurves" "pinSets" "[I", Cond.methodLink RX3 107 yX1_ownAmps, Cond.instanceMethod yX1_ownAmps, Cond.selects RX1 yX1_ownAmps yX1_ownAmps, Cond.initialized RX1]
def wsX3_farthest_r2 : List Cond := [Cond.code yX1_ownAmps cX1_ownAmps 3 (some .int), Cond.fieldLink RX1 51 "PartCurves$Part" "c" "I", Cond.fieldLink RX1 36 "PartCurves$Part" "heat" "I", Cond.fieldLink RX1 20 "PartCurves$Part" "burnt" "Z", Cond.methodLink RX1 54 yX1_coldAmps, Cond.instanceMethod yX1_coldAmps, Cond.selects RX1 yX1_coldAmps yX1_coldAmps, Cond.code yX1_coldAmps cX1_coldAmps 3 (some .int), Cond.fieldLink RX1 33 "PartCurves$Part" "kind" "I", Cond.fieldLink RX1 23 "PartCurves$Part" "open" "Z", Cond.fieldLink RX1 39 "PartCurves$Part" "g" "I", Cond.fieldLink RX1 45 "PartCurves$Part" "h" "I", Cond.fieldLink RX1 42 "PartCurves$Part" "k" "I", Cond.methodLink RX1 58 yJ9_floorDiv_7cf53, Cond.static yJ9_floorDiv_7cf53, Cond.initialized RJ9, Cond.code yJ9_floorDiv_7cf53 cJ9_floorDiv_7cf53 3 (some .int), Cond.methodLink RX3 99 yX3_fourWires, Cond.instanceMethod yX3_fourWires, Cond.selects RX3 yX3_fourWires yX3_fourWires, Cond.code yX3_fourWires cX3_fourWires 1 (some .boolean), Cond.methodLink RX3 202 yX3_highAndLowAtOnePinEach, Cond.instanceMethod yX3_highAndLowAtOnePinEach, Cond.selects RX3 yX3_highAndLowAtOnePinEach yX3_highAndLowAtOnePinEach]
def wsX3_farthest_r3 : List Cond := [Cond.code yX3_highAndLowAtOnePinEach cX3_highAndLowAtOnePinEach 1 (some .boolean), Cond.methodLink RX3 197 yJ6_bitCount_0f7a4, Cond.static yJ6_bitCount_0f7a4, Cond.initialized RJ6, Cond.code yJ6_bitCount_0f7a4 cJ6_bitCount_0f7a4 1 (some .int), Cond.constant RJ6 265 (1431655765), Cond.constant RJ6 266 (858993459), Cond.constant RJ6 267 (252645135), Cond.methodLink RX3 215 yX3_drop, Cond.instanceMethod yX3_drop, Cond.selects RX3 yX3_drop yX3_drop, Cond.code yX3_drop cX3_drop 2 (some .int), Cond.fieldLink RX3 43 "PartCurves" "leadOhms" "I", Cond.methodLink RX3 212 yJ9_floorDiv_7cf53]
def wsX3_farthest : List Cond := .code yX3_farthest cX3_farthest 8 (some .int) :: ((wsX3_farthest_r1 ++ (wsX3_farthest_r2 ++ wsX3_farthest_r3)) ++ wsX30 ++ wsX10)
def wsX3_aboveLimit_r1 : List Cond := [Cond.methodLink RX3 147 Lib.Math.abs.name, Cond.static Lib.Math.abs.name, Cond.initialized "java/lang/Math", Cond.code Lib.Math.abs.name Lib.Math.abs.code 1 (some .int), Cond.fieldLink RX3 39 "PartCurves" "mostAmps" "I", Cond.methodLink RX3 115 yX3_ampsAt, Cond.instanceMethod yX3_ampsAt, Cond.selects RX3 yX3_ampsAt yX3_ampsAt, Cond.initialized RX3, Cond.code yX3_ampsAt cX3_ampsAt 3 (some .int), Cond.methodLink RX3 209 yX3_owned, Cond.instanceMethod yX3_owned, Cond.selects RX3 yX3_owned yX3_owned, Cond.code yX3_owned cX3_owned 3 (some .int), Cond.fieldLink RX3 74 "PartCurves$Part" "first" "I", Cond.fieldLink RX3 17 "PartCurves" "pinSets" "[I", Cond.methodLink RX3 107 yX1_ownAmps, Cond.instanceMethod yX1_ownAmps, Cond.selects RX1 yX1_ownAmps yX1_ownAmps, Cond.initialized RX1, Cond.code yX1_ownAmps cX1_ownAmps 3 (some .int), Cond.fieldLink RX1 51 "PartCurves$Part" "c" "I", Cond.fieldLink RX1 36 "PartCurves$Part" "heat" "I", Cond.fieldLink RX1 20 "PartCurves$Part" "burnt" "Z"]
def wsX3_aboveLimit_r2 : List Cond := [Cond.methodLink RX1 54 yX1_coldAmps, Cond.instanceMethod yX1_coldAmps, Cond.selects RX1 yX1_coldAmps yX1_coldAmps, Cond.code yX1_coldAmps cX1_coldAmps 3 (some .int), Cond.fieldLink RX1 33 "PartCurves$Part" "kind" "I", Cond.fieldLink RX1 23 "PartCurves$Part" "open" "Z", Cond.fieldLink RX1 39 "PartCurves$Part" "g" "I", Cond.fieldLink RX1 45 "PartCurves$Part" "h" "I", Cond.fieldLink RX1 42 "PartCurves$Part" "k" "I", Cond.methodLink RX1 58 yJ9_floorDiv_7cf53, Cond.static yJ9_floorDiv_7cf53, Cond.initialized RJ9, Cond.code yJ9_floorDiv_7cf53 cJ9_floorDiv_7cf53 3 (some .int)]
def wsX3_aboveLimit : List Cond := .code yX3_aboveLimit cX3_aboveLimit 3 (some .boolean) :: ((wsX3_aboveLimit_r1 ++ wsX3_aboveLimit_r2) ++ wsX30 ++ wsX10)
def wsX3_ruleAt_r1 : List Cond := [Cond.methodLink RX3 222 yX3_aboveLimit, Cond.instanceMethod yX3_aboveLimit, Cond.selects RX3 yX3_aboveLimit yX3_aboveLimit, Cond.initialized RX3, Cond.code yX3_aboveLimit cX3_aboveLimit 3 (some .boolean), Cond.methodLink RX3 147 Lib.Math.abs.name, Cond.static Lib.Math.abs.name, Cond.initialized "java/lang/Math", Cond.code Lib.Math.abs.name Lib.Math.abs.code 1 (some .int), Cond.fieldLink RX3 39 "PartCurves" "mostAmps" "I", Cond.methodLink RX3 115 yX3_ampsAt, Cond.instanceMethod yX3_ampsAt, Cond.selects RX3 yX3_ampsAt yX3_ampsAt, Cond.code yX3_ampsAt cX3_ampsAt 3 (some .int), Cond.methodLink RX3 209 yX3_owned, Cond.instanceMethod yX3_owned, Cond.selects RX3 yX3_owned yX3_owned, Cond.code yX3_owned cX3_owned 3 (some .int), Cond.fieldLink RX3 74 "PartCurves$Part" "first" "I", Cond.fieldLink RX3 17 "PartCurves" "pinSets" "[I", Cond.methodLink RX3 107 yX1_ownAmps, Cond.instanceMethod yX1_ownAmps, Cond.selects RX1 yX1_ownAmps yX1_ownAmps, Cond.initialized RX1]
def wsX3_ruleAt_r2 : List Cond := [Cond.code yX1_ownAmps cX1_ownAmps 3 (some .int), Cond.fieldLink RX1 51 "PartCurves$Part" "c" "I", Cond.fieldLink RX1 36 "PartCurves$Part" "heat" "I", Cond.fieldLink RX1 20 "PartCurves$Part" "burnt" "Z", Cond.methodLink RX1 54 yX1_coldAmps, Cond.instanceMethod yX1_coldAmps, Cond.selects RX1 yX1_coldAmps yX1_coldAmps, Cond.code yX1_coldAmps cX1_coldAmps 3 (some .int), Cond.fieldLink RX1 33 "PartCurves$Part" "kind" "I", Cond.fieldLink RX1 23 "PartCurves$Part" "open" "Z", Cond.fieldLink RX1 39 "PartCurves$Part" "g" "I", Cond.fieldLink RX1 45 "PartCurves$Part" "h" "I", Cond.fieldLink RX1 42 "PartCurves$Part" "k" "I", Cond.methodLink RX1 58 yJ9_floorDiv_7cf53, Cond.static yJ9_floorDiv_7cf53, Cond.initialized RJ9, Cond.code yJ9_floorDiv_7cf53 cJ9_floorDiv_7cf53 3 (some .int)]
def wsX3_ruleAt : List Cond := .code yX3_ruleAt cX3_ruleAt 5 (some .int) :: ((wsX3_ruleAt_r1 ++ wsX3_ruleAt_r2) ++ wsX30 ++ wsX10)
def wsX3_would_r1 : List Cond := [Cond.constant RX3 110 (50000), Cond.methodLink RX3 103 yX3_isVolts, Cond.static yX3_isVolts, Cond.initialized RX3, Cond.code yX3_isVolts cX3_isVolts 1 (some .boolean), Cond.methodLink RX3 47 yX3_within, Cond.static yX3_within, Cond.code yX3_within cX3_within 3 (some .boolean), Cond.methodLink RX3 95 yX3_inHand, Cond.instanceMethod yX3_inHand, Cond.selects RX3 yX3_inHand yX3_inHand, Cond.code yX3_inHand cX3_inHand 2 (some .int), Cond.fieldLink RX3 13 "PartCurves" "parts" "[LPartCurves$Part;", Cond.fieldLink RX3 51 "PartCurves$Part" "there" "Z", Cond.methodLink RX3 202 yX3_highAndLowAtOnePinEach, Cond.instanceMethod yX3_highAndLowAtOnePinEach, Cond.selects RX3 yX3_highAndLowAtOnePinEach yX3_highAndLowAtOnePinEach, Cond.code yX3_highAndLowAtOnePinEach cX3_highAndLowAtOnePinEach 1 (some .boolean), Cond.fieldLink RX3 17 "PartCurves" "pinSets" "[I", Cond.methodLink RX3 197 yJ6_bitCount_0f7a4, Cond.static yJ6_bitCount_0f7a4, Cond.initialized RJ6, Cond.code yJ6_bitCount_0f7a4 cJ6_bitCount_0f7a4 1 (some .int), Cond.constant RJ6 265 (1431655765)]
def wsX3_would_r2 : List Cond := [Cond.constant RJ6 266 (858993459), Cond.constant RJ6 267 (252645135), Cond.methodLink RX3 205 yX3_joinsHighAndLow, Cond.instanceMethod yX3_joinsHighAndLow, Cond.selects RX3 yX3_joinsHighAndLow yX3_joinsHighAndLow, Cond.code yX3_joinsHighAndLow cX3_joinsHighAndLow 4 (some .boolean), Cond.fieldLink RX3 74 "PartCurves$Part" "first" "I", Cond.fieldLink RX3 77 "PartCurves$Part" "other" "I", Cond.methodLink RX3 58 yX3_partAt, Cond.instanceMethod yX3_partAt, Cond.selects RX3 yX3_partAt yX3_partAt, Cond.code yX3_partAt cX3_partAt 2 (some (.object "PartCurves$Part")), Cond.methodLink RX3 111 yX3_farthest, Cond.instanceMethod yX3_farthest, Cond.selects RX3 yX3_farthest yX3_farthest, Cond.code yX3_farthest cX3_farthest 8 (some .int), Cond.methodLink RX3 147 Lib.Math.abs.name, Cond.static Lib.Math.abs.name, Cond.initialized "java/lang/Math", Cond.code Lib.Math.abs.name Lib.Math.abs.code 1 (some .int), Cond.methodLink RX3 218 yX3_allowed, Cond.instanceMethod yX3_allowed, Cond.selects RX3 yX3_allowed yX3_allowed, Cond.code yX3_allowed cX3_allowed 5 (some .boolean)]
def wsX3_would_r3 : List Cond := [Cond.fieldLink RX3 39 "PartCurves" "mostAmps" "I", Cond.methodLink RX3 115 yX3_ampsAt, Cond.instanceMethod yX3_ampsAt, Cond.selects RX3 yX3_ampsAt yX3_ampsAt, Cond.code yX3_ampsAt cX3_ampsAt 3 (some .int), Cond.methodLink RX3 209 yX3_owned, Cond.instanceMethod yX3_owned, Cond.selects RX3 yX3_owned yX3_owned, Cond.code yX3_owned cX3_owned 3 (some .int), Cond.methodLink RX3 107 yX1_ownAmps, Cond.instanceMethod yX1_ownAmps, Cond.selects RX1 yX1_ownAmps yX1_ownAmps, Cond.initialized RX1, Cond.code yX1_ownAmps cX1_ownAmps 3 (some .int), Cond.fieldLink RX1 51 "PartCurves$Part" "c" "I", Cond.fieldLink RX1 36 "PartCurves$Part" "heat" "I", Cond.fieldLink RX1 20 "PartCurves$Part" "burnt" "Z", Cond.methodLink RX1 54 yX1_coldAmps, Cond.instanceMethod yX1_coldAmps, Cond.selects RX1 yX1_coldAmps yX1_coldAmps, Cond.code yX1_coldAmps cX1_coldAmps 3 (some .int), Cond.fieldLink RX1 33 "PartCurves$Part" "kind" "I", Cond.fieldLink RX1 23 "PartCurves$Part" "open" "Z", Cond.fieldLink RX1 39 "PartCurves$Part" "g" "I"]
def wsX3_would_r4 : List Cond := [Cond.fieldLink RX1 45 "PartCurves$Part" "h" "I", Cond.fieldLink RX1 42 "PartCurves$Part" "k" "I", Cond.methodLink RX1 58 yJ9_floorDiv_7cf53, Cond.static yJ9_floorDiv_7cf53, Cond.initialized RJ9, Cond.code yJ9_floorDiv_7cf53 cJ9_floorDiv_7cf53 3 (some .int), Cond.methodLink RX3 99 yX3_fourWires, Cond.instanceMethod yX3_fourWires, Cond.selects RX3 yX3_fourWires yX3_fourWires, Cond.code yX3_fourWires cX3_fourWires 1 (some .boolean), Cond.methodLink RX3 215 yX3_drop, Cond.instanceMethod yX3_drop, Cond.selects RX3 yX3_drop yX3_drop, Cond.code yX3_drop cX3_drop 2 (some .int), Cond.fieldLink RX3 43 "PartCurves" "leadOhms" "I", Cond.methodLink RX3 212 yJ9_floorDiv_7cf53, Cond.methodLink RX3 118 yX3_ruleAt, Cond.instanceMethod yX3_ruleAt, Cond.selects RX3 yX3_ruleAt yX3_ruleAt, Cond.code yX3_ruleAt cX3_ruleAt 5 (some .int), Cond.methodLink RX3 222 yX3_aboveLimit, Cond.instanceMethod yX3_aboveLimit, Cond.selects RX3 yX3_aboveLimit yX3_aboveLimit, Cond.code yX3_aboveLimit cX3_aboveLimit 3 (some .boolean)]
def wsX3_would : List Cond := .code yX3_would cX3_would 5 (some .int) :: ((wsX3_would_r1 ++ (wsX3_would_r2 ++ (wsX3_would_r3 ++ wsX3_would_r4))) ++ wsX30 ++ wsX10)
def wsX3_readPulse_r1 : List Cond := [Cond.fieldLink RX3 89 "PartCurves$Part" "open" "Z", Cond.fieldLink RX3 24 "PartCurves" "readings" "LPartCurves$Readings;", Cond.methodLink RX3 111 yX3_farthest, Cond.instanceMethod yX3_farthest, Cond.selects RX3 yX3_farthest yX3_farthest, Cond.initialized RX3, Cond.code yX3_farthest cX3_farthest 8 (some .int), Cond.methodLink RX3 147 Lib.Math.abs.name, Cond.static Lib.Math.abs.name, Cond.initialized "java/lang/Math", Cond.code Lib.Math.abs.name Lib.Math.abs.code 1 (some .int), Cond.methodLink RX3 218 yX3_allowed, Cond.instanceMethod yX3_allowed, Cond.selects RX3 yX3_allowed yX3_allowed, Cond.code yX3_allowed cX3_allowed 5 (some .boolean), Cond.fieldLink RX3 39 "PartCurves" "mostAmps" "I", Cond.methodLink RX3 115 yX3_ampsAt, Cond.instanceMethod yX3_ampsAt, Cond.selects RX3 yX3_ampsAt yX3_ampsAt, Cond.code yX3_ampsAt cX3_ampsAt 3 (some .int), Cond.methodLink RX3 209 yX3_owned, Cond.instanceMethod yX3_owned, Cond.selects RX3 yX3_owned yX3_owned, Cond.code yX3_owned cX3_owned 3 (some .int)]
def wsX3_readPulse_r2 : List Cond := [Cond.fieldLink RX3 74 "PartCurves$Part" "first" "I", Cond.fieldLink RX3 17 "PartCurves" "pinSets" "[I", Cond.methodLink RX3 107 yX1_ownAmps, Cond.instanceMethod yX1_ownAmps, Cond.selects RX1 yX1_ownAmps yX1_ownAmps, Cond.initialized RX1, Cond.code yX1_ownAmps cX1_ownAmps 3 (some .int), Cond.fieldLink RX1 51 "PartCurves$Part" "c" "I", Cond.fieldLink RX1 36 "PartCurves$Part" "heat" "I", Cond.fieldLink RX1 20 "PartCurves$Part" "burnt" "Z", Cond.methodLink RX1 54 yX1_coldAmps, Cond.instanceMethod yX1_coldAmps, Cond.selects RX1 yX1_coldAmps yX1_coldAmps, Cond.code yX1_coldAmps cX1_coldAmps 3 (some .int), Cond.fieldLink RX1 33 "PartCurves$Part" "kind" "I", Cond.fieldLink RX1 23 "PartCurves$Part" "open" "Z", Cond.fieldLink RX1 39 "PartCurves$Part" "g" "I", Cond.fieldLink RX1 45 "PartCurves$Part" "h" "I", Cond.fieldLink RX1 42 "PartCurves$Part" "k" "I", Cond.methodLink RX1 58 yJ9_floorDiv_7cf53, Cond.static yJ9_floorDiv_7cf53, Cond.initialized RJ9, Cond.code yJ9_floorDiv_7cf53 cJ9_floorDiv_7cf53 3 (some .int), Cond.methodLink RX3 99 yX3_fourWires]
def wsX3_readPulse_r3 : List Cond := [Cond.instanceMethod yX3_fourWires, Cond.selects RX3 yX3_fourWires yX3_fourWires, Cond.code yX3_fourWires cX3_fourWires 1 (some .boolean), Cond.methodLink RX3 202 yX3_highAndLowAtOnePinEach, Cond.instanceMethod yX3_highAndLowAtOnePinEach, Cond.selects RX3 yX3_highAndLowAtOnePinEach yX3_highAndLowAtOnePinEach, Cond.code yX3_highAndLowAtOnePinEach cX3_highAndLowAtOnePinEach 1 (some .boolean), Cond.methodLink RX3 197 yJ6_bitCount_0f7a4, Cond.static yJ6_bitCount_0f7a4, Cond.initialized RJ6, Cond.code yJ6_bitCount_0f7a4 cJ6_bitCount_0f7a4 1 (some .int), Cond.constant RJ6 265 (1431655765), Cond.constant RJ6 266 (858993459), Cond.constant RJ6 267 (252645135), Cond.methodLink RX3 215 yX3_drop, Cond.instanceMethod yX3_drop, Cond.selects RX3 yX3_drop yX3_drop, Cond.code yX3_drop cX3_drop 2 (some .int), Cond.fieldLink RX3 43 "PartCurves" "leadOhms" "I", Cond.methodLink RX3 212 yJ9_floorDiv_7cf53, Cond.methodLink RX3 226 yX1_snapsOpenAt, Cond.instanceMethod yX1_snapsOpenAt, Cond.selects RX1 yX1_snapsOpenAt yX1_snapsOpenAt, Cond.code yX1_snapsOpenAt cX1_snapsOpenAt 2 (some .boolean)]
def wsX3_readPulse_r4 : List Cond := [Cond.methodLink RX3 118 yX3_ruleAt, Cond.instanceMethod yX3_ruleAt, Cond.selects RX3 yX3_ruleAt yX3_ruleAt, Cond.code yX3_ruleAt cX3_ruleAt 5 (some .int), Cond.methodLink RX3 222 yX3_aboveLimit, Cond.instanceMethod yX3_aboveLimit, Cond.selects RX3 yX3_aboveLimit yX3_aboveLimit, Cond.code yX3_aboveLimit cX3_aboveLimit 3 (some .boolean), Cond.methodLink RX3 229 yX2_add, Cond.instanceMethod yX2_add, Cond.selects RX2 yX2_add yX2_add, Cond.initialized RX2, Cond.code yX2_add cX2_add 5 none, Cond.fieldLink RX2 11 "PartCurves$Readings" "forced" "[I", Cond.fieldLink RX2 24 "PartCurves$Readings" "count" "I", Cond.fieldLink RX2 15 "PartCurves$Readings" "told" "[I", Cond.fieldLink RX2 18 "PartCurves$Readings" "flowed" "[I", Cond.fieldLink RX2 21 "PartCurves$Readings" "rules" "[I", Cond.methodLink RX2 28 yX2_room, Cond.instanceMethod yX2_room, Cond.selects RX2 yX2_room yX2_room, Cond.code yX2_room cX2_room 1 (some .int), Cond.methodLink RX3 233 yX1_warm, Cond.instanceMethod yX1_warm]
def wsX3_readPulse_r5 : List Cond := [Cond.selects RX1 yX1_warm yX1_warm, Cond.code yX1_warm cX1_warm 7 (some .int), Cond.methodLink RX1 64 Lib.MathLoose.abs_long.x, Cond.static Lib.MathLoose.abs_long.x, Cond.code Lib.MathLoose.abs_long.x Lib.MathLoose.abs_long.code 2 (some .long), Cond.constantLong RX1 68 (500000), Cond.methodLink RX1 70 Lib.Math.min.name, Cond.static Lib.Math.min.name, Cond.code Lib.Math.min.name Lib.Math.min.code 2 (some .int), Cond.methodLink RX3 237 yX1_shutBelow, Cond.instanceMethod yX1_shutBelow, Cond.selects RX1 yX1_shutBelow yX1_shutBelow, Cond.code yX1_shutBelow cX1_shutBelow 2 none, Cond.fieldLink RX1 48 "PartCurves$Part" "m" "I"]
def wsX3_readPulse : List Cond := .code yX3_readPulse cX3_readPulse 8 (some .int) :: ((wsX3_readPulse_r1 ++ (wsX3_readPulse_r2 ++ (wsX3_readPulse_r3 ++ (wsX3_readPulse_r4 ++ wsX3_readPulse_r5)))) ++ wsX10 ++ wsX30 ++ wsX20)
def wsX3_tellBurnt : List Cond := .code yX3_tellBurnt cX3_tellBurnt 3 none :: ([.fieldLink RX3 31 "PartCurves" "causes" "LPartCurves$Causes;", .methodLink RX3 150 yX0_put, .instanceMethod yX0_put, .selects RX0 yX0_put yX0_put, .initialized RX0, .code yX0_put cX0_put 3 none, .fieldLink RX0 16 "PartCurves$Causes" "count" "I", .fieldLink RX0 9 "PartCurves$Causes" "sorts" "[I", .fieldLink RX0 13 "PartCurves$Causes" "numbers" "[I"] ++ wsX30 ++ wsX00)
def wsX3_pulse_r1 : List Cond := [Cond.fieldLink RX3 35 "PartCurves" "powerOn" "Z", Cond.fieldLink RX3 24 "PartCurves" "readings" "LPartCurves$Readings;", Cond.fieldLink RX3 31 "PartCurves" "causes" "LPartCurves$Causes;", Cond.fieldLink RX3 134 "PartCurves$Readings" "count" "I", Cond.methodLink RX3 103 yX3_isVolts, Cond.static yX3_isVolts, Cond.initialized RX3, Cond.code yX3_isVolts cX3_isVolts 1 (some .boolean), Cond.methodLink RX3 47 yX3_within, Cond.static yX3_within, Cond.code yX3_within cX3_within 3 (some .boolean), Cond.methodLink RX3 95 yX3_inHand, Cond.instanceMethod yX3_inHand, Cond.selects RX3 yX3_inHand yX3_inHand, Cond.code yX3_inHand cX3_inHand 2 (some .int), Cond.fieldLink RX3 13 "PartCurves" "parts" "[LPartCurves$Part;", Cond.fieldLink RX3 51 "PartCurves$Part" "there" "Z", Cond.methodLink RX3 202 yX3_highAndLowAtOnePinEach, Cond.instanceMethod yX3_highAndLowAtOnePinEach, Cond.selects RX3 yX3_highAndLowAtOnePinEach yX3_highAndLowAtOnePinEach, Cond.code yX3_highAndLowAtOnePinEach cX3_highAndLowAtOnePinEach 1 (some .boolean), Cond.fieldLink RX3 17 "PartCurves" "pinSets" "[I", Cond.methodLink RX3 197 yJ6_bitCount_0f7a4, Cond.static yJ6_bitCount_0f7a4]
def wsX3_pulse_r2 : List Cond := [Cond.initialized RJ6, Cond.code yJ6_bitCount_0f7a4 cJ6_bitCount_0f7a4 1 (some .int), Cond.constant RJ6 265 (1431655765), Cond.constant RJ6 266 (858993459), Cond.constant RJ6 267 (252645135), Cond.methodLink RX3 205 yX3_joinsHighAndLow, Cond.instanceMethod yX3_joinsHighAndLow, Cond.selects RX3 yX3_joinsHighAndLow yX3_joinsHighAndLow, Cond.code yX3_joinsHighAndLow cX3_joinsHighAndLow 4 (some .boolean), Cond.fieldLink RX3 74 "PartCurves$Part" "first" "I", Cond.fieldLink RX3 77 "PartCurves$Part" "other" "I", Cond.methodLink RX3 58 yX3_partAt, Cond.instanceMethod yX3_partAt, Cond.selects RX3 yX3_partAt yX3_partAt, Cond.code yX3_partAt cX3_partAt 2 (some (.object "PartCurves$Part")), Cond.methodLink RX3 122 yX2_room, Cond.instanceMethod yX2_room, Cond.selects RX2 yX2_room yX2_room, Cond.initialized RX2, Cond.code yX2_room cX2_room 1 (some .int), Cond.fieldLink RX2 24 "PartCurves$Readings" "count" "I", Cond.methodLink RX3 125 yX0_clearAll, Cond.instanceMethod yX0_clearAll, Cond.selects RX0 yX0_clearAll yX0_clearAll]
def wsX3_pulse_r3 : List Cond := [Cond.initialized RX0, Cond.code yX0_clearAll cX0_clearAll 1 none, Cond.fieldLink RX0 16 "PartCurves$Causes" "count" "I", Cond.methodLink RX3 128 yX3_readPulse, Cond.instanceMethod yX3_readPulse, Cond.selects RX3 yX3_readPulse yX3_readPulse, Cond.code yX3_readPulse cX3_readPulse 8 (some .int), Cond.fieldLink RX3 89 "PartCurves$Part" "open" "Z", Cond.methodLink RX3 111 yX3_farthest, Cond.instanceMethod yX3_farthest, Cond.selects RX3 yX3_farthest yX3_farthest, Cond.code yX3_farthest cX3_farthest 8 (some .int), Cond.methodLink RX3 147 Lib.Math.abs.name, Cond.static Lib.Math.abs.name, Cond.initialized "java/lang/Math", Cond.code Lib.Math.abs.name Lib.Math.abs.code 1 (some .int), Cond.methodLink RX3 218 yX3_allowed, Cond.instanceMethod yX3_allowed, Cond.selects RX3 yX3_allowed yX3_allowed, Cond.code yX3_allowed cX3_allowed 5 (some .boolean), Cond.fieldLink RX3 39 "PartCurves" "mostAmps" "I", Cond.methodLink RX3 115 yX3_ampsAt, Cond.instanceMethod yX3_ampsAt, Cond.selects RX3 yX3_ampsAt yX3_ampsAt]
def wsX3_pulse_r4 : List Cond := [Cond.code yX3_ampsAt cX3_ampsAt 3 (some .int), Cond.methodLink RX3 209 yX3_owned, Cond.instanceMethod yX3_owned, Cond.selects RX3 yX3_owned yX3_owned, Cond.code yX3_owned cX3_owned 3 (some .int), Cond.methodLink RX3 107 yX1_ownAmps, Cond.instanceMethod yX1_ownAmps, Cond.selects RX1 yX1_ownAmps yX1_ownAmps, Cond.initialized RX1, Cond.code yX1_ownAmps cX1_ownAmps 3 (some .int), Cond.fieldLink RX1 51 "PartCurves$Part" "c" "I", Cond.fieldLink RX1 36 "PartCurves$Part" "heat" "I", Cond.fieldLink RX1 20 "PartCurves$Part" "burnt" "Z", Cond.methodLink RX1 54 yX1_coldAmps, Cond.instanceMethod yX1_coldAmps, Cond.selects RX1 yX1_coldAmps yX1_coldAmps, Cond.code yX1_coldAmps cX1_coldAmps 3 (some .int), Cond.fieldLink RX1 33 "PartCurves$Part" "kind" "I", Cond.fieldLink RX1 23 "PartCurves$Part" "open" "Z", Cond.fieldLink RX1 39 "PartCurves$Part" "g" "I", Cond.fieldLink RX1 45 "PartCurves$Part" "h" "I", Cond.fieldLink RX1 42 "PartCurves$Part" "k" "I", Cond.methodLink RX1 58 yJ9_floorDiv_7cf53, Cond.static yJ9_floorDiv_7cf53]
def wsX3_pulse_r5 : List Cond := [Cond.initialized RJ9, Cond.code yJ9_floorDiv_7cf53 cJ9_floorDiv_7cf53 3 (some .int), Cond.methodLink RX3 99 yX3_fourWires, Cond.instanceMethod yX3_fourWires, Cond.selects RX3 yX3_fourWires yX3_fourWires, Cond.code yX3_fourWires cX3_fourWires 1 (some .boolean), Cond.methodLink RX3 215 yX3_drop, Cond.instanceMethod yX3_drop, Cond.selects RX3 yX3_drop yX3_drop, Cond.code yX3_drop cX3_drop 2 (some .int), Cond.fieldLink RX3 43 "PartCurves" "leadOhms" "I", Cond.methodLink RX3 212 yJ9_floorDiv_7cf53, Cond.methodLink RX3 226 yX1_snapsOpenAt, Cond.instanceMethod yX1_snapsOpenAt, Cond.selects RX1 yX1_snapsOpenAt yX1_snapsOpenAt, Cond.code yX1_snapsOpenAt cX1_snapsOpenAt 2 (some .boolean), Cond.methodLink RX3 118 yX3_ruleAt, Cond.instanceMethod yX3_ruleAt, Cond.selects RX3 yX3_ruleAt yX3_ruleAt, Cond.code yX3_ruleAt cX3_ruleAt 5 (some .int), Cond.methodLink RX3 222 yX3_aboveLimit, Cond.instanceMethod yX3_aboveLimit, Cond.selects RX3 yX3_aboveLimit yX3_aboveLimit, Cond.code yX3_aboveLimit cX3_aboveLimit 3 (some .boolean)]
def wsX3_pulse_r6 : List Cond := [Cond.methodLink RX3 229 yX2_add, Cond.instanceMethod yX2_add, Cond.selects RX2 yX2_add yX2_add, Cond.code yX2_add cX2_add 5 none, Cond.fieldLink RX2 11 "PartCurves$Readings" "forced" "[I", Cond.fieldLink RX2 15 "PartCurves$Readings" "told" "[I", Cond.fieldLink RX2 18 "PartCurves$Readings" "flowed" "[I", Cond.fieldLink RX2 21 "PartCurves$Readings" "rules" "[I", Cond.methodLink RX2 28 yX2_room, Cond.methodLink RX3 233 yX1_warm, Cond.instanceMethod yX1_warm, Cond.selects RX1 yX1_warm yX1_warm, Cond.code yX1_warm cX1_warm 7 (some .int), Cond.methodLink RX1 64 Lib.MathLoose.abs_long.x, Cond.static Lib.MathLoose.abs_long.x, Cond.code Lib.MathLoose.abs_long.x Lib.MathLoose.abs_long.code 2 (some .long), Cond.constantLong RX1 68 (500000), Cond.methodLink RX1 70 Lib.Math.min.name, Cond.static Lib.Math.min.name, Cond.code Lib.Math.min.name Lib.Math.min.code 2 (some .int), Cond.methodLink RX3 237 yX1_shutBelow, Cond.instanceMethod yX1_shutBelow, Cond.selects RX1 yX1_shutBelow yX1_shutBelow, Cond.code yX1_shutBelow cX1_shutBelow 2 none]
def wsX3_pulse_r7 : List Cond := [Cond.fieldLink RX1 48 "PartCurves$Part" "m" "I", Cond.methodLink RX3 131 yX3_tellBurnt, Cond.instanceMethod yX3_tellBurnt, Cond.selects RX3 yX3_tellBurnt yX3_tellBurnt, Cond.code yX3_tellBurnt cX3_tellBurnt 3 none, Cond.methodLink RX3 150 yX0_put, Cond.instanceMethod yX0_put, Cond.selects RX0 yX0_put yX0_put, Cond.code yX0_put cX0_put 3 none, Cond.fieldLink RX0 9 "PartCurves$Causes" "sorts" "[I", Cond.fieldLink RX0 13 "PartCurves$Causes" "numbers" "[I"]
def wsX3_pulse : List Cond := .code yX3_pulse cX3_pulse 6 (some .int) :: ((wsX3_pulse_r1 ++ (wsX3_pulse_r2 ++ (wsX3_pulse_r3 ++ (wsX3_pulse_r4 ++ (wsX3_pulse_r5 ++ (wsX3_pulse_r6 ++ wsX3_pulse_r7)))))) ++ wsX30 ++ wsX20 ++ wsX10 ++ wsX00)
def wsX3_coolAll : List Cond := .code yX3_coolAll cX3_coolAll 3 none :: ([.fieldLink RX3 13 "PartCurves" "parts" "[LPartCurves$Part;", .methodLink RX3 240 yX1_cool, .instanceMethod yX1_cool, .selects RX1 yX1_cool yX1_cool, .initialized RX1, .code yX1_cool cX1_cool 3 none, .fieldLink RX1 36 "PartCurves$Part" "heat" "I"] ++ wsX30 ++ wsX10)
def wsX3_rest : List Cond := .code yX3_rest cX3_rest 4 (some .int) :: ([.fieldLink RX3 13 "PartCurves" "parts" "[LPartCurves$Part;", .fieldLink RX3 51 "PartCurves$Part" "there" "Z", .fieldLink RX3 83 "PartCurves$Part" "heat" "I", .methodLink RX3 141 Lib.Math.max.name, .static Lib.Math.max.name, .initialized "java/lang/Math", .code Lib.Math.max.name Lib.Math.max.code 2 (some .int), .methodLink RX3 47 yX3_within, .static yX3_within, .initialized RX3, .code yX3_within cX3_within 3 (some .boolean), .methodLink RX3 137 yX3_coolAll, .instanceMethod yX3_coolAll, .selects RX3 yX3_coolAll yX3_coolAll, .code yX3_coolAll cX3_coolAll 3 none, .methodLink RX3 240 yX1_cool, .instanceMethod yX1_cool, .selects RX1 yX1_cool yX1_cool, .initialized RX1, .code yX1_cool cX1_cool 3 none, .fieldLink RX1 36 "PartCurves$Part" "heat" "I"] ++ wsX30 ++ wsX10)
def wsX3_sweep_r1 : List Cond := [Cond.fieldLink RX3 35 "PartCurves" "powerOn" "Z", Cond.methodLink RX3 147 Lib.Math.abs.name, Cond.static Lib.Math.abs.name, Cond.initialized "java/lang/Math", Cond.code Lib.Math.abs.name Lib.Math.abs.code 1 (some .int), Cond.fieldLink RX3 24 "PartCurves" "readings" "LPartCurves$Readings;", Cond.fieldLink RX3 31 "PartCurves" "causes" "LPartCurves$Causes;", Cond.methodLink RX3 103 yX3_isVolts, Cond.static yX3_isVolts, Cond.initialized RX3, Cond.code yX3_isVolts cX3_isVolts 1 (some .boolean), Cond.methodLink RX3 47 yX3_within, Cond.static yX3_within, Cond.code yX3_within cX3_within 3 (some .boolean), Cond.methodLink RX3 95 yX3_inHand, Cond.instanceMethod yX3_inHand, Cond.selects RX3 yX3_inHand yX3_inHand, Cond.code yX3_inHand cX3_inHand 2 (some .int), Cond.fieldLink RX3 13 "PartCurves" "parts" "[LPartCurves$Part;", Cond.fieldLink RX3 51 "PartCurves$Part" "there" "Z", Cond.methodLink RX3 202 yX3_highAndLowAtOnePinEach, Cond.instanceMethod yX3_highAndLowAtOnePinEach, Cond.selects RX3 yX3_highAndLowAtOnePinEach yX3_highAndLowAtOnePinEach, Cond.code yX3_highAndLowAtOnePinEach cX3_highAndLowAtOnePinEach 1 (some .boolean)]
def wsX3_sweep_r2 : List Cond := [Cond.fieldLink RX3 17 "PartCurves" "pinSets" "[I", Cond.methodLink RX3 197 yJ6_bitCount_0f7a4, Cond.static yJ6_bitCount_0f7a4, Cond.initialized RJ6, Cond.code yJ6_bitCount_0f7a4 cJ6_bitCount_0f7a4 1 (some .int), Cond.constant RJ6 265 (1431655765), Cond.constant RJ6 266 (858993459), Cond.constant RJ6 267 (252645135), Cond.methodLink RX3 205 yX3_joinsHighAndLow, Cond.instanceMethod yX3_joinsHighAndLow, Cond.selects RX3 yX3_joinsHighAndLow yX3_joinsHighAndLow, Cond.code yX3_joinsHighAndLow cX3_joinsHighAndLow 4 (some .boolean), Cond.fieldLink RX3 74 "PartCurves$Part" "first" "I", Cond.fieldLink RX3 77 "PartCurves$Part" "other" "I", Cond.methodLink RX3 58 yX3_partAt, Cond.instanceMethod yX3_partAt, Cond.selects RX3 yX3_partAt yX3_partAt, Cond.code yX3_partAt cX3_partAt 2 (some (.object "PartCurves$Part")), Cond.methodLink RX3 122 yX2_room, Cond.instanceMethod yX2_room, Cond.selects RX2 yX2_room yX2_room, Cond.initialized RX2, Cond.code yX2_room cX2_room 1 (some .int), Cond.fieldLink RX2 24 "PartCurves$Readings" "count" "I"]
def wsX3_sweep_r3 : List Cond := [Cond.methodLink RX3 125 yX0_clearAll, Cond.instanceMethod yX0_clearAll, Cond.selects RX0 yX0_clearAll yX0_clearAll, Cond.initialized RX0, Cond.code yX0_clearAll cX0_clearAll 1 none, Cond.fieldLink RX0 16 "PartCurves$Causes" "count" "I", Cond.methodLink RX3 128 yX3_readPulse, Cond.instanceMethod yX3_readPulse, Cond.selects RX3 yX3_readPulse yX3_readPulse, Cond.code yX3_readPulse cX3_readPulse 8 (some .int), Cond.fieldLink RX3 89 "PartCurves$Part" "open" "Z", Cond.methodLink RX3 111 yX3_farthest, Cond.instanceMethod yX3_farthest, Cond.selects RX3 yX3_farthest yX3_farthest, Cond.code yX3_farthest cX3_farthest 8 (some .int), Cond.methodLink RX3 218 yX3_allowed, Cond.instanceMethod yX3_allowed, Cond.selects RX3 yX3_allowed yX3_allowed, Cond.code yX3_allowed cX3_allowed 5 (some .boolean), Cond.fieldLink RX3 39 "PartCurves" "mostAmps" "I", Cond.methodLink RX3 115 yX3_ampsAt, Cond.instanceMethod yX3_ampsAt, Cond.selects RX3 yX3_ampsAt yX3_ampsAt, Cond.code yX3_ampsAt cX3_ampsAt 3 (some .int)]
def wsX3_sweep_r4 : List Cond := [Cond.methodLink RX3 209 yX3_owned, Cond.instanceMethod yX3_owned, Cond.selects RX3 yX3_owned yX3_owned, Cond.code yX3_owned cX3_owned 3 (some .int), Cond.methodLink RX3 107 yX1_ownAmps, Cond.instanceMethod yX1_ownAmps, Cond.selects RX1 yX1_ownAmps yX1_ownAmps, Cond.initialized RX1, Cond.code yX1_ownAmps cX1_ownAmps 3 (some .int), Cond.fieldLink RX1 51 "PartCurves$Part" "c" "I", Cond.fieldLink RX1 36 "PartCurves$Part" "heat" "I", Cond.fieldLink RX1 20 "PartCurves$Part" "burnt" "Z", Cond.methodLink RX1 54 yX1_coldAmps, Cond.instanceMethod yX1_coldAmps, Cond.selects RX1 yX1_coldAmps yX1_coldAmps, Cond.code yX1_coldAmps cX1_coldAmps 3 (some .int), Cond.fieldLink RX1 33 "PartCurves$Part" "kind" "I", Cond.fieldLink RX1 23 "PartCurves$Part" "open" "Z", Cond.fieldLink RX1 39 "PartCurves$Part" "g" "I", Cond.fieldLink RX1 45 "PartCurves$Part" "h" "I", Cond.fieldLink RX1 42 "PartCurves$Part" "k" "I", Cond.methodLink RX1 58 yJ9_floorDiv_7cf53, Cond.static yJ9_floorDiv_7cf53, Cond.initialized RJ9]
def wsX3_sweep_r5 : List Cond := [Cond.code yJ9_floorDiv_7cf53 cJ9_floorDiv_7cf53 3 (some .int), Cond.methodLink RX3 99 yX3_fourWires, Cond.instanceMethod yX3_fourWires, Cond.selects RX3 yX3_fourWires yX3_fourWires, Cond.code yX3_fourWires cX3_fourWires 1 (some .boolean), Cond.methodLink RX3 215 yX3_drop, Cond.instanceMethod yX3_drop, Cond.selects RX3 yX3_drop yX3_drop, Cond.code yX3_drop cX3_drop 2 (some .int), Cond.fieldLink RX3 43 "PartCurves" "leadOhms" "I", Cond.methodLink RX3 212 yJ9_floorDiv_7cf53, Cond.methodLink RX3 226 yX1_snapsOpenAt, Cond.instanceMethod yX1_snapsOpenAt, Cond.selects RX1 yX1_snapsOpenAt yX1_snapsOpenAt, Cond.code yX1_snapsOpenAt cX1_snapsOpenAt 2 (some .boolean), Cond.methodLink RX3 118 yX3_ruleAt, Cond.instanceMethod yX3_ruleAt, Cond.selects RX3 yX3_ruleAt yX3_ruleAt, Cond.code yX3_ruleAt cX3_ruleAt 5 (some .int), Cond.methodLink RX3 222 yX3_aboveLimit, Cond.instanceMethod yX3_aboveLimit, Cond.selects RX3 yX3_aboveLimit yX3_aboveLimit, Cond.code yX3_aboveLimit cX3_aboveLimit 3 (some .boolean), Cond.methodLink RX3 229 yX2_add]
def wsX3_sweep_r6 : List Cond := [Cond.instanceMethod yX2_add, Cond.selects RX2 yX2_add yX2_add, Cond.code yX2_add cX2_add 5 none, Cond.fieldLink RX2 11 "PartCurves$Readings" "forced" "[I", Cond.fieldLink RX2 15 "PartCurves$Readings" "told" "[I", Cond.fieldLink RX2 18 "PartCurves$Readings" "flowed" "[I", Cond.fieldLink RX2 21 "PartCurves$Readings" "rules" "[I", Cond.methodLink RX2 28 yX2_room, Cond.methodLink RX3 233 yX1_warm, Cond.instanceMethod yX1_warm, Cond.selects RX1 yX1_warm yX1_warm, Cond.code yX1_warm cX1_warm 7 (some .int), Cond.methodLink RX1 64 Lib.MathLoose.abs_long.x, Cond.static Lib.MathLoose.abs_long.x, Cond.code Lib.MathLoose.abs_long.x Lib.MathLoose.abs_long.code 2 (some .long), Cond.constantLong RX1 68 (500000), Cond.methodLink RX1 70 Lib.Math.min.name, Cond.static Lib.Math.min.name, Cond.code Lib.Math.min.name Lib.Math.min.code 2 (some .int), Cond.methodLink RX3 237 yX1_shutBelow, Cond.instanceMethod yX1_shutBelow, Cond.selects RX1 yX1_shutBelow yX1_shutBelow, Cond.code yX1_shutBelow cX1_shutBelow 2 none, Cond.fieldLink RX1 48 "PartCurves$Part" "m" "I"]
def wsX3_sweep_r7 : List Cond := [Cond.methodLink RX3 150 yX0_put, Cond.instanceMethod yX0_put, Cond.selects RX0 yX0_put yX0_put, Cond.code yX0_put cX0_put 3 none, Cond.fieldLink RX0 9 "PartCurves$Causes" "sorts" "[I", Cond.fieldLink RX0 13 "PartCurves$Causes" "numbers" "[I", Cond.methodLink RX3 131 yX3_tellBurnt, Cond.instanceMethod yX3_tellBurnt, Cond.selects RX3 yX3_tellBurnt yX3_tellBurnt, Cond.code yX3_tellBurnt cX3_tellBurnt 3 none, Cond.methodLink RX3 137 yX3_coolAll, Cond.instanceMethod yX3_coolAll, Cond.selects RX3 yX3_coolAll yX3_coolAll, Cond.code yX3_coolAll cX3_coolAll 3 none, Cond.methodLink RX3 240 yX1_cool, Cond.instanceMethod yX1_cool, Cond.selects RX1 yX1_cool yX1_cool, Cond.code yX1_cool cX1_cool 3 none]
def wsX3_sweep : List Cond := .code yX3_sweep cX3_sweep 15 (some .int) :: ((wsX3_sweep_r1 ++ (wsX3_sweep_r2 ++ (wsX3_sweep_r3 ++ (wsX3_sweep_r4 ++ (wsX3_sweep_r5 ++ (wsX3_sweep_r6 ++ wsX3_sweep_r7)))))) ++ wsX30 ++ wsX10 ++ wsX20 ++ wsX00)
def wsX3_why : List Cond := .code yX3_why cX3_why 3 (some .int) :: ([.fieldLink RX3 31 "PartCurves" "causes" "LPartCurves$Causes;", .fieldLink RX3 153 "PartCurves$Causes" "count" "I", .fieldLink RX3 154 "PartCurves$Causes" "sorts" "[I", .fieldLink RX3 157 "PartCurves$Causes" "numbers" "[I", .methodLink RX3 47 yX3_within, .static yX3_within, .initialized RX3, .code yX3_within cX3_within 3 (some .boolean)] ++ wsX30 ++ wsX00)
def wsX3_reading : List Cond := .code yX3_reading cX3_reading 3 (some .int) :: ([.fieldLink RX3 24 "PartCurves" "readings" "LPartCurves$Readings;", .fieldLink RX3 163 "PartCurves$Readings" "forced" "[I", .fieldLink RX3 166 "PartCurves$Readings" "told" "[I", .fieldLink RX3 169 "PartCurves$Readings" "flowed" "[I", .constant RX3 110 (50000), .fieldLink RX3 172 "PartCurves$Readings" "rules" "[I", .methodLink RX3 160 yX2_has, .instanceMethod yX2_has, .selects RX2 yX2_has yX2_has, .initialized RX2, .code yX2_has cX2_has 2 (some .boolean), .fieldLink RX2 24 "PartCurves$Readings" "count" "I"] ++ wsX30 ++ wsX20)
def wsX3_clear : List Cond := .code yX3_clear cX3_clear 2 (some .int) :: ([.fieldLink RX3 24 "PartCurves" "readings" "LPartCurves$Readings;", .fieldLink RX3 134 "PartCurves$Readings" "count" "I"] ++ wsX30 ++ wsX20)
def wsX3_knee : List Cond := .code yX3_knee cX3_knee 3 (some .int) :: ([.fieldLink RX3 24 "PartCurves" "readings" "LPartCurves$Readings;", .methodLink RX3 160 yX2_has, .instanceMethod yX2_has, .selects RX2 yX2_has yX2_has, .initialized RX2, .code yX2_has cX2_has 2 (some .boolean), .fieldLink RX2 24 "PartCurves$Readings" "count" "I", .methodLink RX3 175 yX2_kneePoint, .instanceMethod yX2_kneePoint, .selects RX2 yX2_kneePoint yX2_kneePoint, .code yX2_kneePoint cX2_kneePoint 13 (some .int), .fieldLink RX2 15 "PartCurves$Readings" "told" "[I", .fieldLink RX2 18 "PartCurves$Readings" "flowed" "[I", .methodLink RX2 32 Lib.MathLoose.abs_long.x, .static Lib.MathLoose.abs_long.x, .initialized "java/lang/Math", .code Lib.MathLoose.abs_long.x Lib.MathLoose.abs_long.code 2 (some .long)] ++ wsX30 ++ wsX20)
def wsX3_fit_r1 : List Cond := [Cond.fieldLink RX3 24 "PartCurves" "readings" "LPartCurves$Readings;", Cond.constantLong RX3 178 (-9223372036854775808), Cond.methodLink RX3 160 yX2_has, Cond.instanceMethod yX2_has, Cond.selects RX2 yX2_has yX2_has, Cond.initialized RX2, Cond.code yX2_has cX2_has 2 (some .boolean), Cond.fieldLink RX2 24 "PartCurves$Readings" "count" "I", Cond.methodLink RX3 47 yX3_within, Cond.static yX3_within, Cond.initialized RX3, Cond.code yX3_within cX3_within 3 (some .boolean), Cond.methodLink RX3 180 yX2_lineFitted, Cond.instanceMethod yX2_lineFitted, Cond.selects RX2 yX2_lineFitted yX2_lineFitted, Cond.code yX2_lineFitted cX2_lineFitted 21 (some .long), Cond.fieldLink RX2 15 "PartCurves$Readings" "told" "[I", Cond.fieldLink RX2 18 "PartCurves$Readings" "flowed" "[I", Cond.constantLong RX2 53 (-9223372036854775808), Cond.methodLink RX2 45 yX2_sum, Cond.static yX2_sum, Cond.code yX2_sum cX2_sum 6 (some .long), Cond.methodLink RX2 49 yX2_sumOfProducts, Cond.static yX2_sumOfProducts]
def wsX3_fit_r2 : List Cond := [Cond.code yX2_sumOfProducts cX2_sumOfProducts 7 (some .long), Cond.methodLink RX2 55 yX2_ofFraction, Cond.static yX2_ofFraction, Cond.code yX2_ofFraction cX2_ofFraction 9 (some .long), Cond.methodLink RX2 32 Lib.MathLoose.abs_long.x, Cond.static Lib.MathLoose.abs_long.x, Cond.initialized "java/lang/Math", Cond.code Lib.MathLoose.abs_long.x Lib.MathLoose.abs_long.code 2 (some .long), Cond.methodLink RX2 59 yX2_greatestDivisor, Cond.static yX2_greatestDivisor, Cond.code yX2_greatestDivisor cX2_greatestDivisor 7 (some .long)]
def wsX3_fit : List Cond := .code yX3_fit cX3_fit 4 (some .long) :: ((wsX3_fit_r1 ++ wsX3_fit_r2) ++ wsX30 ++ wsX20)
def wsX3_gap : List Cond := .code yX3_gap cX3_gap 3 (some .int) :: ([.fieldLink RX3 24 "PartCurves" "readings" "LPartCurves$Readings;", .methodLink RX3 160 yX2_has, .instanceMethod yX2_has, .selects RX2 yX2_has yX2_has, .initialized RX2, .code yX2_has cX2_has 2 (some .boolean), .fieldLink RX2 24 "PartCurves$Readings" "count" "I", .methodLink RX3 184 yX2_greatestGap, .instanceMethod yX2_greatestGap, .selects RX2 yX2_greatestGap yX2_greatestGap, .code yX2_greatestGap cX2_greatestGap 6 (some .int), .fieldLink RX2 11 "PartCurves$Readings" "forced" "[I", .fieldLink RX2 18 "PartCurves$Readings" "flowed" "[I", .methodLink RX2 38 Lib.Math.abs.name, .static Lib.Math.abs.name, .initialized "java/lang/Math", .code Lib.Math.abs.name Lib.Math.abs.code 1 (some .int), .methodLink RX2 41 Lib.Math.max.name, .static Lib.Math.max.name, .code Lib.Math.max.name Lib.Math.max.code 2 (some .int)] ++ wsX30 ++ wsX20)
def wsX3_partsThere : List Cond := .code yX3_partsThere cX3_partsThere 4 (some .int) :: ([.fieldLink RX3 13 "PartCurves" "parts" "[LPartCurves$Part;", .fieldLink RX3 51 "PartCurves$Part" "there" "Z", .fieldLink RX3 86 "PartCurves$Part" "burnt" "Z"] ++ wsX30 ++ wsX10)
def wsX3_closedRelays : List Cond := .code yX3_closedRelays cX3_closedRelays 3 (some .int) :: ([.fieldLink RX3 17 "PartCurves" "pinSets" "[I", .methodLink RX3 197 yJ6_bitCount_0f7a4, .static yJ6_bitCount_0f7a4, .initialized RJ6, .code yJ6_bitCount_0f7a4 cJ6_bitCount_0f7a4 1 (some .int), .constant RJ6 265 (1431655765), .constant RJ6 266 (858993459), .constant RJ6 267 (252645135)] ++ wsX30)
def wsX3_many_r1 : List Cond := [Cond.fieldLink RX3 24 "PartCurves" "readings" "LPartCurves$Readings;", Cond.fieldLink RX3 134 "PartCurves$Readings" "count" "I", Cond.methodLink RX3 187 yX3_partsThere, Cond.instanceMethod yX3_partsThere, Cond.selects RX3 yX3_partsThere yX3_partsThere, Cond.initialized RX3, Cond.code yX3_partsThere cX3_partsThere 4 (some .int), Cond.fieldLink RX3 13 "PartCurves" "parts" "[LPartCurves$Part;", Cond.fieldLink RX3 51 "PartCurves$Part" "there" "Z", Cond.fieldLink RX3 86 "PartCurves$Part" "burnt" "Z", Cond.methodLink RX3 191 yX3_closedRelays, Cond.instanceMethod yX3_closedRelays, Cond.selects RX3 yX3_closedRelays yX3_closedRelays, Cond.code yX3_closedRelays cX3_closedRelays 3 (some .int), Cond.fieldLink RX3 17 "PartCurves" "pinSets" "[I", Cond.methodLink RX3 197 yJ6_bitCount_0f7a4, Cond.static yJ6_bitCount_0f7a4, Cond.initialized RJ6, Cond.code yJ6_bitCount_0f7a4 cJ6_bitCount_0f7a4 1 (some .int), Cond.constant RJ6 265 (1431655765), Cond.constant RJ6 266 (858993459), Cond.constant RJ6 267 (252645135), Cond.methodLink RX3 194 yX2_withRule, Cond.instanceMethod yX2_withRule]
def wsX3_many_r2 : List Cond := [Cond.selects RX2 yX2_withRule yX2_withRule, Cond.initialized RX2, Cond.code yX2_withRule cX2_withRule 4 (some .int), Cond.fieldLink RX2 24 "PartCurves$Readings" "count" "I", Cond.fieldLink RX2 21 "PartCurves$Readings" "rules" "[I"]
def wsX3_many : List Cond := .code yX3_many cX3_many 2 (some .int) :: ((wsX3_many_r1 ++ wsX3_many_r2) ++ wsX30 ++ wsX20 ++ wsX10)
def wsX4_init : List Cond := .code yX4_init cX4_init 1 none :: ([.methodLink RX4 1 objectInit, .instanceMethod objectInit, .code objectInit ⟨#[0xb1]⟩ 1 none, .arrayClass .boolean, .fieldLink RX4 7 "PartCurvesModel" "isThere" "[Z", .arrayClass .int, .fieldLink RX4 13 "PartCurvesModel" "firstOf" "[I", .fieldLink RX4 17 "PartCurvesModel" "otherOf" "[I", .fieldLink RX4 20 "PartCurvesModel" "kindOf" "[I", .fieldLink RX4 23 "PartCurvesModel" "numberOf" "[I", .fieldLink RX4 26 "PartCurvesModel" "leastNumber" "[I", .fieldLink RX4 29 "PartCurvesModel" "mostNumber" "[I", .fieldLink RX4 32 "PartCurvesModel" "heatOf" "[I", .fieldLink RX4 35 "PartCurvesModel" "isBurnt" "[Z", .fieldLink RX4 38 "PartCurvesModel" "isOpen" "[Z", .fieldLink RX4 41 "PartCurvesModel" "pinsOf" "[I", .fieldLink RX4 44 "PartCurvesModel" "limit" "I", .fieldLink RX4 48 "PartCurvesModel" "forced" "[I", .fieldLink RX4 51 "PartCurvesModel" "toldVolts" "[I", .fieldLink RX4 54 "PartCurvesModel" "ampsOf" "[I", .fieldLink RX4 57 "PartCurvesModel" "ruleOf" "[I", .fieldLink RX4 60 "PartCurvesModel" "causeSort" "[I", .fieldLink RX4 63 "PartCurvesModel" "causeNumber" "[I"] ++ wsX40)
def wsX4_within : List Cond := .code yX4_within cX4_within 3 (some .boolean) :: ([])
def wsX4_size : List Cond := .code yX4_size cX4_size 1 (some .int) :: ([])
def wsX4_cut : List Cond := .code yX4_cut cX4_cut 2 (some .int) :: ([])
def wsX4_isPin : List Cond := .code yX4_isPin cX4_isPin 1 (some .boolean) :: ([.methodLink RX4 66 yX4_within, .static yX4_within, .initialized RX4, .code yX4_within cX4_within 3 (some .boolean)])
def wsX4_isPart : List Cond := .code yX4_isPart cX4_isPart 2 (some .boolean) :: ([.fieldLink RX4 7 "PartCurvesModel" "isThere" "[Z", .methodLink RX4 66 yX4_within, .static yX4_within, .initialized RX4, .code yX4_within cX4_within 3 (some .boolean)] ++ wsX40)
def wsX4_number : List Cond := .code yX4_number cX4_number 3 (some .int) :: ([.fieldLink RX4 23 "PartCurvesModel" "numberOf" "[I"] ++ wsX40)
def wsX4_part : List Cond := .code yX4_part cX4_part 6 (some .int) :: ([.fieldLink RX4 74 "PartCurvesModel" "isOn" "Z", .fieldLink RX4 7 "PartCurvesModel" "isThere" "[Z", .fieldLink RX4 13 "PartCurvesModel" "firstOf" "[I", .fieldLink RX4 17 "PartCurvesModel" "otherOf" "[I", .fieldLink RX4 20 "PartCurvesModel" "kindOf" "[I", .fieldLink RX4 23 "PartCurvesModel" "numberOf" "[I", .fieldLink RX4 32 "PartCurvesModel" "heatOf" "[I", .fieldLink RX4 35 "PartCurvesModel" "isBurnt" "[Z", .fieldLink RX4 38 "PartCurvesModel" "isOpen" "[Z", .methodLink RX4 66 yX4_within, .static yX4_within, .initialized RX4, .code yX4_within cX4_within 3 (some .boolean), .methodLink RX4 70 yX4_isPin, .static yX4_isPin, .code yX4_isPin cX4_isPin 1 (some .boolean)] ++ wsX40)
def wsX4_remove : List Cond := .code yX4_remove cX4_remove 2 (some .int) :: ([.fieldLink RX4 74 "PartCurvesModel" "isOn" "Z", .fieldLink RX4 7 "PartCurvesModel" "isThere" "[Z", .methodLink RX4 78 yX4_isPart, .instanceMethod yX4_isPart, .selects RX4 yX4_isPart yX4_isPart, .initialized RX4, .code yX4_isPart cX4_isPart 2 (some .boolean), .methodLink RX4 66 yX4_within, .static yX4_within, .code yX4_within cX4_within 3 (some .boolean)] ++ wsX40)
def wsX4_set : List Cond := .code yX4_set cX4_set 5 (some .int) :: ([.fieldLink RX4 26 "PartCurvesModel" "leastNumber" "[I", .fieldLink RX4 29 "PartCurvesModel" "mostNumber" "[I", .fieldLink RX4 23 "PartCurvesModel" "numberOf" "[I", .methodLink RX4 78 yX4_isPart, .instanceMethod yX4_isPart, .selects RX4 yX4_isPart yX4_isPart, .initialized RX4, .code yX4_isPart cX4_isPart 2 (some .boolean), .fieldLink RX4 7 "PartCurvesModel" "isThere" "[Z", .methodLink RX4 66 yX4_within, .static yX4_within, .code yX4_within cX4_within 3 (some .boolean), .methodLink RX4 81 yX4_number, .instanceMethod yX4_number, .selects RX4 yX4_number yX4_number, .code yX4_number cX4_number 3 (some .int)] ++ wsX40)
def wsX4_ofPart : List Cond := .code yX4_ofPart cX4_ofPart 3 (some .int) :: ([.fieldLink RX4 13 "PartCurvesModel" "firstOf" "[I", .fieldLink RX4 17 "PartCurvesModel" "otherOf" "[I", .fieldLink RX4 20 "PartCurvesModel" "kindOf" "[I", .fieldLink RX4 32 "PartCurvesModel" "heatOf" "[I", .fieldLink RX4 35 "PartCurvesModel" "isBurnt" "[Z", .fieldLink RX4 38 "PartCurvesModel" "isOpen" "[Z", .methodLink RX4 78 yX4_isPart, .instanceMethod yX4_isPart, .selects RX4 yX4_isPart yX4_isPart, .initialized RX4, .code yX4_isPart cX4_isPart 2 (some .boolean), .fieldLink RX4 7 "PartCurvesModel" "isThere" "[Z", .methodLink RX4 66 yX4_within, .static yX4_within, .code yX4_within cX4_within 3 (some .boolean), .methodLink RX4 81 yX4_number, .instanceMethod yX4_number, .selects RX4 yX4_number yX4_number, .code yX4_number cX4_number 3 (some .int), .fieldLink RX4 23 "PartCurvesModel" "numberOf" "[I"] ++ wsX40)
def wsX4_isTerminal : List Cond := .code yX4_isTerminal cX4_isTerminal 1 (some .boolean) :: ([.methodLink RX4 66 yX4_within, .static yX4_within, .initialized RX4, .code yX4_within cX4_within 3 (some .boolean)])
def wsX4_relay : List Cond := .code yX4_relay cX4_relay 6 (some .int) :: ([.fieldLink RX4 41 "PartCurvesModel" "pinsOf" "[I", .fieldLink RX4 74 "PartCurvesModel" "isOn" "Z", .methodLink RX4 85 yX4_isTerminal, .static yX4_isTerminal, .initialized RX4, .code yX4_isTerminal cX4_isTerminal 1 (some .boolean), .methodLink RX4 66 yX4_within, .static yX4_within, .code yX4_within cX4_within 3 (some .boolean), .methodLink RX4 70 yX4_isPin, .static yX4_isPin, .code yX4_isPin cX4_isPin 1 (some .boolean)] ++ wsX40)
def wsX4_pins : List Cond := .code yX4_pins cX4_pins 2 (some .int) :: ([.fieldLink RX4 41 "PartCurvesModel" "pinsOf" "[I", .methodLink RX4 85 yX4_isTerminal, .static yX4_isTerminal, .initialized RX4, .code yX4_isTerminal cX4_isTerminal 1 (some .boolean), .methodLink RX4 66 yX4_within, .static yX4_within, .code yX4_within cX4_within 3 (some .boolean)] ++ wsX40)
def wsX4_pinOf : List Cond := .code yX4_pinOf cX4_pinOf 5 (some .int) :: ([.fieldLink RX4 41 "PartCurvesModel" "pinsOf" "[I"] ++ wsX40)
def wsX4_inHand : List Cond := .code yX4_inHand cX4_inHand 5 (some .int) :: ([.fieldLink RX4 13 "PartCurvesModel" "firstOf" "[I", .fieldLink RX4 17 "PartCurvesModel" "otherOf" "[I", .fieldLink RX4 7 "PartCurvesModel" "isThere" "[Z", .methodLink RX4 88 yX4_pinOf, .instanceMethod yX4_pinOf, .selects RX4 yX4_pinOf yX4_pinOf, .initialized RX4, .code yX4_pinOf cX4_pinOf 5 (some .int), .fieldLink RX4 41 "PartCurvesModel" "pinsOf" "[I"] ++ wsX40)
def wsX4_isFourWires : List Cond := .code yX4_isFourWires cX4_isFourWires 1 (some .boolean) :: ([.methodLink RX4 88 yX4_pinOf, .instanceMethod yX4_pinOf, .selects RX4 yX4_pinOf yX4_pinOf, .initialized RX4, .code yX4_pinOf cX4_pinOf 5 (some .int), .fieldLink RX4 41 "PartCurvesModel" "pinsOf" "[I"] ++ wsX40)
def wsX4_power : List Cond := .code yX4_power cX4_power 3 (some .int) :: ([.fieldLink RX4 74 "PartCurvesModel" "isOn" "Z", .methodLink RX4 66 yX4_within, .static yX4_within, .initialized RX4, .code yX4_within cX4_within 3 (some .boolean), .methodLink RX4 92 yX4_inHand, .instanceMethod yX4_inHand, .selects RX4 yX4_inHand yX4_inHand, .code yX4_inHand cX4_inHand 5 (some .int), .fieldLink RX4 13 "PartCurvesModel" "firstOf" "[I", .fieldLink RX4 17 "PartCurvesModel" "otherOf" "[I", .fieldLink RX4 7 "PartCurvesModel" "isThere" "[Z", .methodLink RX4 88 yX4_pinOf, .instanceMethod yX4_pinOf, .selects RX4 yX4_pinOf yX4_pinOf, .code yX4_pinOf cX4_pinOf 5 (some .int), .fieldLink RX4 41 "PartCurvesModel" "pinsOf" "[I"] ++ wsX40)
def wsX4_limit : List Cond := .code yX4_limit cX4_limit 3 (some .int) :: ([.fieldLink RX4 44 "PartCurvesModel" "limit" "I", .methodLink RX4 66 yX4_within, .static yX4_within, .initialized RX4, .code yX4_within cX4_within 3 (some .boolean)] ++ wsX40)
def wsX4_leads : List Cond := .code yX4_leads cX4_leads 3 (some .int) :: ([.fieldLink RX4 96 "PartCurvesModel" "leads" "I", .methodLink RX4 66 yX4_within, .static yX4_within, .initialized RX4, .code yX4_within cX4_within 3 (some .boolean)] ++ wsX40)
def wsX4_now : List Cond := .code yX4_now cX4_now 2 (some .int) :: ([.fieldLink RX4 74 "PartCurvesModel" "isOn" "Z", .fieldLink RX4 44 "PartCurvesModel" "limit" "I", .fieldLink RX4 96 "PartCurvesModel" "leads" "I", .methodLink RX4 92 yX4_inHand, .instanceMethod yX4_inHand, .selects RX4 yX4_inHand yX4_inHand, .initialized RX4, .code yX4_inHand cX4_inHand 5 (some .int), .fieldLink RX4 13 "PartCurvesModel" "firstOf" "[I", .fieldLink RX4 17 "PartCurvesModel" "otherOf" "[I", .fieldLink RX4 7 "PartCurvesModel" "isThere" "[Z", .methodLink RX4 88 yX4_pinOf, .instanceMethod yX4_pinOf, .selects RX4 yX4_pinOf yX4_pinOf, .code yX4_pinOf cX4_pinOf 5 (some .int), .fieldLink RX4 41 "PartCurvesModel" "pinsOf" "[I", .methodLink RX4 99 yX4_isFourWires, .instanceMethod yX4_isFourWires, .selects RX4 yX4_isFourWires yX4_isFourWires, .code yX4_isFourWires cX4_isFourWires 1 (some .boolean)] ++ wsX40)
def wsX4_cold : List Cond := .code yX4_cold cX4_cold 7 (some .int) :: ([.fieldLink RX4 20 "PartCurvesModel" "kindOf" "[I", .fieldLink RX4 38 "PartCurvesModel" "isOpen" "[Z", .methodLink RX4 81 yX4_number, .instanceMethod yX4_number, .selects RX4 yX4_number yX4_number, .initialized RX4, .code yX4_number cX4_number 3 (some .int), .fieldLink RX4 23 "PartCurvesModel" "numberOf" "[I", .methodLink RX4 103 yX4_cut, .static yX4_cut, .code yX4_cut cX4_cut 2 (some .int)] ++ wsX40)
def wsX4_ownAmps : List Cond := .code yX4_ownAmps cX4_ownAmps 3 (some .int) :: ([.fieldLink RX4 35 "PartCurvesModel" "isBurnt" "[Z", .fieldLink RX4 32 "PartCurvesModel" "heatOf" "[I", .methodLink RX4 106 yX4_cold, .instanceMethod yX4_cold, .selects RX4 yX4_cold yX4_cold, .initialized RX4, .code yX4_cold cX4_cold 7 (some .int), .fieldLink RX4 20 "PartCurvesModel" "kindOf" "[I", .fieldLink RX4 38 "PartCurvesModel" "isOpen" "[Z", .methodLink RX4 81 yX4_number, .instanceMethod yX4_number, .selects RX4 yX4_number yX4_number, .code yX4_number cX4_number 3 (some .int), .fieldLink RX4 23 "PartCurvesModel" "numberOf" "[I", .methodLink RX4 103 yX4_cut, .static yX4_cut, .code yX4_cut cX4_cut 2 (some .int)] ++ wsX40)
def wsX4_amps_r1 : List Cond := [Cond.constant RX4 112 (50000), Cond.methodLink RX4 78 yX4_isPart, Cond.instanceMethod yX4_isPart, Cond.selects RX4 yX4_isPart yX4_isPart, Cond.initialized RX4, Cond.code yX4_isPart cX4_isPart 2 (some .boolean), Cond.fieldLink RX4 7 "PartCurvesModel" "isThere" "[Z", Cond.methodLink RX4 66 yX4_within, Cond.static yX4_within, Cond.code yX4_within cX4_within 3 (some .boolean), Cond.methodLink RX4 109 yX4_ownAmps, Cond.instanceMethod yX4_ownAmps, Cond.selects RX4 yX4_ownAmps yX4_ownAmps, Cond.code yX4_ownAmps cX4_ownAmps 3 (some .int), Cond.fieldLink RX4 35 "PartCurvesModel" "isBurnt" "[Z", Cond.fieldLink RX4 32 "PartCurvesModel" "heatOf" "[I", Cond.methodLink RX4 106 yX4_cold, Cond.instanceMethod yX4_cold, Cond.selects RX4 yX4_cold yX4_cold, Cond.code yX4_cold cX4_cold 7 (some .int), Cond.fieldLink RX4 20 "PartCurvesModel" "kindOf" "[I", Cond.fieldLink RX4 38 "PartCurvesModel" "isOpen" "[Z", Cond.methodLink RX4 81 yX4_number, Cond.instanceMethod yX4_number]
def wsX4_amps_r2 : List Cond := [Cond.selects RX4 yX4_number yX4_number, Cond.code yX4_number cX4_number 3 (some .int), Cond.fieldLink RX4 23 "PartCurvesModel" "numberOf" "[I", Cond.methodLink RX4 103 yX4_cut, Cond.static yX4_cut, Cond.code yX4_cut cX4_cut 2 (some .int)]
def wsX4_amps : List Cond := .code yX4_amps cX4_amps 3 (some .int) :: ((wsX4_amps_r1 ++ wsX4_amps_r2) ++ wsX40)
def wsX4_isForward : List Cond := .code yX4_isForward cX4_isForward 2 (some .boolean) :: ([.fieldLink RX4 13 "PartCurvesModel" "firstOf" "[I", .methodLink RX4 88 yX4_pinOf, .instanceMethod yX4_pinOf, .selects RX4 yX4_pinOf yX4_pinOf, .initialized RX4, .code yX4_pinOf cX4_pinOf 5 (some .int), .fieldLink RX4 41 "PartCurvesModel" "pinsOf" "[I"] ++ wsX40)
def wsX4_ampsAt_r1 : List Cond := [Cond.methodLink RX4 113 yX4_isForward, Cond.instanceMethod yX4_isForward, Cond.selects RX4 yX4_isForward yX4_isForward, Cond.initialized RX4, Cond.code yX4_isForward cX4_isForward 2 (some .boolean), Cond.fieldLink RX4 13 "PartCurvesModel" "firstOf" "[I", Cond.methodLink RX4 88 yX4_pinOf, Cond.instanceMethod yX4_pinOf, Cond.selects RX4 yX4_pinOf yX4_pinOf, Cond.code yX4_pinOf cX4_pinOf 5 (some .int), Cond.fieldLink RX4 41 "PartCurvesModel" "pinsOf" "[I", Cond.methodLink RX4 109 yX4_ownAmps, Cond.instanceMethod yX4_ownAmps, Cond.selects RX4 yX4_ownAmps yX4_ownAmps, Cond.code yX4_ownAmps cX4_ownAmps 3 (some .int), Cond.fieldLink RX4 35 "PartCurvesModel" "isBurnt" "[Z", Cond.fieldLink RX4 32 "PartCurvesModel" "heatOf" "[I", Cond.methodLink RX4 106 yX4_cold, Cond.instanceMethod yX4_cold, Cond.selects RX4 yX4_cold yX4_cold, Cond.code yX4_cold cX4_cold 7 (some .int), Cond.fieldLink RX4 20 "PartCurvesModel" "kindOf" "[I", Cond.fieldLink RX4 38 "PartCurvesModel" "isOpen" "[Z", Cond.methodLink RX4 81 yX4_number]
def wsX4_ampsAt_r2 : List Cond := [Cond.instanceMethod yX4_number, Cond.selects RX4 yX4_number yX4_number, Cond.code yX4_number cX4_number 3 (some .int), Cond.fieldLink RX4 23 "PartCurvesModel" "numberOf" "[I", Cond.methodLink RX4 103 yX4_cut, Cond.static yX4_cut, Cond.code yX4_cut cX4_cut 2 (some .int)]
def wsX4_ampsAt : List Cond := .code yX4_ampsAt cX4_ampsAt 3 (some .int) :: ((wsX4_ampsAt_r1 ++ wsX4_ampsAt_r2) ++ wsX40)
def wsX4_dropBy : List Cond := .code yX4_dropBy cX4_dropBy 2 (some .int) :: ([.fieldLink RX4 96 "PartCurvesModel" "leads" "I", .methodLink RX4 103 yX4_cut, .static yX4_cut, .initialized RX4, .code yX4_cut cX4_cut 2 (some .int)] ++ wsX40)
def wsX4_against_r1 : List Cond := [Cond.fieldLink RX4 44 "PartCurvesModel" "limit" "I", Cond.methodLink RX4 116 yX4_ampsAt, Cond.instanceMethod yX4_ampsAt, Cond.selects RX4 yX4_ampsAt yX4_ampsAt, Cond.initialized RX4, Cond.code yX4_ampsAt cX4_ampsAt 3 (some .int), Cond.methodLink RX4 113 yX4_isForward, Cond.instanceMethod yX4_isForward, Cond.selects RX4 yX4_isForward yX4_isForward, Cond.code yX4_isForward cX4_isForward 2 (some .boolean), Cond.fieldLink RX4 13 "PartCurvesModel" "firstOf" "[I", Cond.methodLink RX4 88 yX4_pinOf, Cond.instanceMethod yX4_pinOf, Cond.selects RX4 yX4_pinOf yX4_pinOf, Cond.code yX4_pinOf cX4_pinOf 5 (some .int), Cond.fieldLink RX4 41 "PartCurvesModel" "pinsOf" "[I", Cond.methodLink RX4 109 yX4_ownAmps, Cond.instanceMethod yX4_ownAmps, Cond.selects RX4 yX4_ownAmps yX4_ownAmps, Cond.code yX4_ownAmps cX4_ownAmps 3 (some .int), Cond.fieldLink RX4 35 "PartCurvesModel" "isBurnt" "[Z", Cond.fieldLink RX4 32 "PartCurvesModel" "heatOf" "[I", Cond.methodLink RX4 106 yX4_cold, Cond.instanceMethod yX4_cold]
def wsX4_against_r2 : List Cond := [Cond.selects RX4 yX4_cold yX4_cold, Cond.code yX4_cold cX4_cold 7 (some .int), Cond.fieldLink RX4 20 "PartCurvesModel" "kindOf" "[I", Cond.fieldLink RX4 38 "PartCurvesModel" "isOpen" "[Z", Cond.methodLink RX4 81 yX4_number, Cond.instanceMethod yX4_number, Cond.selects RX4 yX4_number yX4_number, Cond.code yX4_number cX4_number 3 (some .int), Cond.fieldLink RX4 23 "PartCurvesModel" "numberOf" "[I", Cond.methodLink RX4 103 yX4_cut, Cond.static yX4_cut, Cond.code yX4_cut cX4_cut 2 (some .int), Cond.methodLink RX4 119 yX4_size, Cond.static yX4_size, Cond.code yX4_size cX4_size 1 (some .int), Cond.methodLink RX4 99 yX4_isFourWires, Cond.instanceMethod yX4_isFourWires, Cond.selects RX4 yX4_isFourWires yX4_isFourWires, Cond.code yX4_isFourWires cX4_isFourWires 1 (some .boolean), Cond.methodLink RX4 122 yX4_dropBy, Cond.instanceMethod yX4_dropBy, Cond.selects RX4 yX4_dropBy yX4_dropBy, Cond.code yX4_dropBy cX4_dropBy 2 (some .int), Cond.fieldLink RX4 96 "PartCurvesModel" "leads" "I"]
def wsX4_against : List Cond := .code yX4_against cX4_against 5 (some .int) :: ((wsX4_against_r1 ++ wsX4_against_r2) ++ wsX40)
def wsX4_finds_r1 : List Cond := [Cond.fieldLink RX4 125 "PartCurvesModel" "found" "I", Cond.fieldLink RX4 128 "PartCurvesModel" "rule" "I", Cond.methodLink RX4 131 yX4_against, Cond.instanceMethod yX4_against, Cond.selects RX4 yX4_against yX4_against, Cond.initialized RX4, Cond.code yX4_against cX4_against 5 (some .int), Cond.fieldLink RX4 44 "PartCurvesModel" "limit" "I", Cond.methodLink RX4 116 yX4_ampsAt, Cond.instanceMethod yX4_ampsAt, Cond.selects RX4 yX4_ampsAt yX4_ampsAt, Cond.code yX4_ampsAt cX4_ampsAt 3 (some .int), Cond.methodLink RX4 113 yX4_isForward, Cond.instanceMethod yX4_isForward, Cond.selects RX4 yX4_isForward yX4_isForward, Cond.code yX4_isForward cX4_isForward 2 (some .boolean), Cond.fieldLink RX4 13 "PartCurvesModel" "firstOf" "[I", Cond.methodLink RX4 88 yX4_pinOf, Cond.instanceMethod yX4_pinOf, Cond.selects RX4 yX4_pinOf yX4_pinOf, Cond.code yX4_pinOf cX4_pinOf 5 (some .int), Cond.fieldLink RX4 41 "PartCurvesModel" "pinsOf" "[I", Cond.methodLink RX4 109 yX4_ownAmps, Cond.instanceMethod yX4_ownAmps]
def wsX4_finds_r2 : List Cond := [Cond.selects RX4 yX4_ownAmps yX4_ownAmps, Cond.code yX4_ownAmps cX4_ownAmps 3 (some .int), Cond.fieldLink RX4 35 "PartCurvesModel" "isBurnt" "[Z", Cond.fieldLink RX4 32 "PartCurvesModel" "heatOf" "[I", Cond.methodLink RX4 106 yX4_cold, Cond.instanceMethod yX4_cold, Cond.selects RX4 yX4_cold yX4_cold, Cond.code yX4_cold cX4_cold 7 (some .int), Cond.fieldLink RX4 20 "PartCurvesModel" "kindOf" "[I", Cond.fieldLink RX4 38 "PartCurvesModel" "isOpen" "[Z", Cond.methodLink RX4 81 yX4_number, Cond.instanceMethod yX4_number, Cond.selects RX4 yX4_number yX4_number, Cond.code yX4_number cX4_number 3 (some .int), Cond.fieldLink RX4 23 "PartCurvesModel" "numberOf" "[I", Cond.methodLink RX4 103 yX4_cut, Cond.static yX4_cut, Cond.code yX4_cut cX4_cut 2 (some .int), Cond.methodLink RX4 119 yX4_size, Cond.static yX4_size, Cond.code yX4_size cX4_size 1 (some .int), Cond.methodLink RX4 99 yX4_isFourWires, Cond.instanceMethod yX4_isFourWires, Cond.selects RX4 yX4_isFourWires yX4_isFourWires]
def wsX4_finds_r3 : List Cond := [Cond.code yX4_isFourWires cX4_isFourWires 1 (some .boolean), Cond.methodLink RX4 122 yX4_dropBy, Cond.instanceMethod yX4_dropBy, Cond.selects RX4 yX4_dropBy yX4_dropBy, Cond.code yX4_dropBy cX4_dropBy 2 (some .int), Cond.fieldLink RX4 96 "PartCurvesModel" "leads" "I"]
def wsX4_finds : List Cond := .code yX4_finds cX4_finds 4 none :: ((wsX4_finds_r1 ++ (wsX4_finds_r2 ++ wsX4_finds_r3)) ++ wsX40)
def wsX4_would_r1 : List Cond := [Cond.fieldLink RX4 125 "PartCurvesModel" "found" "I", Cond.constant RX4 112 (50000), Cond.fieldLink RX4 128 "PartCurvesModel" "rule" "I", Cond.methodLink RX4 66 yX4_within, Cond.static yX4_within, Cond.initialized RX4, Cond.code yX4_within cX4_within 3 (some .boolean), Cond.methodLink RX4 92 yX4_inHand, Cond.instanceMethod yX4_inHand, Cond.selects RX4 yX4_inHand yX4_inHand, Cond.code yX4_inHand cX4_inHand 5 (some .int), Cond.fieldLink RX4 13 "PartCurvesModel" "firstOf" "[I", Cond.fieldLink RX4 17 "PartCurvesModel" "otherOf" "[I", Cond.fieldLink RX4 7 "PartCurvesModel" "isThere" "[Z", Cond.methodLink RX4 88 yX4_pinOf, Cond.instanceMethod yX4_pinOf, Cond.selects RX4 yX4_pinOf yX4_pinOf, Cond.code yX4_pinOf cX4_pinOf 5 (some .int), Cond.fieldLink RX4 41 "PartCurvesModel" "pinsOf" "[I", Cond.methodLink RX4 135 yX4_finds, Cond.instanceMethod yX4_finds, Cond.selects RX4 yX4_finds yX4_finds, Cond.code yX4_finds cX4_finds 4 none, Cond.methodLink RX4 131 yX4_against]
def wsX4_would_r2 : List Cond := [Cond.instanceMethod yX4_against, Cond.selects RX4 yX4_against yX4_against, Cond.code yX4_against cX4_against 5 (some .int), Cond.fieldLink RX4 44 "PartCurvesModel" "limit" "I", Cond.methodLink RX4 116 yX4_ampsAt, Cond.instanceMethod yX4_ampsAt, Cond.selects RX4 yX4_ampsAt yX4_ampsAt, Cond.code yX4_ampsAt cX4_ampsAt 3 (some .int), Cond.methodLink RX4 113 yX4_isForward, Cond.instanceMethod yX4_isForward, Cond.selects RX4 yX4_isForward yX4_isForward, Cond.code yX4_isForward cX4_isForward 2 (some .boolean), Cond.methodLink RX4 109 yX4_ownAmps, Cond.instanceMethod yX4_ownAmps, Cond.selects RX4 yX4_ownAmps yX4_ownAmps, Cond.code yX4_ownAmps cX4_ownAmps 3 (some .int), Cond.fieldLink RX4 35 "PartCurvesModel" "isBurnt" "[Z", Cond.fieldLink RX4 32 "PartCurvesModel" "heatOf" "[I", Cond.methodLink RX4 106 yX4_cold, Cond.instanceMethod yX4_cold, Cond.selects RX4 yX4_cold yX4_cold, Cond.code yX4_cold cX4_cold 7 (some .int), Cond.fieldLink RX4 20 "PartCurvesModel" "kindOf" "[I", Cond.fieldLink RX4 38 "PartCurvesModel" "isOpen" "[Z"]
def wsX4_would_r3 : List Cond := [Cond.methodLink RX4 81 yX4_number, Cond.instanceMethod yX4_number, Cond.selects RX4 yX4_number yX4_number, Cond.code yX4_number cX4_number 3 (some .int), Cond.fieldLink RX4 23 "PartCurvesModel" "numberOf" "[I", Cond.methodLink RX4 103 yX4_cut, Cond.static yX4_cut, Cond.code yX4_cut cX4_cut 2 (some .int), Cond.methodLink RX4 119 yX4_size, Cond.static yX4_size, Cond.code yX4_size cX4_size 1 (some .int), Cond.methodLink RX4 99 yX4_isFourWires, Cond.instanceMethod yX4_isFourWires, Cond.selects RX4 yX4_isFourWires yX4_isFourWires, Cond.code yX4_isFourWires cX4_isFourWires 1 (some .boolean), Cond.methodLink RX4 122 yX4_dropBy, Cond.instanceMethod yX4_dropBy, Cond.selects RX4 yX4_dropBy yX4_dropBy, Cond.code yX4_dropBy cX4_dropBy 2 (some .int), Cond.fieldLink RX4 96 "PartCurvesModel" "leads" "I"]
def wsX4_would : List Cond := .code yX4_would cX4_would 4 (some .int) :: ((wsX4_would_r1 ++ (wsX4_would_r2 ++ wsX4_would_r3)) ++ wsX40)
def wsX4_cause : List Cond := .code yX4_cause cX4_cause 3 none :: ([.fieldLink RX4 60 "PartCurvesModel" "causeSort" "[I", .fieldLink RX4 139 "PartCurvesModel" "causes" "I", .fieldLink RX4 63 "PartCurvesModel" "causeNumber" "[I"] ++ wsX40)
def wsX4_heats : List Cond := .code yX4_heats cX4_heats 7 none :: ([.fieldLink RX4 125 "PartCurvesModel" "found" "I", .constantLong RX4 149 (500000), .fieldLink RX4 32 "PartCurvesModel" "heatOf" "[I", .fieldLink RX4 35 "PartCurvesModel" "isBurnt" "[Z", .fieldLink RX4 151 "PartCurvesModel" "tooHot" "I", .methodLink RX4 119 yX4_size, .static yX4_size, .initialized RX4, .code yX4_size cX4_size 1 (some .int)] ++ wsX40)
def wsX4_pulses_r1 : List Cond := [Cond.fieldLink RX4 125 "PartCurvesModel" "found" "I", Cond.fieldLink RX4 20 "PartCurvesModel" "kindOf" "[I", Cond.fieldLink RX4 38 "PartCurvesModel" "isOpen" "[Z", Cond.fieldLink RX4 35 "PartCurvesModel" "isBurnt" "[Z", Cond.fieldLink RX4 48 "PartCurvesModel" "forced" "[I", Cond.fieldLink RX4 142 "PartCurvesModel" "readings" "I", Cond.fieldLink RX4 51 "PartCurvesModel" "toldVolts" "[I", Cond.fieldLink RX4 54 "PartCurvesModel" "ampsOf" "[I", Cond.fieldLink RX4 57 "PartCurvesModel" "ruleOf" "[I", Cond.fieldLink RX4 128 "PartCurvesModel" "rule" "I", Cond.methodLink RX4 92 yX4_inHand, Cond.instanceMethod yX4_inHand, Cond.selects RX4 yX4_inHand yX4_inHand, Cond.initialized RX4, Cond.code yX4_inHand cX4_inHand 5 (some .int), Cond.fieldLink RX4 13 "PartCurvesModel" "firstOf" "[I", Cond.fieldLink RX4 17 "PartCurvesModel" "otherOf" "[I", Cond.fieldLink RX4 7 "PartCurvesModel" "isThere" "[Z", Cond.methodLink RX4 88 yX4_pinOf, Cond.instanceMethod yX4_pinOf, Cond.selects RX4 yX4_pinOf yX4_pinOf, Cond.code yX4_pinOf cX4_pinOf 5 (some .int), Cond.fieldLink RX4 41 "PartCurvesModel" "pinsOf" "[I", Cond.methodLink RX4 135 yX4_finds]
def wsX4_pulses_r2 : List Cond := [Cond.instanceMethod yX4_finds, Cond.selects RX4 yX4_finds yX4_finds, Cond.code yX4_finds cX4_finds 4 none, Cond.methodLink RX4 131 yX4_against, Cond.instanceMethod yX4_against, Cond.selects RX4 yX4_against yX4_against, Cond.code yX4_against cX4_against 5 (some .int), Cond.fieldLink RX4 44 "PartCurvesModel" "limit" "I", Cond.methodLink RX4 116 yX4_ampsAt, Cond.instanceMethod yX4_ampsAt, Cond.selects RX4 yX4_ampsAt yX4_ampsAt, Cond.code yX4_ampsAt cX4_ampsAt 3 (some .int), Cond.methodLink RX4 113 yX4_isForward, Cond.instanceMethod yX4_isForward, Cond.selects RX4 yX4_isForward yX4_isForward, Cond.code yX4_isForward cX4_isForward 2 (some .boolean), Cond.methodLink RX4 109 yX4_ownAmps, Cond.instanceMethod yX4_ownAmps, Cond.selects RX4 yX4_ownAmps yX4_ownAmps, Cond.code yX4_ownAmps cX4_ownAmps 3 (some .int), Cond.fieldLink RX4 32 "PartCurvesModel" "heatOf" "[I", Cond.methodLink RX4 106 yX4_cold, Cond.instanceMethod yX4_cold, Cond.selects RX4 yX4_cold yX4_cold]
def wsX4_pulses_r3 : List Cond := [Cond.code yX4_cold cX4_cold 7 (some .int), Cond.methodLink RX4 81 yX4_number, Cond.instanceMethod yX4_number, Cond.selects RX4 yX4_number yX4_number, Cond.code yX4_number cX4_number 3 (some .int), Cond.fieldLink RX4 23 "PartCurvesModel" "numberOf" "[I", Cond.methodLink RX4 103 yX4_cut, Cond.static yX4_cut, Cond.code yX4_cut cX4_cut 2 (some .int), Cond.methodLink RX4 119 yX4_size, Cond.static yX4_size, Cond.code yX4_size cX4_size 1 (some .int), Cond.methodLink RX4 99 yX4_isFourWires, Cond.instanceMethod yX4_isFourWires, Cond.selects RX4 yX4_isFourWires yX4_isFourWires, Cond.code yX4_isFourWires cX4_isFourWires 1 (some .boolean), Cond.methodLink RX4 122 yX4_dropBy, Cond.instanceMethod yX4_dropBy, Cond.selects RX4 yX4_dropBy yX4_dropBy, Cond.code yX4_dropBy cX4_dropBy 2 (some .int), Cond.fieldLink RX4 96 "PartCurvesModel" "leads" "I", Cond.methodLink RX4 145 yX4_heats, Cond.instanceMethod yX4_heats, Cond.selects RX4 yX4_heats yX4_heats]
def wsX4_pulses_r4 : List Cond := [Cond.code yX4_heats cX4_heats 7 none, Cond.constantLong RX4 149 (500000), Cond.fieldLink RX4 151 "PartCurvesModel" "tooHot" "I"]
def wsX4_pulses : List Cond := .code yX4_pulses cX4_pulses 7 none :: ((wsX4_pulses_r1 ++ (wsX4_pulses_r2 ++ (wsX4_pulses_r3 ++ wsX4_pulses_r4))) ++ wsX40)
def wsX4_pulse_r1 : List Cond := [Cond.fieldLink RX4 74 "PartCurvesModel" "isOn" "Z", Cond.fieldLink RX4 142 "PartCurvesModel" "readings" "I", Cond.fieldLink RX4 139 "PartCurvesModel" "causes" "I", Cond.fieldLink RX4 151 "PartCurvesModel" "tooHot" "I", Cond.methodLink RX4 66 yX4_within, Cond.static yX4_within, Cond.initialized RX4, Cond.code yX4_within cX4_within 3 (some .boolean), Cond.methodLink RX4 154 yX4_pulses, Cond.instanceMethod yX4_pulses, Cond.selects RX4 yX4_pulses yX4_pulses, Cond.code yX4_pulses cX4_pulses 7 none, Cond.fieldLink RX4 125 "PartCurvesModel" "found" "I", Cond.fieldLink RX4 20 "PartCurvesModel" "kindOf" "[I", Cond.fieldLink RX4 38 "PartCurvesModel" "isOpen" "[Z", Cond.fieldLink RX4 35 "PartCurvesModel" "isBurnt" "[Z", Cond.fieldLink RX4 48 "PartCurvesModel" "forced" "[I", Cond.fieldLink RX4 51 "PartCurvesModel" "toldVolts" "[I", Cond.fieldLink RX4 54 "PartCurvesModel" "ampsOf" "[I", Cond.fieldLink RX4 57 "PartCurvesModel" "ruleOf" "[I", Cond.fieldLink RX4 128 "PartCurvesModel" "rule" "I", Cond.methodLink RX4 92 yX4_inHand, Cond.instanceMethod yX4_inHand, Cond.selects RX4 yX4_inHand yX4_inHand]
def wsX4_pulse_r2 : List Cond := [Cond.code yX4_inHand cX4_inHand 5 (some .int), Cond.fieldLink RX4 13 "PartCurvesModel" "firstOf" "[I", Cond.fieldLink RX4 17 "PartCurvesModel" "otherOf" "[I", Cond.fieldLink RX4 7 "PartCurvesModel" "isThere" "[Z", Cond.methodLink RX4 88 yX4_pinOf, Cond.instanceMethod yX4_pinOf, Cond.selects RX4 yX4_pinOf yX4_pinOf, Cond.code yX4_pinOf cX4_pinOf 5 (some .int), Cond.fieldLink RX4 41 "PartCurvesModel" "pinsOf" "[I", Cond.methodLink RX4 135 yX4_finds, Cond.instanceMethod yX4_finds, Cond.selects RX4 yX4_finds yX4_finds, Cond.code yX4_finds cX4_finds 4 none, Cond.methodLink RX4 131 yX4_against, Cond.instanceMethod yX4_against, Cond.selects RX4 yX4_against yX4_against, Cond.code yX4_against cX4_against 5 (some .int), Cond.fieldLink RX4 44 "PartCurvesModel" "limit" "I", Cond.methodLink RX4 116 yX4_ampsAt, Cond.instanceMethod yX4_ampsAt, Cond.selects RX4 yX4_ampsAt yX4_ampsAt, Cond.code yX4_ampsAt cX4_ampsAt 3 (some .int), Cond.methodLink RX4 113 yX4_isForward, Cond.instanceMethod yX4_isForward]
def wsX4_pulse_r3 : List Cond := [Cond.selects RX4 yX4_isForward yX4_isForward, Cond.code yX4_isForward cX4_isForward 2 (some .boolean), Cond.methodLink RX4 109 yX4_ownAmps, Cond.instanceMethod yX4_ownAmps, Cond.selects RX4 yX4_ownAmps yX4_ownAmps, Cond.code yX4_ownAmps cX4_ownAmps 3 (some .int), Cond.fieldLink RX4 32 "PartCurvesModel" "heatOf" "[I", Cond.methodLink RX4 106 yX4_cold, Cond.instanceMethod yX4_cold, Cond.selects RX4 yX4_cold yX4_cold, Cond.code yX4_cold cX4_cold 7 (some .int), Cond.methodLink RX4 81 yX4_number, Cond.instanceMethod yX4_number, Cond.selects RX4 yX4_number yX4_number, Cond.code yX4_number cX4_number 3 (some .int), Cond.fieldLink RX4 23 "PartCurvesModel" "numberOf" "[I", Cond.methodLink RX4 103 yX4_cut, Cond.static yX4_cut, Cond.code yX4_cut cX4_cut 2 (some .int), Cond.methodLink RX4 119 yX4_size, Cond.static yX4_size, Cond.code yX4_size cX4_size 1 (some .int), Cond.methodLink RX4 99 yX4_isFourWires, Cond.instanceMethod yX4_isFourWires]
def wsX4_pulse_r4 : List Cond := [Cond.selects RX4 yX4_isFourWires yX4_isFourWires, Cond.code yX4_isFourWires cX4_isFourWires 1 (some .boolean), Cond.methodLink RX4 122 yX4_dropBy, Cond.instanceMethod yX4_dropBy, Cond.selects RX4 yX4_dropBy yX4_dropBy, Cond.code yX4_dropBy cX4_dropBy 2 (some .int), Cond.fieldLink RX4 96 "PartCurvesModel" "leads" "I", Cond.methodLink RX4 145 yX4_heats, Cond.instanceMethod yX4_heats, Cond.selects RX4 yX4_heats yX4_heats, Cond.code yX4_heats cX4_heats 7 none, Cond.constantLong RX4 149 (500000), Cond.methodLink RX4 157 yX4_cause, Cond.instanceMethod yX4_cause, Cond.selects RX4 yX4_cause yX4_cause, Cond.code yX4_cause cX4_cause 3 none, Cond.fieldLink RX4 60 "PartCurvesModel" "causeSort" "[I", Cond.fieldLink RX4 63 "PartCurvesModel" "causeNumber" "[I"]
def wsX4_pulse : List Cond := .code yX4_pulse cX4_pulse 3 (some .int) :: ((wsX4_pulse_r1 ++ (wsX4_pulse_r2 ++ (wsX4_pulse_r3 ++ wsX4_pulse_r4))) ++ wsX40)
def wsX4_rests : List Cond := .code yX4_rests cX4_rests 4 none :: ([.fieldLink RX4 32 "PartCurvesModel" "heatOf" "[I"] ++ wsX40)
def wsX4_rest : List Cond := .code yX4_rest cX4_rest 4 (some .int) :: ([.fieldLink RX4 7 "PartCurvesModel" "isThere" "[Z", .fieldLink RX4 32 "PartCurvesModel" "heatOf" "[I", .methodLink RX4 66 yX4_within, .static yX4_within, .initialized RX4, .code yX4_within cX4_within 3 (some .boolean), .methodLink RX4 160 yX4_rests, .instanceMethod yX4_rests, .selects RX4 yX4_rests yX4_rests, .code yX4_rests cX4_rests 4 none] ++ wsX40)
def wsX4_isSweep : List Cond := .code yX4_isSweep cX4_isSweep 7 (some .boolean) :: ([.methodLink RX4 66 yX4_within, .static yX4_within, .initialized RX4, .code yX4_within cX4_within 3 (some .boolean)])
def wsX4_sweep_r1 : List Cond := [Cond.fieldLink RX4 74 "PartCurvesModel" "isOn" "Z", Cond.fieldLink RX4 142 "PartCurvesModel" "readings" "I", Cond.fieldLink RX4 139 "PartCurvesModel" "causes" "I", Cond.fieldLink RX4 151 "PartCurvesModel" "tooHot" "I", Cond.methodLink RX4 164 yX4_isSweep, Cond.static yX4_isSweep, Cond.initialized RX4, Cond.code yX4_isSweep cX4_isSweep 7 (some .boolean), Cond.methodLink RX4 66 yX4_within, Cond.static yX4_within, Cond.code yX4_within cX4_within 3 (some .boolean), Cond.methodLink RX4 119 yX4_size, Cond.static yX4_size, Cond.code yX4_size cX4_size 1 (some .int), Cond.methodLink RX4 154 yX4_pulses, Cond.instanceMethod yX4_pulses, Cond.selects RX4 yX4_pulses yX4_pulses, Cond.code yX4_pulses cX4_pulses 7 none, Cond.fieldLink RX4 125 "PartCurvesModel" "found" "I", Cond.fieldLink RX4 20 "PartCurvesModel" "kindOf" "[I", Cond.fieldLink RX4 38 "PartCurvesModel" "isOpen" "[Z", Cond.fieldLink RX4 35 "PartCurvesModel" "isBurnt" "[Z", Cond.fieldLink RX4 48 "PartCurvesModel" "forced" "[I", Cond.fieldLink RX4 51 "PartCurvesModel" "toldVolts" "[I"]
def wsX4_sweep_r2 : List Cond := [Cond.fieldLink RX4 54 "PartCurvesModel" "ampsOf" "[I", Cond.fieldLink RX4 57 "PartCurvesModel" "ruleOf" "[I", Cond.fieldLink RX4 128 "PartCurvesModel" "rule" "I", Cond.methodLink RX4 92 yX4_inHand, Cond.instanceMethod yX4_inHand, Cond.selects RX4 yX4_inHand yX4_inHand, Cond.code yX4_inHand cX4_inHand 5 (some .int), Cond.fieldLink RX4 13 "PartCurvesModel" "firstOf" "[I", Cond.fieldLink RX4 17 "PartCurvesModel" "otherOf" "[I", Cond.fieldLink RX4 7 "PartCurvesModel" "isThere" "[Z", Cond.methodLink RX4 88 yX4_pinOf, Cond.instanceMethod yX4_pinOf, Cond.selects RX4 yX4_pinOf yX4_pinOf, Cond.code yX4_pinOf cX4_pinOf 5 (some .int), Cond.fieldLink RX4 41 "PartCurvesModel" "pinsOf" "[I", Cond.methodLink RX4 135 yX4_finds, Cond.instanceMethod yX4_finds, Cond.selects RX4 yX4_finds yX4_finds, Cond.code yX4_finds cX4_finds 4 none, Cond.methodLink RX4 131 yX4_against, Cond.instanceMethod yX4_against, Cond.selects RX4 yX4_against yX4_against, Cond.code yX4_against cX4_against 5 (some .int), Cond.fieldLink RX4 44 "PartCurvesModel" "limit" "I"]
def wsX4_sweep_r3 : List Cond := [Cond.methodLink RX4 116 yX4_ampsAt, Cond.instanceMethod yX4_ampsAt, Cond.selects RX4 yX4_ampsAt yX4_ampsAt, Cond.code yX4_ampsAt cX4_ampsAt 3 (some .int), Cond.methodLink RX4 113 yX4_isForward, Cond.instanceMethod yX4_isForward, Cond.selects RX4 yX4_isForward yX4_isForward, Cond.code yX4_isForward cX4_isForward 2 (some .boolean), Cond.methodLink RX4 109 yX4_ownAmps, Cond.instanceMethod yX4_ownAmps, Cond.selects RX4 yX4_ownAmps yX4_ownAmps, Cond.code yX4_ownAmps cX4_ownAmps 3 (some .int), Cond.fieldLink RX4 32 "PartCurvesModel" "heatOf" "[I", Cond.methodLink RX4 106 yX4_cold, Cond.instanceMethod yX4_cold, Cond.selects RX4 yX4_cold yX4_cold, Cond.code yX4_cold cX4_cold 7 (some .int), Cond.methodLink RX4 81 yX4_number, Cond.instanceMethod yX4_number, Cond.selects RX4 yX4_number yX4_number, Cond.code yX4_number cX4_number 3 (some .int), Cond.fieldLink RX4 23 "PartCurvesModel" "numberOf" "[I", Cond.methodLink RX4 103 yX4_cut, Cond.static yX4_cut]
def wsX4_sweep_r4 : List Cond := [Cond.code yX4_cut cX4_cut 2 (some .int), Cond.methodLink RX4 99 yX4_isFourWires, Cond.instanceMethod yX4_isFourWires, Cond.selects RX4 yX4_isFourWires yX4_isFourWires, Cond.code yX4_isFourWires cX4_isFourWires 1 (some .boolean), Cond.methodLink RX4 122 yX4_dropBy, Cond.instanceMethod yX4_dropBy, Cond.selects RX4 yX4_dropBy yX4_dropBy, Cond.code yX4_dropBy cX4_dropBy 2 (some .int), Cond.fieldLink RX4 96 "PartCurvesModel" "leads" "I", Cond.methodLink RX4 145 yX4_heats, Cond.instanceMethod yX4_heats, Cond.selects RX4 yX4_heats yX4_heats, Cond.code yX4_heats cX4_heats 7 none, Cond.constantLong RX4 149 (500000), Cond.methodLink RX4 157 yX4_cause, Cond.instanceMethod yX4_cause, Cond.selects RX4 yX4_cause yX4_cause, Cond.code yX4_cause cX4_cause 3 none, Cond.fieldLink RX4 60 "PartCurvesModel" "causeSort" "[I", Cond.fieldLink RX4 63 "PartCurvesModel" "causeNumber" "[I", Cond.methodLink RX4 160 yX4_rests, Cond.instanceMethod yX4_rests, Cond.selects RX4 yX4_rests yX4_rests]
def wsX4_sweep_r5 : List Cond := [Cond.code yX4_rests cX4_rests 4 none]
def wsX4_sweep : List Cond := .code yX4_sweep cX4_sweep 11 (some .int) :: ((wsX4_sweep_r1 ++ (wsX4_sweep_r2 ++ (wsX4_sweep_r3 ++ (wsX4_sweep_r4 ++ wsX4_sweep_r5)))) ++ wsX40)
def wsX4_why : List Cond := .code yX4_why cX4_why 3 (some .int) :: ([.fieldLink RX4 139 "PartCurvesModel" "causes" "I", .fieldLink RX4 60 "PartCurvesModel" "causeSort" "[I", .fieldLink RX4 63 "PartCurvesModel" "causeNumber" "[I", .methodLink RX4 66 yX4_within, .static yX4_within, .initialized RX4, .code yX4_within cX4_within 3 (some .boolean)] ++ wsX40)
def wsX4_isReading : List Cond := .code yX4_isReading cX4_isReading 2 (some .boolean) :: ([.fieldLink RX4 142 "PartCurvesModel" "readings" "I", .methodLink RX4 66 yX4_within, .static yX4_within, .initialized RX4, .code yX4_within cX4_within 3 (some .boolean)] ++ wsX40)
def wsX4_reading : List Cond := .code yX4_reading cX4_reading 3 (some .int) :: ([.fieldLink RX4 48 "PartCurvesModel" "forced" "[I", .fieldLink RX4 51 "PartCurvesModel" "toldVolts" "[I", .fieldLink RX4 54 "PartCurvesModel" "ampsOf" "[I", .constant RX4 112 (50000), .fieldLink RX4 57 "PartCurvesModel" "ruleOf" "[I", .methodLink RX4 168 yX4_isReading, .instanceMethod yX4_isReading, .selects RX4 yX4_isReading yX4_isReading, .initialized RX4, .code yX4_isReading cX4_isReading 2 (some .boolean), .fieldLink RX4 142 "PartCurvesModel" "readings" "I", .methodLink RX4 66 yX4_within, .static yX4_within, .code yX4_within cX4_within 3 (some .boolean)] ++ wsX40)
def wsX4_clear : List Cond := .code yX4_clear cX4_clear 2 (some .int) :: ([.fieldLink RX4 142 "PartCurvesModel" "readings" "I"] ++ wsX40)
def wsX4_off : List Cond := .code yX4_off cX4_off 6 (some .long) :: ([.fieldLink RX4 51 "PartCurvesModel" "toldVolts" "[I", .fieldLink RX4 54 "PartCurvesModel" "ampsOf" "[I"] ++ wsX40)
def wsX4_knee : List Cond := .code yX4_knee cX4_knee 8 (some .int) :: ([.methodLink RX4 168 yX4_isReading, .instanceMethod yX4_isReading, .selects RX4 yX4_isReading yX4_isReading, .initialized RX4, .code yX4_isReading cX4_isReading 2 (some .boolean), .fieldLink RX4 142 "PartCurvesModel" "readings" "I", .methodLink RX4 66 yX4_within, .static yX4_within, .code yX4_within cX4_within 3 (some .boolean), .methodLink RX4 171 yX4_off, .instanceMethod yX4_off, .selects RX4 yX4_off yX4_off, .code yX4_off cX4_off 6 (some .long), .fieldLink RX4 51 "PartCurvesModel" "toldVolts" "[I", .fieldLink RX4 54 "PartCurvesModel" "ampsOf" "[I"] ++ wsX40)
def wsX4_fraction : List Cond := .code yX4_fraction cX4_fraction 11 (some .long) :: ([])
def wsX4_fit : List Cond := .code yX4_fit cX4_fit 20 (some .long) :: ([.constantLong RX4 175 (-9223372036854775808), .fieldLink RX4 51 "PartCurvesModel" "toldVolts" "[I", .fieldLink RX4 54 "PartCurvesModel" "ampsOf" "[I", .methodLink RX4 168 yX4_isReading, .instanceMethod yX4_isReading, .selects RX4 yX4_isReading yX4_isReading, .initialized RX4, .code yX4_isReading cX4_isReading 2 (some .boolean), .fieldLink RX4 142 "PartCurvesModel" "readings" "I", .methodLink RX4 66 yX4_within, .static yX4_within, .code yX4_within cX4_within 3 (some .boolean), .methodLink RX4 177 yX4_fraction, .static yX4_fraction, .code yX4_fraction cX4_fraction 11 (some .long)] ++ wsX40)
def wsX4_gap : List Cond := .code yX4_gap cX4_gap 7 (some .int) :: ([.fieldLink RX4 48 "PartCurvesModel" "forced" "[I", .fieldLink RX4 54 "PartCurvesModel" "ampsOf" "[I", .methodLink RX4 168 yX4_isReading, .instanceMethod yX4_isReading, .selects RX4 yX4_isReading yX4_isReading, .initialized RX4, .code yX4_isReading cX4_isReading 2 (some .boolean), .fieldLink RX4 142 "PartCurvesModel" "readings" "I", .methodLink RX4 66 yX4_within, .static yX4_within, .code yX4_within cX4_within 3 (some .boolean), .methodLink RX4 119 yX4_size, .static yX4_size, .code yX4_size cX4_size 1 (some .int)] ++ wsX40)
def wsX4_manyRule : List Cond := .code yX4_manyRule cX4_manyRule 4 (some .int) :: ([.fieldLink RX4 142 "PartCurvesModel" "readings" "I", .fieldLink RX4 57 "PartCurvesModel" "ruleOf" "[I"] ++ wsX40)
def wsX4_many : List Cond := .code yX4_many cX4_many 7 (some .int) :: ([.fieldLink RX4 7 "PartCurvesModel" "isThere" "[Z", .fieldLink RX4 35 "PartCurvesModel" "isBurnt" "[Z", .fieldLink RX4 41 "PartCurvesModel" "pinsOf" "[I", .fieldLink RX4 142 "PartCurvesModel" "readings" "I", .methodLink RX4 181 yX4_manyRule, .instanceMethod yX4_manyRule, .selects RX4 yX4_manyRule yX4_manyRule, .initialized RX4, .code yX4_manyRule cX4_manyRule 4 (some .int), .fieldLink RX4 57 "PartCurvesModel" "ruleOf" "[I"] ++ wsX40)
def wsJ9_abs_0f7a4 : List Cond := .code yJ9_abs_0f7a4 cJ9_abs_0f7a4 1 (some .int) :: ([])
def wsJ9_abs_067f4 : List Cond := .code yJ9_abs_067f4 cJ9_abs_067f4 2 (some .long) :: ([])
def wsJ9_max_7cf53 : List Cond := .code yJ9_max_7cf53 cJ9_max_7cf53 2 (some .int) :: ([])
def wsJ9_min_7cf53 : List Cond := .code yJ9_min_7cf53 cJ9_min_7cf53 2 (some .int) :: ([])
def wsL_law_r1 : List Cond := [Cond.classLink RL 7 RX3, Cond.instantiable RX3 7, Cond.initialized RX3, Cond.classLink RL 10 RX4, Cond.instantiable RX4 25, Cond.initialized RX4, Cond.methodLink RL 9 yX3_init, Cond.instanceMethod yX3_init, Cond.code yX3_init cX3_init 2 none, Cond.methodLink RX3 3 objectInit, Cond.instanceMethod objectInit, Cond.code objectInit ⟨#[0xb1]⟩ 1 none, Cond.classLink RX3 11 RX1, Cond.fieldLink RX3 13 "PartCurves" "parts" "[LPartCurves$Part;", Cond.arrayClass .int, Cond.fieldLink RX3 17 "PartCurves" "pinSets" "[I", Cond.classLink RX3 21 RX2, Cond.instantiable RX2 5, Cond.initialized RX2, Cond.fieldLink RX3 24 "PartCurves" "readings" "LPartCurves$Readings;", Cond.classLink RX3 28 RX0, Cond.instantiable RX0 3, Cond.initialized RX0, Cond.fieldLink RX3 31 "PartCurves" "causes" "LPartCurves$Causes;"]
def wsL_law_r2 : List Cond := [Cond.fieldLink RX3 35 "PartCurves" "powerOn" "Z", Cond.fieldLink RX3 39 "PartCurves" "mostAmps" "I", Cond.fieldLink RX3 43 "PartCurves" "leadOhms" "I", Cond.instantiable RX1 12, Cond.initialized RX1, Cond.instanceMethod yX2_init, Cond.code yX2_init cX2_init 1 none, Cond.methodLink RX2 3 objectInit, Cond.fieldLink RX2 11 "PartCurves$Readings" "forced" "[I", Cond.fieldLink RX2 15 "PartCurves$Readings" "told" "[I", Cond.fieldLink RX2 18 "PartCurves$Readings" "flowed" "[I", Cond.fieldLink RX2 21 "PartCurves$Readings" "rules" "[I", Cond.fieldLink RX2 24 "PartCurves$Readings" "count" "I", Cond.instanceMethod yX0_init, Cond.code yX0_init cX0_init 1 none, Cond.methodLink RX0 1 objectInit, Cond.fieldLink RX0 9 "PartCurves$Causes" "sorts" "[I", Cond.fieldLink RX0 13 "PartCurves$Causes" "numbers" "[I", Cond.fieldLink RX0 16 "PartCurves$Causes" "count" "I", Cond.instanceMethod yX1_init, Cond.code yX1_init cX1_init 1 none, Cond.methodLink RX1 1 objectInit, Cond.methodLink RL 12 yX4_init, Cond.instanceMethod yX4_init]
def wsL_law_r3 : List Cond := [Cond.code yX4_init cX4_init 1 none, Cond.methodLink RX4 1 objectInit, Cond.arrayClass .boolean, Cond.fieldLink RX4 7 "PartCurvesModel" "isThere" "[Z", Cond.fieldLink RX4 13 "PartCurvesModel" "firstOf" "[I", Cond.fieldLink RX4 17 "PartCurvesModel" "otherOf" "[I", Cond.fieldLink RX4 20 "PartCurvesModel" "kindOf" "[I", Cond.fieldLink RX4 23 "PartCurvesModel" "numberOf" "[I", Cond.fieldLink RX4 26 "PartCurvesModel" "leastNumber" "[I", Cond.fieldLink RX4 29 "PartCurvesModel" "mostNumber" "[I", Cond.fieldLink RX4 32 "PartCurvesModel" "heatOf" "[I", Cond.fieldLink RX4 35 "PartCurvesModel" "isBurnt" "[Z", Cond.fieldLink RX4 38 "PartCurvesModel" "isOpen" "[Z", Cond.fieldLink RX4 41 "PartCurvesModel" "pinsOf" "[I", Cond.fieldLink RX4 44 "PartCurvesModel" "limit" "I", Cond.fieldLink RX4 48 "PartCurvesModel" "forced" "[I", Cond.fieldLink RX4 51 "PartCurvesModel" "toldVolts" "[I", Cond.fieldLink RX4 54 "PartCurvesModel" "ampsOf" "[I", Cond.fieldLink RX4 57 "PartCurvesModel" "ruleOf" "[I", Cond.fieldLink RX4 60 "PartCurvesModel" "causeSort" "[I", Cond.fieldLink RX4 63 "PartCurvesModel" "causeNumber" "[I", Cond.methodLink RL 13 yX3_part, Cond.instanceMethod yX3_part, Cond.selects RX3 yX3_part yX3_part]
def wsL_law_r4 : List Cond := [Cond.code yX3_part cX3_part 6 (some .int), Cond.fieldLink RX3 51 "PartCurves$Part" "there" "Z", Cond.methodLink RX3 47 yX3_within, Cond.static yX3_within, Cond.code yX3_within cX3_within 3 (some .boolean), Cond.methodLink RX3 54 yX1_renew, Cond.instanceMethod yX1_renew, Cond.selects RX1 yX1_renew yX1_renew, Cond.code yX1_renew cX1_renew 4 none, Cond.fieldLink RX1 16 "PartCurves$Part" "there" "Z", Cond.fieldLink RX1 20 "PartCurves$Part" "burnt" "Z", Cond.fieldLink RX1 23 "PartCurves$Part" "open" "Z", Cond.fieldLink RX1 26 "PartCurves$Part" "first" "I", Cond.fieldLink RX1 30 "PartCurves$Part" "other" "I", Cond.fieldLink RX1 33 "PartCurves$Part" "kind" "I", Cond.fieldLink RX1 36 "PartCurves$Part" "heat" "I", Cond.fieldLink RX1 39 "PartCurves$Part" "g" "I", Cond.fieldLink RX1 42 "PartCurves$Part" "k" "I", Cond.fieldLink RX1 45 "PartCurves$Part" "h" "I", Cond.fieldLink RX1 48 "PartCurves$Part" "m" "I", Cond.fieldLink RX1 51 "PartCurves$Part" "c" "I", Cond.methodLink RL 17 yX4_part, Cond.instanceMethod yX4_part, Cond.selects RX4 yX4_part yX4_part]
def wsL_law_r5 : List Cond := [Cond.code yX4_part cX4_part 6 (some .int), Cond.fieldLink RX4 74 "PartCurvesModel" "isOn" "Z", Cond.methodLink RX4 66 yX4_within, Cond.static yX4_within, Cond.code yX4_within cX4_within 3 (some .boolean), Cond.methodLink RX4 70 yX4_isPin, Cond.static yX4_isPin, Cond.code yX4_isPin cX4_isPin 1 (some .boolean), Cond.methodLink RL 18 yX3_remove, Cond.instanceMethod yX3_remove, Cond.selects RX3 yX3_remove yX3_remove, Cond.code yX3_remove cX3_remove 3 (some .int), Cond.methodLink RX3 58 yX3_partAt, Cond.instanceMethod yX3_partAt, Cond.selects RX3 yX3_partAt yX3_partAt, Cond.code yX3_partAt cX3_partAt 2 (some (.object "PartCurves$Part")), Cond.methodLink RL 22 yX4_remove, Cond.instanceMethod yX4_remove, Cond.selects RX4 yX4_remove yX4_remove, Cond.code yX4_remove cX4_remove 2 (some .int), Cond.methodLink RX4 78 yX4_isPart, Cond.instanceMethod yX4_isPart, Cond.selects RX4 yX4_isPart yX4_isPart, Cond.code yX4_isPart cX4_isPart 2 (some .boolean)]
def wsL_law_r6 : List Cond := [Cond.methodLink RL 23 yX3_set, Cond.instanceMethod yX3_set, Cond.selects RX3 yX3_set yX3_set, Cond.code yX3_set cX3_set 6 (some .int), Cond.methodLink RX3 62 yX1_takes, Cond.static yX1_takes, Cond.code yX1_takes cX1_takes 2 (some .boolean), Cond.fieldLink RX1 9 "PartCurves$Part" "LEAST" "[I", Cond.fieldLink RX1 13 "PartCurves$Part" "MOST" "[I", Cond.methodLink RX3 66 yX1_number, Cond.instanceMethod yX1_number, Cond.selects RX1 yX1_number yX1_number, Cond.code yX1_number cX1_number 2 (some .int), Cond.methodLink RX3 70 yX1_putNumber, Cond.instanceMethod yX1_putNumber, Cond.selects RX1 yX1_putNumber yX1_putNumber, Cond.code yX1_putNumber cX1_putNumber 3 none, Cond.methodLink RL 27 yX4_set, Cond.instanceMethod yX4_set, Cond.selects RX4 yX4_set yX4_set, Cond.code yX4_set cX4_set 5 (some .int), Cond.methodLink RX4 81 yX4_number, Cond.instanceMethod yX4_number, Cond.selects RX4 yX4_number yX4_number]
def wsL_law_r7 : List Cond := [Cond.code yX4_number cX4_number 3 (some .int), Cond.methodLink RL 28 yX3_ofPart, Cond.instanceMethod yX3_ofPart, Cond.selects RX3 yX3_ofPart yX3_ofPart, Cond.code yX3_ofPart cX3_ofPart 4 (some .int), Cond.fieldLink RX3 74 "PartCurves$Part" "first" "I", Cond.fieldLink RX3 77 "PartCurves$Part" "other" "I", Cond.fieldLink RX3 80 "PartCurves$Part" "kind" "I", Cond.fieldLink RX3 83 "PartCurves$Part" "heat" "I", Cond.fieldLink RX3 86 "PartCurves$Part" "burnt" "Z", Cond.fieldLink RX3 89 "PartCurves$Part" "open" "Z", Cond.methodLink RL 32 yX4_ofPart, Cond.instanceMethod yX4_ofPart, Cond.selects RX4 yX4_ofPart yX4_ofPart, Cond.code yX4_ofPart cX4_ofPart 3 (some .int), Cond.methodLink RL 33 yX3_relay, Cond.instanceMethod yX3_relay, Cond.selects RX3 yX3_relay yX3_relay, Cond.code yX3_relay cX3_relay 6 (some .int), Cond.methodLink RX3 92 yX3_wouldShort, Cond.instanceMethod yX3_wouldShort, Cond.selects RX3 yX3_wouldShort yX3_wouldShort, Cond.code yX3_wouldShort cX3_wouldShort 3 (some .boolean), Cond.methodLink RL 36 yX4_relay]
def wsL_law_r8 : List Cond := [Cond.instanceMethod yX4_relay, Cond.selects RX4 yX4_relay yX4_relay, Cond.code yX4_relay cX4_relay 6 (some .int), Cond.methodLink RX4 85 yX4_isTerminal, Cond.static yX4_isTerminal, Cond.code yX4_isTerminal cX4_isTerminal 1 (some .boolean), Cond.methodLink RL 37 yX3_pins, Cond.instanceMethod yX3_pins, Cond.selects RX3 yX3_pins yX3_pins, Cond.code yX3_pins cX3_pins 2 (some .int), Cond.methodLink RL 40 yX4_pins, Cond.instanceMethod yX4_pins, Cond.selects RX4 yX4_pins yX4_pins, Cond.code yX4_pins cX4_pins 2 (some .int), Cond.methodLink RL 41 yX3_power, Cond.instanceMethod yX3_power, Cond.selects RX3 yX3_power yX3_power, Cond.code yX3_power cX3_power 3 (some .int), Cond.methodLink RX3 95 yX3_inHand, Cond.instanceMethod yX3_inHand, Cond.selects RX3 yX3_inHand yX3_inHand, Cond.code yX3_inHand cX3_inHand 2 (some .int), Cond.methodLink RX3 202 yX3_highAndLowAtOnePinEach, Cond.instanceMethod yX3_highAndLowAtOnePinEach]
def wsL_law_r9 : List Cond := [Cond.selects RX3 yX3_highAndLowAtOnePinEach yX3_highAndLowAtOnePinEach, Cond.code yX3_highAndLowAtOnePinEach cX3_highAndLowAtOnePinEach 1 (some .boolean), Cond.methodLink RX3 197 yJ6_bitCount_0f7a4, Cond.static yJ6_bitCount_0f7a4, Cond.initialized RJ6, Cond.code yJ6_bitCount_0f7a4 cJ6_bitCount_0f7a4 1 (some .int), Cond.constant RJ6 265 (1431655765), Cond.constant RJ6 266 (858993459), Cond.constant RJ6 267 (252645135), Cond.methodLink RX3 205 yX3_joinsHighAndLow, Cond.instanceMethod yX3_joinsHighAndLow, Cond.selects RX3 yX3_joinsHighAndLow yX3_joinsHighAndLow, Cond.code yX3_joinsHighAndLow cX3_joinsHighAndLow 4 (some .boolean), Cond.methodLink RL 44 yX4_power, Cond.instanceMethod yX4_power, Cond.selects RX4 yX4_power yX4_power, Cond.code yX4_power cX4_power 3 (some .int), Cond.methodLink RX4 92 yX4_inHand, Cond.instanceMethod yX4_inHand, Cond.selects RX4 yX4_inHand yX4_inHand, Cond.code yX4_inHand cX4_inHand 5 (some .int), Cond.methodLink RX4 88 yX4_pinOf, Cond.instanceMethod yX4_pinOf, Cond.selects RX4 yX4_pinOf yX4_pinOf]
def wsL_law_r10 : List Cond := [Cond.code yX4_pinOf cX4_pinOf 5 (some .int), Cond.methodLink RL 45 yX3_limit, Cond.instanceMethod yX3_limit, Cond.selects RX3 yX3_limit yX3_limit, Cond.code yX3_limit cX3_limit 3 (some .int), Cond.methodLink RL 48 yX4_limit, Cond.instanceMethod yX4_limit, Cond.selects RX4 yX4_limit yX4_limit, Cond.code yX4_limit cX4_limit 3 (some .int), Cond.methodLink RL 49 yX3_leads, Cond.instanceMethod yX3_leads, Cond.selects RX3 yX3_leads yX3_leads, Cond.code yX3_leads cX3_leads 3 (some .int), Cond.methodLink RL 52 yX4_leads, Cond.instanceMethod yX4_leads, Cond.selects RX4 yX4_leads yX4_leads, Cond.code yX4_leads cX4_leads 3 (some .int), Cond.fieldLink RX4 96 "PartCurvesModel" "leads" "I", Cond.methodLink RL 53 yX3_now, Cond.instanceMethod yX3_now, Cond.selects RX3 yX3_now yX3_now, Cond.code yX3_now cX3_now 2 (some .int), Cond.methodLink RX3 99 yX3_fourWires, Cond.instanceMethod yX3_fourWires]
def wsL_law_r11 : List Cond := [Cond.selects RX3 yX3_fourWires yX3_fourWires, Cond.code yX3_fourWires cX3_fourWires 1 (some .boolean), Cond.methodLink RL 56 yX4_now, Cond.instanceMethod yX4_now, Cond.selects RX4 yX4_now yX4_now, Cond.code yX4_now cX4_now 2 (some .int), Cond.methodLink RX4 99 yX4_isFourWires, Cond.instanceMethod yX4_isFourWires, Cond.selects RX4 yX4_isFourWires yX4_isFourWires, Cond.code yX4_isFourWires cX4_isFourWires 1 (some .boolean), Cond.methodLink RL 57 yX3_amps, Cond.instanceMethod yX3_amps, Cond.selects RX3 yX3_amps yX3_amps, Cond.code yX3_amps cX3_amps 4 (some .int), Cond.constant RX3 110 (50000), Cond.methodLink RX3 103 yX3_isVolts, Cond.static yX3_isVolts, Cond.code yX3_isVolts cX3_isVolts 1 (some .boolean), Cond.methodLink RX3 107 yX1_ownAmps, Cond.instanceMethod yX1_ownAmps, Cond.selects RX1 yX1_ownAmps yX1_ownAmps, Cond.code yX1_ownAmps cX1_ownAmps 3 (some .int), Cond.methodLink RX1 54 yX1_coldAmps, Cond.instanceMethod yX1_coldAmps]
def wsL_law_r12 : List Cond := [Cond.selects RX1 yX1_coldAmps yX1_coldAmps, Cond.code yX1_coldAmps cX1_coldAmps 3 (some .int), Cond.methodLink RX1 58 yJ9_floorDiv_7cf53, Cond.static yJ9_floorDiv_7cf53, Cond.initialized RJ9, Cond.code yJ9_floorDiv_7cf53 cJ9_floorDiv_7cf53 3 (some .int), Cond.methodLink RL 60 yX4_amps, Cond.instanceMethod yX4_amps, Cond.selects RX4 yX4_amps yX4_amps, Cond.code yX4_amps cX4_amps 3 (some .int), Cond.constant RX4 112 (50000), Cond.methodLink RX4 109 yX4_ownAmps, Cond.instanceMethod yX4_ownAmps, Cond.selects RX4 yX4_ownAmps yX4_ownAmps, Cond.code yX4_ownAmps cX4_ownAmps 3 (some .int), Cond.methodLink RX4 106 yX4_cold, Cond.instanceMethod yX4_cold, Cond.selects RX4 yX4_cold yX4_cold, Cond.code yX4_cold cX4_cold 7 (some .int), Cond.methodLink RX4 103 yX4_cut, Cond.static yX4_cut, Cond.code yX4_cut cX4_cut 2 (some .int), Cond.methodLink RL 61 yX3_would, Cond.instanceMethod yX3_would]
def wsL_law_r13 : List Cond := [Cond.selects RX3 yX3_would yX3_would, Cond.code yX3_would cX3_would 5 (some .int), Cond.methodLink RX3 111 yX3_farthest, Cond.instanceMethod yX3_farthest, Cond.selects RX3 yX3_farthest yX3_farthest, Cond.code yX3_farthest cX3_farthest 8 (some .int), Cond.methodLink RX3 147 Lib.Math.abs.name, Cond.static Lib.Math.abs.name, Cond.initialized "java/lang/Math", Cond.code Lib.Math.abs.name Lib.Math.abs.code 1 (some .int), Cond.methodLink RX3 218 yX3_allowed, Cond.instanceMethod yX3_allowed, Cond.selects RX3 yX3_allowed yX3_allowed, Cond.code yX3_allowed cX3_allowed 5 (some .boolean), Cond.methodLink RX3 115 yX3_ampsAt, Cond.instanceMethod yX3_ampsAt, Cond.selects RX3 yX3_ampsAt yX3_ampsAt, Cond.code yX3_ampsAt cX3_ampsAt 3 (some .int), Cond.methodLink RX3 209 yX3_owned, Cond.instanceMethod yX3_owned, Cond.selects RX3 yX3_owned yX3_owned, Cond.code yX3_owned cX3_owned 3 (some .int), Cond.methodLink RX3 215 yX3_drop, Cond.instanceMethod yX3_drop]
def wsL_law_r14 : List Cond := [Cond.selects RX3 yX3_drop yX3_drop, Cond.code yX3_drop cX3_drop 2 (some .int), Cond.methodLink RX3 212 yJ9_floorDiv_7cf53, Cond.methodLink RX3 118 yX3_ruleAt, Cond.instanceMethod yX3_ruleAt, Cond.selects RX3 yX3_ruleAt yX3_ruleAt, Cond.code yX3_ruleAt cX3_ruleAt 5 (some .int), Cond.methodLink RX3 222 yX3_aboveLimit, Cond.instanceMethod yX3_aboveLimit, Cond.selects RX3 yX3_aboveLimit yX3_aboveLimit, Cond.code yX3_aboveLimit cX3_aboveLimit 3 (some .boolean), Cond.methodLink RL 64 yX4_would, Cond.instanceMethod yX4_would, Cond.selects RX4 yX4_would yX4_would, Cond.code yX4_would cX4_would 4 (some .int), Cond.fieldLink RX4 125 "PartCurvesModel" "found" "I", Cond.fieldLink RX4 128 "PartCurvesModel" "rule" "I", Cond.methodLink RX4 135 yX4_finds, Cond.instanceMethod yX4_finds, Cond.selects RX4 yX4_finds yX4_finds, Cond.code yX4_finds cX4_finds 4 none, Cond.methodLink RX4 131 yX4_against, Cond.instanceMethod yX4_against, Cond.selects RX4 yX4_against yX4_against]
def wsL_law_r15 : List Cond := [Cond.code yX4_against cX4_against 5 (some .int), Cond.methodLink RX4 116 yX4_ampsAt, Cond.instanceMethod yX4_ampsAt, Cond.selects RX4 yX4_ampsAt yX4_ampsAt, Cond.code yX4_ampsAt cX4_ampsAt 3 (some .int), Cond.methodLink RX4 113 yX4_isForward, Cond.instanceMethod yX4_isForward, Cond.selects RX4 yX4_isForward yX4_isForward, Cond.code yX4_isForward cX4_isForward 2 (some .boolean), Cond.methodLink RX4 119 yX4_size, Cond.static yX4_size, Cond.code yX4_size cX4_size 1 (some .int), Cond.methodLink RX4 122 yX4_dropBy, Cond.instanceMethod yX4_dropBy, Cond.selects RX4 yX4_dropBy yX4_dropBy, Cond.code yX4_dropBy cX4_dropBy 2 (some .int), Cond.methodLink RL 65 yX3_pulse, Cond.instanceMethod yX3_pulse, Cond.selects RX3 yX3_pulse yX3_pulse, Cond.code yX3_pulse cX3_pulse 6 (some .int), Cond.fieldLink RX3 134 "PartCurves$Readings" "count" "I", Cond.methodLink RX3 122 yX2_room, Cond.instanceMethod yX2_room, Cond.selects RX2 yX2_room yX2_room]
def wsL_law_r16 : List Cond := [Cond.code yX2_room cX2_room 1 (some .int), Cond.methodLink RX3 125 yX0_clearAll, Cond.instanceMethod yX0_clearAll, Cond.selects RX0 yX0_clearAll yX0_clearAll, Cond.code yX0_clearAll cX0_clearAll 1 none, Cond.methodLink RX3 128 yX3_readPulse, Cond.instanceMethod yX3_readPulse, Cond.selects RX3 yX3_readPulse yX3_readPulse, Cond.code yX3_readPulse cX3_readPulse 8 (some .int), Cond.methodLink RX3 226 yX1_snapsOpenAt, Cond.instanceMethod yX1_snapsOpenAt, Cond.selects RX1 yX1_snapsOpenAt yX1_snapsOpenAt, Cond.code yX1_snapsOpenAt cX1_snapsOpenAt 2 (some .boolean), Cond.methodLink RX3 229 yX2_add, Cond.instanceMethod yX2_add, Cond.selects RX2 yX2_add yX2_add, Cond.code yX2_add cX2_add 5 none, Cond.methodLink RX2 28 yX2_room, Cond.methodLink RX3 233 yX1_warm, Cond.instanceMethod yX1_warm, Cond.selects RX1 yX1_warm yX1_warm, Cond.code yX1_warm cX1_warm 7 (some .int), Cond.methodLink RX1 64 Lib.MathLoose.abs_long.x, Cond.static Lib.MathLoose.abs_long.x]
def wsL_law_r17 : List Cond := [Cond.code Lib.MathLoose.abs_long.x Lib.MathLoose.abs_long.code 2 (some .long), Cond.constantLong RX1 68 (500000), Cond.methodLink RX1 70 Lib.Math.min.name, Cond.static Lib.Math.min.name, Cond.code Lib.Math.min.name Lib.Math.min.code 2 (some .int), Cond.methodLink RX3 237 yX1_shutBelow, Cond.instanceMethod yX1_shutBelow, Cond.selects RX1 yX1_shutBelow yX1_shutBelow, Cond.code yX1_shutBelow cX1_shutBelow 2 none, Cond.methodLink RX3 131 yX3_tellBurnt, Cond.instanceMethod yX3_tellBurnt, Cond.selects RX3 yX3_tellBurnt yX3_tellBurnt, Cond.code yX3_tellBurnt cX3_tellBurnt 3 none, Cond.methodLink RX3 150 yX0_put, Cond.instanceMethod yX0_put, Cond.selects RX0 yX0_put yX0_put, Cond.code yX0_put cX0_put 3 none, Cond.methodLink RL 68 yX4_pulse, Cond.instanceMethod yX4_pulse, Cond.selects RX4 yX4_pulse yX4_pulse, Cond.code yX4_pulse cX4_pulse 3 (some .int), Cond.fieldLink RX4 142 "PartCurvesModel" "readings" "I", Cond.fieldLink RX4 139 "PartCurvesModel" "causes" "I", Cond.fieldLink RX4 151 "PartCurvesModel" "tooHot" "I"]
def wsL_law_r18 : List Cond := [Cond.methodLink RX4 154 yX4_pulses, Cond.instanceMethod yX4_pulses, Cond.selects RX4 yX4_pulses yX4_pulses, Cond.code yX4_pulses cX4_pulses 7 none, Cond.methodLink RX4 145 yX4_heats, Cond.instanceMethod yX4_heats, Cond.selects RX4 yX4_heats yX4_heats, Cond.code yX4_heats cX4_heats 7 none, Cond.constantLong RX4 149 (500000), Cond.methodLink RX4 157 yX4_cause, Cond.instanceMethod yX4_cause, Cond.selects RX4 yX4_cause yX4_cause, Cond.code yX4_cause cX4_cause 3 none, Cond.methodLink RL 69 yX3_rest, Cond.instanceMethod yX3_rest, Cond.selects RX3 yX3_rest yX3_rest, Cond.code yX3_rest cX3_rest 4 (some .int), Cond.methodLink RX3 141 Lib.Math.max.name, Cond.static Lib.Math.max.name, Cond.code Lib.Math.max.name Lib.Math.max.code 2 (some .int), Cond.methodLink RX3 137 yX3_coolAll, Cond.instanceMethod yX3_coolAll, Cond.selects RX3 yX3_coolAll yX3_coolAll, Cond.code yX3_coolAll cX3_coolAll 3 none]
def wsL_law_r19 : List Cond := [Cond.methodLink RX3 240 yX1_cool, Cond.instanceMethod yX1_cool, Cond.selects RX1 yX1_cool yX1_cool, Cond.code yX1_cool cX1_cool 3 none, Cond.methodLink RL 72 yX4_rest, Cond.instanceMethod yX4_rest, Cond.selects RX4 yX4_rest yX4_rest, Cond.code yX4_rest cX4_rest 4 (some .int), Cond.methodLink RX4 160 yX4_rests, Cond.instanceMethod yX4_rests, Cond.selects RX4 yX4_rests yX4_rests, Cond.code yX4_rests cX4_rests 4 none, Cond.methodLink RL 73 yX3_sweep, Cond.instanceMethod yX3_sweep, Cond.selects RX3 yX3_sweep yX3_sweep, Cond.code yX3_sweep cX3_sweep 15 (some .int), Cond.methodLink RL 77 yX4_sweep, Cond.instanceMethod yX4_sweep, Cond.selects RX4 yX4_sweep yX4_sweep, Cond.code yX4_sweep cX4_sweep 11 (some .int), Cond.methodLink RX4 164 yX4_isSweep, Cond.static yX4_isSweep, Cond.code yX4_isSweep cX4_isSweep 7 (some .boolean), Cond.methodLink RL 78 yX3_why]
def wsL_law_r20 : List Cond := [Cond.instanceMethod yX3_why, Cond.selects RX3 yX3_why yX3_why, Cond.code yX3_why cX3_why 3 (some .int), Cond.fieldLink RX3 153 "PartCurves$Causes" "count" "I", Cond.fieldLink RX3 154 "PartCurves$Causes" "sorts" "[I", Cond.fieldLink RX3 157 "PartCurves$Causes" "numbers" "[I", Cond.methodLink RL 81 yX4_why, Cond.instanceMethod yX4_why, Cond.selects RX4 yX4_why yX4_why, Cond.code yX4_why cX4_why 3 (some .int), Cond.methodLink RL 82 yX3_reading, Cond.instanceMethod yX3_reading, Cond.selects RX3 yX3_reading yX3_reading, Cond.code yX3_reading cX3_reading 3 (some .int), Cond.fieldLink RX3 163 "PartCurves$Readings" "forced" "[I", Cond.fieldLink RX3 166 "PartCurves$Readings" "told" "[I", Cond.fieldLink RX3 169 "PartCurves$Readings" "flowed" "[I", Cond.fieldLink RX3 172 "PartCurves$Readings" "rules" "[I", Cond.methodLink RX3 160 yX2_has, Cond.instanceMethod yX2_has, Cond.selects RX2 yX2_has yX2_has, Cond.code yX2_has cX2_has 2 (some .boolean), Cond.methodLink RL 85 yX4_reading, Cond.instanceMethod yX4_reading]
def wsL_law_r21 : List Cond := [Cond.selects RX4 yX4_reading yX4_reading, Cond.code yX4_reading cX4_reading 3 (some .int), Cond.methodLink RX4 168 yX4_isReading, Cond.instanceMethod yX4_isReading, Cond.selects RX4 yX4_isReading yX4_isReading, Cond.code yX4_isReading cX4_isReading 2 (some .boolean), Cond.methodLink RL 86 yX3_clear, Cond.instanceMethod yX3_clear, Cond.selects RX3 yX3_clear yX3_clear, Cond.code yX3_clear cX3_clear 2 (some .int), Cond.methodLink RL 90 yX4_clear, Cond.instanceMethod yX4_clear, Cond.selects RX4 yX4_clear yX4_clear, Cond.code yX4_clear cX4_clear 2 (some .int), Cond.methodLink RL 91 yX3_knee, Cond.instanceMethod yX3_knee, Cond.selects RX3 yX3_knee yX3_knee, Cond.code yX3_knee cX3_knee 3 (some .int), Cond.methodLink RX3 175 yX2_kneePoint, Cond.instanceMethod yX2_kneePoint, Cond.selects RX2 yX2_kneePoint yX2_kneePoint, Cond.code yX2_kneePoint cX2_kneePoint 13 (some .int), Cond.methodLink RX2 32 Lib.MathLoose.abs_long.x, Cond.methodLink RL 94 yX4_knee]
def wsL_law_r22 : List Cond := [Cond.instanceMethod yX4_knee, Cond.selects RX4 yX4_knee yX4_knee, Cond.code yX4_knee cX4_knee 8 (some .int), Cond.methodLink RX4 171 yX4_off, Cond.instanceMethod yX4_off, Cond.selects RX4 yX4_off yX4_off, Cond.code yX4_off cX4_off 6 (some .long), Cond.methodLink RL 95 yX3_fit, Cond.instanceMethod yX3_fit, Cond.selects RX3 yX3_fit yX3_fit, Cond.code yX3_fit cX3_fit 4 (some .long), Cond.constantLong RX3 178 (-9223372036854775808), Cond.methodLink RX3 180 yX2_lineFitted, Cond.instanceMethod yX2_lineFitted, Cond.selects RX2 yX2_lineFitted yX2_lineFitted, Cond.code yX2_lineFitted cX2_lineFitted 21 (some .long), Cond.constantLong RX2 53 (-9223372036854775808), Cond.methodLink RX2 45 yX2_sum, Cond.static yX2_sum, Cond.code yX2_sum cX2_sum 6 (some .long), Cond.methodLink RX2 49 yX2_sumOfProducts, Cond.static yX2_sumOfProducts, Cond.code yX2_sumOfProducts cX2_sumOfProducts 7 (some .long), Cond.methodLink RX2 55 yX2_ofFraction]
def wsL_law_r23 : List Cond := [Cond.static yX2_ofFraction, Cond.code yX2_ofFraction cX2_ofFraction 9 (some .long), Cond.methodLink RX2 59 yX2_greatestDivisor, Cond.static yX2_greatestDivisor, Cond.code yX2_greatestDivisor cX2_greatestDivisor 7 (some .long), Cond.methodLink RL 99 yX4_fit, Cond.instanceMethod yX4_fit, Cond.selects RX4 yX4_fit yX4_fit, Cond.code yX4_fit cX4_fit 20 (some .long), Cond.constantLong RX4 175 (-9223372036854775808), Cond.methodLink RX4 177 yX4_fraction, Cond.static yX4_fraction, Cond.code yX4_fraction cX4_fraction 11 (some .long), Cond.methodLink RL 100 yX3_gap, Cond.instanceMethod yX3_gap, Cond.selects RX3 yX3_gap yX3_gap, Cond.code yX3_gap cX3_gap 3 (some .int), Cond.methodLink RX3 184 yX2_greatestGap, Cond.instanceMethod yX2_greatestGap, Cond.selects RX2 yX2_greatestGap yX2_greatestGap, Cond.code yX2_greatestGap cX2_greatestGap 6 (some .int), Cond.methodLink RX2 38 Lib.Math.abs.name, Cond.methodLink RX2 41 Lib.Math.max.name, Cond.methodLink RL 103 yX4_gap]
def wsL_law_r24 : List Cond := [Cond.instanceMethod yX4_gap, Cond.selects RX4 yX4_gap yX4_gap, Cond.code yX4_gap cX4_gap 7 (some .int), Cond.methodLink RL 104 yX3_many, Cond.instanceMethod yX3_many, Cond.selects RX3 yX3_many yX3_many, Cond.code yX3_many cX3_many 2 (some .int), Cond.methodLink RX3 187 yX3_partsThere, Cond.instanceMethod yX3_partsThere, Cond.selects RX3 yX3_partsThere yX3_partsThere, Cond.code yX3_partsThere cX3_partsThere 4 (some .int), Cond.methodLink RX3 191 yX3_closedRelays, Cond.instanceMethod yX3_closedRelays, Cond.selects RX3 yX3_closedRelays yX3_closedRelays, Cond.code yX3_closedRelays cX3_closedRelays 3 (some .int), Cond.methodLink RX3 194 yX2_withRule, Cond.instanceMethod yX2_withRule, Cond.selects RX2 yX2_withRule yX2_withRule, Cond.code yX2_withRule cX2_withRule 4 (some .int), Cond.methodLink RL 107 yX4_many, Cond.instanceMethod yX4_many, Cond.selects RX4 yX4_many yX4_many, Cond.code yX4_many cX4_many 7 (some .int), Cond.methodLink RX4 181 yX4_manyRule]
def wsL_law_r25 : List Cond := [Cond.instanceMethod yX4_manyRule, Cond.selects RX4 yX4_manyRule yX4_manyRule, Cond.code yX4_manyRule cX4_manyRule 4 (some .int)]
abbrev vwCl : List vw_C := [(RX0, TX0, 3), (RX1, TX1, 12), (RX2, TX2, 5), (RX3, TX3, 7), (RX4, TX4, 25)]
end
section
set_option maxRecDepth 20000 in
theorem in_wsL_law_r1 : ∀ w ∈ wsL_law_r1, w ∈ lw_tbl := fun w h => (goodIn_r (big := lw_tbl) wsL_law_r1 [46, 47, 39, 461, 462, 43, 48, 49, 50, 51, 52, 53, 54, 152, 83, 153, 56, 57, 40, 154, 84, 85, 41, 155] (by decide +kernel) (by decide +kernel) w h).1
set_option maxRecDepth 20000 in
theorem in_wsL_law_r2 : ∀ w ∈ wsL_law_r2, w ∈ lw_tbl := fun w h => (goodIn_r (big := lw_tbl) wsL_law_r2 [156, 157, 158, 103, 42, 59, 60, 61, 62, 64, 66, 68, 70, 87, 88, 89, 90, 92, 94, 105, 106, 107, 463, 464] (by decide +kernel) (by decide +kernel) w h).1
set_option maxRecDepth 20000 in
theorem in_wsL_law_r3 : ∀ w ∈ wsL_law_r3, w ∈ lw_tbl := fun w h => (goodIn_r (big := lw_tbl) wsL_law_r3 [465, 466, 543, 467, 468, 469, 470, 471, 472, 473, 474, 475, 476, 477, 479, 484, 485, 486, 487, 489, 490, 174, 175, 176] (by decide +kernel) (by decide +kernel) w h).1
set_option maxRecDepth 20000 in
theorem in_wsL_law_r4 : ∀ w ∈ wsL_law_r4, w ∈ lw_tbl := fun w h => (goodIn_r (big := lw_tbl) wsL_law_r4 [177, 108, 178, 179, 180, 181, 182, 183, 184, 109, 110, 112, 114, 116, 118, 120, 122, 123, 124, 125, 126, 544, 545, 546] (by decide +kernel) (by decide +kernel) w h).1
set_option maxRecDepth 20000 in
theorem in_wsL_law_r5 : ∀ w ∈ wsL_law_r5, w ∈ lw_tbl := fun w h => (goodIn_r (big := lw_tbl) wsL_law_r5 [547, 478, 548, 549, 550, 551, 552, 553, 185, 186, 187, 188, 189, 191, 0, 192, 554, 555, 556, 557, 558, 560, 19, 561] (by decide +kernel) (by decide +kernel) w h).1
set_option maxRecDepth 20000 in
theorem in_wsL_law_r6 : ∀ w ∈ wsL_law_r6, w ∈ lw_tbl := fun w h => (goodIn_r (big := lw_tbl) wsL_law_r6 [193, 194, 195, 196, 197, 198, 199, 200, 202, 204, 205, 206, 207, 208, 209, 210, 211, 562, 563, 564, 565, 566, 568, 20] (by decide +kernel) (by decide +kernel) w h).1
set_option maxRecDepth 20000 in
theorem in_wsL_law_r7 : ∀ w ∈ wsL_law_r7, w ∈ lw_tbl := fun w h => (goodIn_r (big := lw_tbl) wsL_law_r7 [569, 212, 213, 214, 215, 115, 117, 119, 121, 111, 113, 570, 571, 572, 573, 216, 217, 218, 219, 220, 222, 1, 223, 574] (by decide +kernel) (by decide +kernel) w h).1
set_option maxRecDepth 20000 in
theorem in_wsL_law_r8 : ∀ w ∈ wsL_law_r8, w ∈ lw_tbl := fun w h => (goodIn_r (big := lw_tbl) wsL_law_r8 [575, 576, 577, 578, 579, 580, 224, 225, 226, 227, 581, 582, 583, 584, 228, 229, 230, 231, 232, 234, 2, 235, 236, 238] (by decide +kernel) (by decide +kernel) w h).1
set_option maxRecDepth 20000 in
theorem in_wsL_law_r9 : ∀ w ∈ wsL_law_r9, w ∈ lw_tbl := fun w h => (goodIn_r (big := lw_tbl) wsL_law_r9 [3, 239, 240, 241, 44, 242, 243, 244, 245, 246, 248, 4, 249, 585, 586, 587, 588, 589, 591, 21, 592, 593, 595, 22] (by decide +kernel) (by decide +kernel) w h).1
set_option maxRecDepth 20000 in
theorem in_wsL_law_r10 : ∀ w ∈ wsL_law_r10, w ∈ lw_tbl := fun w h => (goodIn_r (big := lw_tbl) wsL_law_r10 [596, 250, 251, 252, 253, 597, 598, 599, 600, 254, 255, 256, 257, 601, 602, 603, 604, 480, 258, 259, 260, 261, 262, 264] (by decide +kernel) (by decide +kernel) w h).1
set_option maxRecDepth 20000 in
theorem in_wsL_law_r11 : ∀ w ∈ wsL_law_r11, w ∈ lw_tbl := fun w h => (goodIn_r (big := lw_tbl) wsL_law_r11 [5, 265, 605, 606, 607, 608, 609, 611, 23, 612, 266, 267, 268, 269, 284, 270, 271, 272, 273, 274, 275, 276, 277, 279] (by decide +kernel) (by decide +kernel) w h).1
set_option maxRecDepth 20000 in
theorem in_wsL_law_r12 : ∀ w ∈ wsL_law_r12, w ∈ lw_tbl := fun w h => (goodIn_r (big := lw_tbl) wsL_law_r12 [6, 280, 281, 282, 45, 283, 613, 614, 615, 616, 628, 617, 619, 24, 620, 621, 623, 25, 624, 625, 626, 627, 285, 286] (by decide +kernel) (by decide +kernel) w h).1
set_option maxRecDepth 20000 in
theorem in_wsL_law_r13 : ∀ w ∈ wsL_law_r13, w ∈ lw_tbl := fun w h => (goodIn_r (big := lw_tbl) wsL_law_r13 [287, 288, 289, 291, 7, 292, 293, 294, 45, 295, 296, 298, 8, 299, 300, 302, 9, 303, 304, 306, 10, 307, 308, 310] (by decide +kernel) (by decide +kernel) w h).1
set_option maxRecDepth 20000 in
theorem in_wsL_law_r14 : ∀ w ∈ wsL_law_r14, w ∈ lw_tbl := fun w h => (goodIn_r (big := lw_tbl) wsL_law_r14 [11, 311, 312, 313, 315, 12, 316, 317, 319, 13, 320, 629, 630, 631, 632, 481, 482, 633, 635, 26, 636, 637, 639, 27] (by decide +kernel) (by decide +kernel) w h).1
set_option maxRecDepth 20000 in
theorem in_wsL_law_r15 : ∀ w ∈ wsL_law_r15, w ∈ lw_tbl := fun w h => (goodIn_r (big := lw_tbl) wsL_law_r15 [640, 641, 643, 28, 644, 645, 647, 29, 648, 649, 650, 651, 652, 654, 30, 655, 321, 322, 323, 324, 71, 325, 326, 327] (by decide +kernel) (by decide +kernel) w h).1
set_option maxRecDepth 20000 in
theorem in_wsL_law_r16 : ∀ w ∈ wsL_law_r16, w ∈ lw_tbl := fun w h => (goodIn_r (big := lw_tbl) wsL_law_r16 [328, 329, 330, 331, 332, 333, 335, 14, 336, 337, 338, 339, 340, 341, 342, 343, 344, 345, 346, 347, 348, 349, 350, 351] (by decide +kernel) (by decide +kernel) w h).1
set_option maxRecDepth 20000 in
theorem in_wsL_law_r17 : ∀ w ∈ wsL_law_r17, w ∈ lw_tbl := fun w h => (goodIn_r (big := lw_tbl) wsL_law_r17 [352, 353, 354, 355, 356, 357, 358, 359, 360, 361, 363, 15, 364, 365, 366, 367, 368, 656, 657, 658, 659, 483, 488, 491] (by decide +kernel) (by decide +kernel) w h).1
set_option maxRecDepth 20000 in
theorem in_wsL_law_r18 : ∀ w ∈ wsL_law_r18, w ∈ lw_tbl := fun w h => (goodIn_r (big := lw_tbl) wsL_law_r18 [660, 662, 31, 663, 664, 666, 32, 667, 668, 669, 671, 33, 672, 369, 370, 371, 372, 381, 382, 383, 373, 375, 16, 376] (by decide +kernel) (by decide +kernel) w h).1
set_option maxRecDepth 20000 in
theorem in_wsL_law_r19 : ∀ w ∈ wsL_law_r19, w ∈ lw_tbl := fun w h => (goodIn_r (big := lw_tbl) wsL_law_r19 [377, 378, 379, 380, 673, 674, 675, 676, 677, 679, 34, 680, 384, 385, 386, 387, 681, 682, 683, 684, 685, 686, 687, 388] (by decide +kernel) (by decide +kernel) w h).1
set_option maxRecDepth 20000 in
theorem in_wsL_law_r20 : ∀ w ∈ wsL_law_r20, w ∈ lw_tbl := fun w h => (goodIn_r (big := lw_tbl) wsL_law_r20 [389, 390, 391, 95, 91, 93, 688, 689, 690, 691, 392, 393, 394, 395, 63, 65, 67, 69, 396, 397, 398, 399, 692, 693] (by decide +kernel) (by decide +kernel) w h).1
set_option maxRecDepth 20000 in
theorem in_wsL_law_r21 : ∀ w ∈ wsL_law_r21, w ∈ lw_tbl := fun w h => (goodIn_r (big := lw_tbl) wsL_law_r21 [694, 695, 696, 698, 35, 699, 400, 401, 402, 403, 700, 701, 702, 703, 404, 405, 406, 407, 408, 409, 410, 411, 412, 704] (by decide +kernel) (by decide +kernel) w h).1
set_option maxRecDepth 20000 in
theorem in_wsL_law_r22 : ∀ w ∈ wsL_law_r22, w ∈ lw_tbl := fun w h => (goodIn_r (big := lw_tbl) wsL_law_r22 [705, 706, 707, 708, 710, 36, 711, 413, 414, 415, 416, 417, 418, 419, 420, 421, 428, 422, 423, 424, 425, 426, 427, 429] (by decide +kernel) (by decide +kernel) w h).1
set_option maxRecDepth 20000 in
theorem in_wsL_law_r23 : ∀ w ∈ wsL_law_r23, w ∈ lw_tbl := fun w h => (goodIn_r (big := lw_tbl) wsL_law_r23 [430, 431, 432, 433, 434, 712, 713, 714, 715, 716, 717, 718, 719, 435, 436, 437, 438, 439, 440, 441, 442, 443, 444, 720] (by decide +kernel) (by decide +kernel) w h).1
set_option maxRecDepth 20000 in
theorem in_wsL_law_r24 : ∀ w ∈ wsL_law_r24, w ∈ lw_tbl := fun w h => (goodIn_r (big := lw_tbl) wsL_law_r24 [721, 722, 723, 445, 446, 447, 448, 449, 451, 17, 452, 453, 455, 18, 456, 457, 458, 459, 460, 724, 725, 726, 727, 728] (by decide +kernel) (by decide +kernel) w h).1
set_option maxRecDepth 20000 in
theorem in_wsL_law_r25 : ∀ w ∈ wsL_law_r25, w ∈ lw_tbl := fun w h => (goodIn_r (big := lw_tbl) wsL_law_r25 [730, 37, 731] (by decide +kernel) (by decide +kernel) w h).1
set_option maxRecDepth 20000 in
theorem in_wsX30 : ∀ w ∈ wsX30, w ∈ lw_tbl := fun w h => (goodIn_r (big := lw_tbl) wsX30 [159, 161, 163, 165, 167, 169, 171] (by decide +kernel) (by decide +kernel) w h).1
set_option maxRecDepth 20000 in
theorem in_wsX40 : ∀ w ∈ wsX40, w ∈ lw_tbl := fun w h => (goodIn_r (big := lw_tbl) wsX40 [492, 494, 496, 498, 500, 502, 504, 506, 508, 510, 512, 514, 516, 518, 520, 522, 524, 526, 528, 530, 532, 534, 536, 538, 540] (by decide +kernel) (by decide +kernel) w h).1
set_option maxRecDepth 20000 in
theorem in_wsX20 : ∀ w ∈ wsX20, w ∈ lw_tbl := fun w h => (goodIn_r (big := lw_tbl) wsX20 [72, 74, 76, 78, 80] (by decide +kernel) (by decide +kernel) w h).1
set_option maxRecDepth 20000 in
theorem in_wsX00 : ∀ w ∈ wsX00, w ∈ lw_tbl := fun w h => (goodIn_r (big := lw_tbl) wsX00 [96, 98, 100] (by decide +kernel) (by decide +kernel) w h).1
set_option maxRecDepth 20000 in
theorem in_wsX10 : ∀ w ∈ wsX10, w ∈ lw_tbl := fun w h => (goodIn_r (big := lw_tbl) wsX10 [127, 129, 131, 133, 135, 137, 139, 141, 143, 145, 147, 149] (by decide +kernel) (by decide +kernel) w h).1
def wsL_law : List Cond := (wsL_law_r1 ++ (wsL_law_r2 ++ (wsL_law_r3 ++ (wsL_law_r4 ++ (wsL_law_r5 ++ (wsL_law_r6 ++ (wsL_law_r7 ++ (wsL_law_r8 ++ (wsL_law_r9 ++ (wsL_law_r10 ++ (wsL_law_r11 ++ (wsL_law_r12 ++ (wsL_law_r13 ++ (wsL_law_r14 ++ (wsL_law_r15 ++ (wsL_law_r16 ++ (wsL_law_r17 ++ (wsL_law_r18 ++ (wsL_law_r19 ++ (wsL_law_r20 ++ (wsL_law_r21 ++ (wsL_law_r22 ++ (wsL_law_r23 ++ (wsL_law_r24 ++ wsL_law_r25)))))))))))))))))))))))) ++ wsX30 ++ wsX40 ++ wsX20 ++ wsX00 ++ wsX10 ++ ([] : List Cond)
theorem wsL_law_in : ∀ w ∈ wsL_law, w ∈ lw_tbl := by
  unfold wsL_law
  exact List.forall_mem_append.mpr ⟨List.forall_mem_append.mpr ⟨List.forall_mem_append.mpr ⟨List.forall_mem_append.mpr ⟨List.forall_mem_append.mpr ⟨List.forall_mem_append.mpr ⟨List.forall_mem_append.mpr ⟨in_wsL_law_r1, List.forall_mem_append.mpr ⟨in_wsL_law_r2, List.forall_mem_append.mpr ⟨in_wsL_law_r3, List.forall_mem_append.mpr ⟨in_wsL_law_r4, List.forall_mem_append.mpr ⟨in_wsL_law_r5, List.forall_mem_append.mpr ⟨in_wsL_law_r6, List.forall_mem_append.mpr ⟨in_wsL_law_r7, List.forall_mem_append.mpr ⟨in_wsL_law_r8, List.forall_mem_append.mpr ⟨in_wsL_law_r9, List.forall_mem_append.mpr ⟨in_wsL_law_r10, List.forall_mem_append.mpr ⟨in_wsL_law_r11, List.forall_mem_append.mpr ⟨in_wsL_law_r12, List.forall_mem_append.mpr ⟨in_wsL_law_r13, List.forall_mem_append.mpr ⟨in_wsL_law_r14, List.forall_mem_append.mpr ⟨in_wsL_law_r15, List.forall_mem_append.mpr ⟨in_wsL_law_r16, List.forall_mem_append.mpr ⟨in_wsL_law_r17, List.forall_mem_append.mpr ⟨in_wsL_law_r18, List.forall_mem_append.mpr ⟨in_wsL_law_r19, List.forall_mem_append.mpr ⟨in_wsL_law_r20, List.forall_mem_append.mpr ⟨in_wsL_law_r21, List.forall_mem_append.mpr ⟨in_wsL_law_r22, List.forall_mem_append.mpr ⟨in_wsL_law_r23, List.forall_mem_append.mpr ⟨in_wsL_law_r24, in_wsL_law_r25⟩⟩⟩⟩⟩⟩⟩⟩⟩⟩⟩⟩⟩⟩⟩⟩⟩⟩⟩⟩⟩⟩⟩⟩, in_wsX30⟩, in_wsX40⟩, in_wsX20⟩, in_wsX00⟩, in_wsX10⟩, fun _ h => absurd h List.not_mem_nil⟩
theorem inlX0 : ∀ w ∈ wsX00, w ∈ wsL_law := fun _ h => List.mem_append_left _ (List.mem_append_left _ (List.mem_append_right _ h))
theorem inX0 : ∀ w ∈ wsX00, w ∈ lw_tbl := fun w h => wsL_law_in w (inlX0 w h)
theorem inlX1 : ∀ w ∈ wsX10, w ∈ wsL_law := fun _ h => List.mem_append_left _ (List.mem_append_right _ h)
theorem inX1 : ∀ w ∈ wsX10, w ∈ lw_tbl := fun w h => wsL_law_in w (inlX1 w h)
theorem inlX2 : ∀ w ∈ wsX20, w ∈ wsL_law := fun _ h => List.mem_append_left _ (List.mem_append_left _ (List.mem_append_left _ (List.mem_append_right _ h)))
theorem inX2 : ∀ w ∈ wsX20, w ∈ lw_tbl := fun w h => wsL_law_in w (inlX2 w h)
theorem inlX3 : ∀ w ∈ wsX30, w ∈ wsL_law := fun _ h => List.mem_append_left _ (List.mem_append_left _ (List.mem_append_left _ (List.mem_append_left _ (List.mem_append_left _ (List.mem_append_right _ h)))))
theorem inX3 : ∀ w ∈ wsX30, w ∈ lw_tbl := fun w h => wsL_law_in w (inlX3 w h)
theorem inlX4 : ∀ w ∈ wsX40, w ∈ wsL_law := fun _ h => List.mem_append_left _ (List.mem_append_left _ (List.mem_append_left _ (List.mem_append_left _ (List.mem_append_right _ h))))
theorem inX4 : ∀ w ∈ wsX40, w ∈ lw_tbl := fun w h => wsL_law_in w (inlX4 w h)
end
section
theorem inJ6 : ∀ w ∈ wsJ60, w ∈ lw_tbl := by decide +kernel
theorem inJ9 : ∀ w ∈ wsJ90, w ∈ lw_tbl := by decide +kernel
theorem dX0_init_0 : decode cX0_init 0 = .ok (.aload_n 0, 1) := by decide +kernel
theorem dX0_init_1 : decode cX0_init 1 = .ok (.invokespecial 1, 3) := by decide +kernel
theorem dX0_init_4 : decode cX0_init 4 = .ok (.aload_n 0, 1) := by decide +kernel
theorem dX0_init_5 : decode cX0_init 5 = .ok (.iconst 3, 1) := by decide +kernel
theorem dX0_init_6 : decode cX0_init 6 = .ok (.newarray .int, 2) := by decide +kernel
theorem dX0_init_8 : decode cX0_init 8 = .ok (.putfield 9, 3) := by decide +kernel
theorem dX0_init_11 : decode cX0_init 11 = .ok (.aload_n 0, 1) := by decide +kernel
theorem dX0_init_12 : decode cX0_init 12 = .ok (.iconst 3, 1) := by decide +kernel
theorem dX0_init_13 : decode cX0_init 13 = .ok (.newarray .int, 2) := by decide +kernel
theorem dX0_init_15 : decode cX0_init 15 = .ok (.putfield 13, 3) := by decide +kernel
theorem dX0_init_18 : decode cX0_init 18 = .ok (.aload_n 0, 1) := by decide +kernel
theorem dX0_init_19 : decode cX0_init 19 = .ok (.iconst 0, 1) := by decide +kernel
theorem dX0_init_20 : decode cX0_init 20 = .ok (.putfield 16, 3) := by decide +kernel
theorem dX0_init_23 : decode cX0_init 23 = .ok (.return_, 1) := by decide +kernel
theorem dX0_clearAll_0 : decode cX0_clearAll 0 = .ok (.aload_n 0, 1) := by decide +kernel
theorem dX0_clearAll_1 : decode cX0_clearAll 1 = .ok (.iconst 0, 1) := by decide +kernel
theorem dX0_clearAll_2 : decode cX0_clearAll 2 = .ok (.putfield 16, 3) := by decide +kernel
theorem dX0_clearAll_5 : decode cX0_clearAll 5 = .ok (.return_, 1) := by decide +kernel
theorem dX0_put_0 : decode cX0_put 0 = .ok (.aload_n 0, 1) := by decide +kernel
theorem dX0_put_1 : decode cX0_put 1 = .ok (.getfield 16, 3) := by decide +kernel
theorem dX0_put_4 : decode cX0_put 4 = .ok (.iconst 3, 1) := by decide +kernel
theorem dX0_put_5 : decode cX0_put 5 = .ok (.if_icmp .ge 33, 3) := by decide +kernel
theorem dX0_put_8 : decode cX0_put 8 = .ok (.aload_n 0, 1) := by decide +kernel
theorem dX0_put_9 : decode cX0_put 9 = .ok (.getfield 9, 3) := by decide +kernel
theorem dX0_put_12 : decode cX0_put 12 = .ok (.aload_n 0, 1) := by decide +kernel
theorem dX0_put_13 : decode cX0_put 13 = .ok (.getfield 16, 3) := by decide +kernel
theorem dX0_put_16 : decode cX0_put 16 = .ok (.iload_n 1, 1) := by decide +kernel
theorem dX0_put_17 : decode cX0_put 17 = .ok (.iastore, 1) := by decide +kernel
theorem dX0_put_18 : decode cX0_put 18 = .ok (.aload_n 0, 1) := by decide +kernel
theorem dX0_put_19 : decode cX0_put 19 = .ok (.getfield 13, 3) := by decide +kernel
theorem dX0_put_22 : decode cX0_put 22 = .ok (.aload_n 0, 1) := by decide +kernel
theorem dX0_put_23 : decode cX0_put 23 = .ok (.getfield 16, 3) := by decide +kernel
theorem dX0_put_26 : decode cX0_put 26 = .ok (.iload_n 2, 1) := by decide +kernel
theorem dX0_put_27 : decode cX0_put 27 = .ok (.iastore, 1) := by decide +kernel
theorem dX0_put_28 : decode cX0_put 28 = .ok (.aload_n 0, 1) := by decide +kernel
theorem dX0_put_29 : decode cX0_put 29 = .ok (.dup, 1) := by decide +kernel
theorem dX0_put_30 : decode cX0_put 30 = .ok (.getfield 16, 3) := by decide +kernel
theorem dX0_put_33 : decode cX0_put 33 = .ok (.iconst 1, 1) := by decide +kernel
theorem dX0_put_34 : decode cX0_put 34 = .ok (.iadd, 1) := by decide +kernel
theorem dX0_put_35 : decode cX0_put 35 = .ok (.putfield 16, 3) := by decide +kernel
theorem dX0_put_38 : decode cX0_put 38 = .ok (.return_, 1) := by decide +kernel
theorem dX1_init_0 : decode cX1_init 0 = .ok (.aload_n 0, 1) := by decide +kernel
theorem dX1_init_1 : decode cX1_init 1 = .ok (.invokespecial 1, 3) := by decide +kernel
theorem dX1_init_4 : decode cX1_init 4 = .ok (.return_, 1) := by decide +kernel
theorem dX1_takes_0 : decode cX1_takes 0 = .ok (.iload_n 0, 1) := by decide +kernel
theorem dX1_takes_1 : decode cX1_takes 1 = .ok (.ifCond .lt 30, 3) := by decide +kernel
theorem dX1_takes_4 : decode cX1_takes 4 = .ok (.iload_n 0, 1) := by decide +kernel
theorem dX1_takes_5 : decode cX1_takes 5 = .ok (.iconst 5, 1) := by decide +kernel
theorem dX1_takes_6 : decode cX1_takes 6 = .ok (.if_icmp .ge 25, 3) := by decide +kernel
theorem dX1_takes_9 : decode cX1_takes 9 = .ok (.iload_n 1, 1) := by decide +kernel
theorem dX1_takes_10 : decode cX1_takes 10 = .ok (.getstatic 9, 3) := by decide +kernel
theorem dX1_takes_13 : decode cX1_takes 13 = .ok (.iload_n 0, 1) := by decide +kernel
theorem dX1_takes_14 : decode cX1_takes 14 = .ok (.iaload, 1) := by decide +kernel
theorem dX1_takes_15 : decode cX1_takes 15 = .ok (.if_icmp .lt 16, 3) := by decide +kernel
theorem dX1_takes_18 : decode cX1_takes 18 = .ok (.iload_n 1, 1) := by decide +kernel
theorem dX1_takes_19 : decode cX1_takes 19 = .ok (.getstatic 13, 3) := by decide +kernel
theorem dX1_takes_22 : decode cX1_takes 22 = .ok (.iload_n 0, 1) := by decide +kernel
theorem dX1_takes_23 : decode cX1_takes 23 = .ok (.iaload, 1) := by decide +kernel
theorem dX1_takes_24 : decode cX1_takes 24 = .ok (.if_icmp .gt 7, 3) := by decide +kernel
theorem dX1_takes_27 : decode cX1_takes 27 = .ok (.iconst 1, 1) := by decide +kernel
theorem dX1_takes_28 : decode cX1_takes 28 = .ok (.goto 4, 3) := by decide +kernel
theorem dX1_takes_31 : decode cX1_takes 31 = .ok (.iconst 0, 1) := by decide +kernel
theorem dX1_takes_32 : decode cX1_takes 32 = .ok (.ireturn, 1) := by decide +kernel
theorem dX1_renew_0 : decode cX1_renew 0 = .ok (.aload_n 0, 1) := by decide +kernel
theorem dX1_renew_1 : decode cX1_renew 1 = .ok (.iconst 1, 1) := by decide +kernel
theorem dX1_renew_2 : decode cX1_renew 2 = .ok (.putfield 16, 3) := by decide +kernel
theorem dX1_renew_5 : decode cX1_renew 5 = .ok (.aload_n 0, 1) := by decide +kernel
theorem dX1_renew_6 : decode cX1_renew 6 = .ok (.iconst 0, 1) := by decide +kernel
theorem dX1_renew_7 : decode cX1_renew 7 = .ok (.putfield 20, 3) := by decide +kernel
theorem dX1_renew_10 : decode cX1_renew 10 = .ok (.aload_n 0, 1) := by decide +kernel
theorem dX1_renew_11 : decode cX1_renew 11 = .ok (.iconst 0, 1) := by decide +kernel
theorem dX1_renew_12 : decode cX1_renew 12 = .ok (.putfield 23, 3) := by decide +kernel
theorem dX1_renew_15 : decode cX1_renew 15 = .ok (.aload_n 0, 1) := by decide +kernel
theorem dX1_renew_16 : decode cX1_renew 16 = .ok (.iload_n 1, 1) := by decide +kernel
theorem dX1_renew_17 : decode cX1_renew 17 = .ok (.putfield 26, 3) := by decide +kernel
theorem dX1_renew_20 : decode cX1_renew 20 = .ok (.aload_n 0, 1) := by decide +kernel
theorem dX1_renew_21 : decode cX1_renew 21 = .ok (.iload_n 2, 1) := by decide +kernel
theorem dX1_renew_22 : decode cX1_renew 22 = .ok (.putfield 30, 3) := by decide +kernel
theorem dX1_renew_25 : decode cX1_renew 25 = .ok (.aload_n 0, 1) := by decide +kernel
theorem dX1_renew_26 : decode cX1_renew 26 = .ok (.iload_n 3, 1) := by decide +kernel
theorem dX1_renew_27 : decode cX1_renew 27 = .ok (.putfield 33, 3) := by decide +kernel
theorem dX1_renew_30 : decode cX1_renew 30 = .ok (.aload_n 0, 1) := by decide +kernel
theorem dX1_renew_31 : decode cX1_renew 31 = .ok (.iconst 0, 1) := by decide +kernel
theorem dX1_renew_32 : decode cX1_renew 32 = .ok (.putfield 36, 3) := by decide +kernel
theorem dX1_renew_35 : decode cX1_renew 35 = .ok (.aload_n 0, 1) := by decide +kernel
theorem dX1_renew_36 : decode cX1_renew 36 = .ok (.sipush 1000, 3) := by decide +kernel
theorem dX1_renew_39 : decode cX1_renew 39 = .ok (.putfield 39, 3) := by decide +kernel
theorem dX1_renew_42 : decode cX1_renew 42 = .ok (.aload_n 0, 1) := by decide +kernel
theorem dX1_renew_43 : decode cX1_renew 43 = .ok (.sipush 600, 3) := by decide +kernel
theorem dX1_renew_46 : decode cX1_renew 46 = .ok (.putfield 42, 3) := by decide +kernel
theorem dX1_renew_49 : decode cX1_renew 49 = .ok (.aload_n 0, 1) := by decide +kernel
theorem dX1_renew_50 : decode cX1_renew 50 = .ok (.iconst 0, 1) := by decide +kernel
theorem dX1_renew_51 : decode cX1_renew 51 = .ok (.putfield 45, 3) := by decide +kernel
theorem dX1_renew_54 : decode cX1_renew 54 = .ok (.aload_n 0, 1) := by decide +kernel
theorem dX1_renew_55 : decode cX1_renew 55 = .ok (.iconst 0, 1) := by decide +kernel
theorem dX1_renew_56 : decode cX1_renew 56 = .ok (.putfield 48, 3) := by decide +kernel
theorem dX1_renew_59 : decode cX1_renew 59 = .ok (.aload_n 0, 1) := by decide +kernel
theorem dX1_renew_60 : decode cX1_renew 60 = .ok (.iconst 0, 1) := by decide +kernel
theorem dX1_renew_61 : decode cX1_renew 61 = .ok (.putfield 51, 3) := by decide +kernel
theorem dX1_renew_64 : decode cX1_renew 64 = .ok (.return_, 1) := by decide +kernel
theorem dX1_number_0 : decode cX1_number 0 = .ok (.iload_n 1, 1) := by decide +kernel
theorem dX1_number_1 : decode cX1_number 1 = .ok (.tableswitch 51 0 3 #[31, 36, 41, 46], 31) := by decide +kernel
theorem dX1_number_32 : decode cX1_number 32 = .ok (.aload_n 0, 1) := by decide +kernel
theorem dX1_number_33 : decode cX1_number 33 = .ok (.getfield 39, 3) := by decide +kernel
theorem dX1_number_36 : decode cX1_number 36 = .ok (.ireturn, 1) := by decide +kernel
theorem dX1_number_37 : decode cX1_number 37 = .ok (.aload_n 0, 1) := by decide +kernel
theorem dX1_number_38 : decode cX1_number 38 = .ok (.getfield 42, 3) := by decide +kernel
theorem dX1_number_41 : decode cX1_number 41 = .ok (.ireturn, 1) := by decide +kernel
theorem dX1_number_42 : decode cX1_number 42 = .ok (.aload_n 0, 1) := by decide +kernel
theorem dX1_number_43 : decode cX1_number 43 = .ok (.getfield 45, 3) := by decide +kernel
theorem dX1_number_46 : decode cX1_number 46 = .ok (.ireturn, 1) := by decide +kernel
theorem dX1_number_47 : decode cX1_number 47 = .ok (.aload_n 0, 1) := by decide +kernel
theorem dX1_number_48 : decode cX1_number 48 = .ok (.getfield 48, 3) := by decide +kernel
theorem dX1_number_51 : decode cX1_number 51 = .ok (.ireturn, 1) := by decide +kernel
theorem dX1_number_52 : decode cX1_number 52 = .ok (.aload_n 0, 1) := by decide +kernel
theorem dX1_number_53 : decode cX1_number 53 = .ok (.getfield 51, 3) := by decide +kernel
theorem dX1_number_56 : decode cX1_number 56 = .ok (.ireturn, 1) := by decide +kernel
theorem dX1_putNumber_0 : decode cX1_putNumber 0 = .ok (.iload_n 1, 1) := by decide +kernel
theorem dX1_putNumber_1 : decode cX1_putNumber 1 = .ok (.tableswitch 63 0 3 #[31, 39, 47, 55], 31) := by decide +kernel
theorem dX1_putNumber_32 : decode cX1_putNumber 32 = .ok (.aload_n 0, 1) := by decide +kernel
theorem dX1_putNumber_33 : decode cX1_putNumber 33 = .ok (.iload_n 2, 1) := by decide +kernel
theorem dX1_putNumber_34 : decode cX1_putNumber 34 = .ok (.putfield 39, 3) := by decide +kernel
theorem dX1_putNumber_37 : decode cX1_putNumber 37 = .ok (.goto 32, 3) := by decide +kernel
theorem dX1_putNumber_40 : decode cX1_putNumber 40 = .ok (.aload_n 0, 1) := by decide +kernel
theorem dX1_putNumber_41 : decode cX1_putNumber 41 = .ok (.iload_n 2, 1) := by decide +kernel
theorem dX1_putNumber_42 : decode cX1_putNumber 42 = .ok (.putfield 42, 3) := by decide +kernel
theorem dX1_putNumber_45 : decode cX1_putNumber 45 = .ok (.goto 24, 3) := by decide +kernel
theorem dX1_putNumber_48 : decode cX1_putNumber 48 = .ok (.aload_n 0, 1) := by decide +kernel
theorem dX1_putNumber_49 : decode cX1_putNumber 49 = .ok (.iload_n 2, 1) := by decide +kernel
theorem dX1_putNumber_50 : decode cX1_putNumber 50 = .ok (.putfield 45, 3) := by decide +kernel
theorem dX1_putNumber_53 : decode cX1_putNumber 53 = .ok (.goto 16, 3) := by decide +kernel
theorem dX1_putNumber_56 : decode cX1_putNumber 56 = .ok (.aload_n 0, 1) := by decide +kernel
theorem dX1_putNumber_57 : decode cX1_putNumber 57 = .ok (.iload_n 2, 1) := by decide +kernel
theorem dX1_putNumber_58 : decode cX1_putNumber 58 = .ok (.putfield 48, 3) := by decide +kernel
theorem dX1_putNumber_61 : decode cX1_putNumber 61 = .ok (.goto 8, 3) := by decide +kernel
theorem dX1_putNumber_64 : decode cX1_putNumber 64 = .ok (.aload_n 0, 1) := by decide +kernel
theorem dX1_putNumber_65 : decode cX1_putNumber 65 = .ok (.iload_n 2, 1) := by decide +kernel
theorem dX1_putNumber_66 : decode cX1_putNumber 66 = .ok (.putfield 51, 3) := by decide +kernel
theorem dX1_putNumber_69 : decode cX1_putNumber 69 = .ok (.return_, 1) := by decide +kernel
set_option maxRecDepth 20000 in
theorem ggX1_ownAmps_X1_coldAmps : GoodIn wsX1_ownAmps wsX1_coldAmps := goodIn_r _ [8, 9, 10, 11, 12, 13, 14, 15, 16, 17, 18, 19, 20, 21, 22, 23, 24, 25, 26, 27, 28, 29] (by decide +kernel) (by decide +kernel)
set_option maxRecDepth 20000 in
theorem gX1_ownAmps_X1_coldAmps : GoodIn wsX1_ownAmps (wsV RX1 54 RX1 yX1_coldAmps wsX1_coldAmps) := goodIn_app (goodIn_of _ (by decide +kernel)) ggX1_ownAmps_X1_coldAmps
set_option maxRecDepth 20000 in
theorem ggX1_ownAmps_J9_floorDiv_7cf53 : GoodIn wsX1_ownAmps wsJ9_floorDiv_7cf53 := goodIn_r _ [17] (by decide +kernel) (by decide +kernel)
set_option maxRecDepth 20000 in
theorem gX1_ownAmps_J9_floorDiv_7cf53 : GoodIn wsX1_ownAmps (va_wsS RX1 58 yJ9_floorDiv_7cf53 wsJ9_floorDiv_7cf53) := goodIn_app (goodIn_of _ (by decide +kernel)) ggX1_ownAmps_J9_floorDiv_7cf53
theorem dX1_ownAmps_0 : decode cX1_ownAmps 0 = .ok (.sipush 1000, 3) := by decide +kernel
theorem dX1_ownAmps_3 : decode cX1_ownAmps 3 = .ok (.aload_n 0, 1) := by decide +kernel
theorem dX1_ownAmps_4 : decode cX1_ownAmps 4 = .ok (.getfield 51, 3) := by decide +kernel
theorem dX1_ownAmps_7 : decode cX1_ownAmps 7 = .ok (.aload_n 0, 1) := by decide +kernel
theorem dX1_ownAmps_8 : decode cX1_ownAmps 8 = .ok (.getfield 36, 3) := by decide +kernel
theorem dX1_ownAmps_11 : decode cX1_ownAmps 11 = .ok (.imul, 1) := by decide +kernel
theorem dX1_ownAmps_12 : decode cX1_ownAmps 12 = .ok (.iadd, 1) := by decide +kernel
theorem dX1_ownAmps_13 : decode cX1_ownAmps 13 = .ok (.istore_n 2, 1) := by decide +kernel
theorem dX1_ownAmps_14 : decode cX1_ownAmps 14 = .ok (.aload_n 0, 1) := by decide +kernel
theorem dX1_ownAmps_15 : decode cX1_ownAmps 15 = .ok (.getfield 20, 3) := by decide +kernel
theorem dX1_ownAmps_18 : decode cX1_ownAmps 18 = .ok (.ifCond .ne 8, 3) := by decide +kernel
theorem dX1_ownAmps_21 : decode cX1_ownAmps 21 = .ok (.iload_n 2, 1) := by decide +kernel
theorem dX1_ownAmps_22 : decode cX1_ownAmps 22 = .ok (.iconst 1, 1) := by decide +kernel
theorem dX1_ownAmps_23 : decode cX1_ownAmps 23 = .ok (.if_icmp .ge 5, 3) := by decide +kernel
theorem dX1_ownAmps_26 : decode cX1_ownAmps 26 = .ok (.iconst 0, 1) := by decide +kernel
theorem dX1_ownAmps_27 : decode cX1_ownAmps 27 = .ok (.ireturn, 1) := by decide +kernel
theorem dX1_ownAmps_28 : decode cX1_ownAmps 28 = .ok (.sipush 1000, 3) := by decide +kernel
theorem dX1_ownAmps_31 : decode cX1_ownAmps 31 = .ok (.aload_n 0, 1) := by decide +kernel
theorem dX1_ownAmps_32 : decode cX1_ownAmps 32 = .ok (.iload_n 1, 1) := by decide +kernel
theorem dX1_ownAmps_33 : decode cX1_ownAmps 33 = .ok (.invokevirtual 54, 3) := by decide +kernel
theorem dX1_ownAmps_36 : decode cX1_ownAmps 36 = .ok (.imul, 1) := by decide +kernel
theorem dX1_ownAmps_37 : decode cX1_ownAmps 37 = .ok (.iload_n 2, 1) := by decide +kernel
theorem dX1_ownAmps_38 : decode cX1_ownAmps 38 = .ok (.invokestatic 58, 3) := by decide +kernel
theorem dX1_ownAmps_41 : decode cX1_ownAmps 41 = .ok (.ireturn, 1) := by decide +kernel
set_option maxRecDepth 20000 in
theorem ggX1_coldAmps_J9_floorDiv_7cf53 : GoodIn wsX1_coldAmps wsJ9_floorDiv_7cf53 := goodIn_r _ [9] (by decide +kernel) (by decide +kernel)
set_option maxRecDepth 20000 in
theorem gX1_coldAmps_J9_floorDiv_7cf53 : GoodIn wsX1_coldAmps (va_wsS RX1 58 yJ9_floorDiv_7cf53 wsJ9_floorDiv_7cf53) := goodIn_app (goodIn_of _ (by decide +kernel)) ggX1_coldAmps_J9_floorDiv_7cf53
theorem dX1_coldAmps_0 : decode cX1_coldAmps 0 = .ok (.aload_n 0, 1) := by decide +kernel
theorem dX1_coldAmps_1 : decode cX1_coldAmps 1 = .ok (.getfield 33, 3) := by decide +kernel
theorem dX1_coldAmps_4 : decode cX1_coldAmps 4 = .ok (.ifCond .eq 18, 3) := by decide +kernel
theorem dX1_coldAmps_7 : decode cX1_coldAmps 7 = .ok (.aload_n 0, 1) := by decide +kernel
theorem dX1_coldAmps_8 : decode cX1_coldAmps 8 = .ok (.getfield 33, 3) := by decide +kernel
theorem dX1_coldAmps_11 : decode cX1_coldAmps 11 = .ok (.iconst 3, 1) := by decide +kernel
theorem dX1_coldAmps_12 : decode cX1_coldAmps 12 = .ok (.if_icmp .ne 23, 3) := by decide +kernel
theorem dX1_coldAmps_15 : decode cX1_coldAmps 15 = .ok (.aload_n 0, 1) := by decide +kernel
theorem dX1_coldAmps_16 : decode cX1_coldAmps 16 = .ok (.getfield 23, 3) := by decide +kernel
theorem dX1_coldAmps_19 : decode cX1_coldAmps 19 = .ok (.ifCond .eq 16, 3) := by decide +kernel
theorem dX1_coldAmps_22 : decode cX1_coldAmps 22 = .ok (.iload_n 1, 1) := by decide +kernel
theorem dX1_coldAmps_23 : decode cX1_coldAmps 23 = .ok (.aload_n 0, 1) := by decide +kernel
theorem dX1_coldAmps_24 : decode cX1_coldAmps 24 = .ok (.getfield 39, 3) := by decide +kernel
theorem dX1_coldAmps_27 : decode cX1_coldAmps 27 = .ok (.imul, 1) := by decide +kernel
theorem dX1_coldAmps_28 : decode cX1_coldAmps 28 = .ok (.sipush 1000, 3) := by decide +kernel
theorem dX1_coldAmps_31 : decode cX1_coldAmps 31 = .ok (.invokestatic 58, 3) := by decide +kernel
theorem dX1_coldAmps_34 : decode cX1_coldAmps 34 = .ok (.ireturn, 1) := by decide +kernel
theorem dX1_coldAmps_35 : decode cX1_coldAmps 35 = .ok (.iload_n 1, 1) := by decide +kernel
theorem dX1_coldAmps_36 : decode cX1_coldAmps 36 = .ok (.aload_n 0, 1) := by decide +kernel
theorem dX1_coldAmps_37 : decode cX1_coldAmps 37 = .ok (.getfield 45, 3) := by decide +kernel
theorem dX1_coldAmps_40 : decode cX1_coldAmps 40 = .ok (.imul, 1) := by decide +kernel
theorem dX1_coldAmps_41 : decode cX1_coldAmps 41 = .ok (.sipush 1000, 3) := by decide +kernel
theorem dX1_coldAmps_44 : decode cX1_coldAmps 44 = .ok (.invokestatic 58, 3) := by decide +kernel
theorem dX1_coldAmps_47 : decode cX1_coldAmps 47 = .ok (.istore_n 2, 1) := by decide +kernel
theorem dX1_coldAmps_48 : decode cX1_coldAmps 48 = .ok (.iload_n 1, 1) := by decide +kernel
theorem dX1_coldAmps_49 : decode cX1_coldAmps 49 = .ok (.aload_n 0, 1) := by decide +kernel
theorem dX1_coldAmps_50 : decode cX1_coldAmps 50 = .ok (.getfield 42, 3) := by decide +kernel
theorem dX1_coldAmps_53 : decode cX1_coldAmps 53 = .ok (.if_icmp .le 31, 3) := by decide +kernel
theorem dX1_coldAmps_56 : decode cX1_coldAmps 56 = .ok (.aload_n 0, 1) := by decide +kernel
theorem dX1_coldAmps_57 : decode cX1_coldAmps 57 = .ok (.getfield 33, 3) := by decide +kernel
theorem dX1_coldAmps_60 : decode cX1_coldAmps 60 = .ok (.iconst 3, 1) := by decide +kernel
theorem dX1_coldAmps_61 : decode cX1_coldAmps 61 = .ok (.if_icmp .eq 23, 3) := by decide +kernel
theorem dX1_coldAmps_64 : decode cX1_coldAmps 64 = .ok (.iload_n 2, 1) := by decide +kernel
theorem dX1_coldAmps_65 : decode cX1_coldAmps 65 = .ok (.iload_n 1, 1) := by decide +kernel
theorem dX1_coldAmps_66 : decode cX1_coldAmps 66 = .ok (.aload_n 0, 1) := by decide +kernel
theorem dX1_coldAmps_67 : decode cX1_coldAmps 67 = .ok (.getfield 42, 3) := by decide +kernel
theorem dX1_coldAmps_70 : decode cX1_coldAmps 70 = .ok (.isub, 1) := by decide +kernel
theorem dX1_coldAmps_71 : decode cX1_coldAmps 71 = .ok (.aload_n 0, 1) := by decide +kernel
theorem dX1_coldAmps_72 : decode cX1_coldAmps 72 = .ok (.getfield 39, 3) := by decide +kernel
theorem dX1_coldAmps_75 : decode cX1_coldAmps 75 = .ok (.imul, 1) := by decide +kernel
theorem dX1_coldAmps_76 : decode cX1_coldAmps 76 = .ok (.sipush 1000, 3) := by decide +kernel
theorem dX1_coldAmps_79 : decode cX1_coldAmps 79 = .ok (.invokestatic 58, 3) := by decide +kernel
theorem dX1_coldAmps_82 : decode cX1_coldAmps 82 = .ok (.iadd, 1) := by decide +kernel
theorem dX1_coldAmps_83 : decode cX1_coldAmps 83 = .ok (.istore_n 2, 1) := by decide +kernel
theorem dX1_coldAmps_84 : decode cX1_coldAmps 84 = .ok (.iload_n 1, 1) := by decide +kernel
theorem dX1_coldAmps_85 : decode cX1_coldAmps 85 = .ok (.aload_n 0, 1) := by decide +kernel
theorem dX1_coldAmps_86 : decode cX1_coldAmps 86 = .ok (.getfield 42, 3) := by decide +kernel
theorem dX1_coldAmps_89 : decode cX1_coldAmps 89 = .ok (.ineg, 1) := by decide +kernel
theorem dX1_coldAmps_90 : decode cX1_coldAmps 90 = .ok (.if_icmp .ge 31, 3) := by decide +kernel
theorem dX1_coldAmps_93 : decode cX1_coldAmps 93 = .ok (.aload_n 0, 1) := by decide +kernel
theorem dX1_coldAmps_94 : decode cX1_coldAmps 94 = .ok (.getfield 33, 3) := by decide +kernel
theorem dX1_coldAmps_97 : decode cX1_coldAmps 97 = .ok (.iconst 2, 1) := by decide +kernel
theorem dX1_coldAmps_98 : decode cX1_coldAmps 98 = .ok (.if_icmp .ne 23, 3) := by decide +kernel
theorem dX1_coldAmps_101 : decode cX1_coldAmps 101 = .ok (.iload_n 2, 1) := by decide +kernel
theorem dX1_coldAmps_102 : decode cX1_coldAmps 102 = .ok (.iload_n 1, 1) := by decide +kernel
theorem dX1_coldAmps_103 : decode cX1_coldAmps 103 = .ok (.aload_n 0, 1) := by decide +kernel
theorem dX1_coldAmps_104 : decode cX1_coldAmps 104 = .ok (.getfield 42, 3) := by decide +kernel
theorem dX1_coldAmps_107 : decode cX1_coldAmps 107 = .ok (.iadd, 1) := by decide +kernel
theorem dX1_coldAmps_108 : decode cX1_coldAmps 108 = .ok (.aload_n 0, 1) := by decide +kernel
theorem dX1_coldAmps_109 : decode cX1_coldAmps 109 = .ok (.getfield 39, 3) := by decide +kernel
theorem dX1_coldAmps_112 : decode cX1_coldAmps 112 = .ok (.imul, 1) := by decide +kernel
theorem dX1_coldAmps_113 : decode cX1_coldAmps 113 = .ok (.sipush 1000, 3) := by decide +kernel
theorem dX1_coldAmps_116 : decode cX1_coldAmps 116 = .ok (.invokestatic 58, 3) := by decide +kernel
theorem dX1_coldAmps_119 : decode cX1_coldAmps 119 = .ok (.iadd, 1) := by decide +kernel
theorem dX1_coldAmps_120 : decode cX1_coldAmps 120 = .ok (.istore_n 2, 1) := by decide +kernel
theorem dX1_coldAmps_121 : decode cX1_coldAmps 121 = .ok (.iload_n 2, 1) := by decide +kernel
theorem dX1_coldAmps_122 : decode cX1_coldAmps 122 = .ok (.ireturn, 1) := by decide +kernel
theorem dX1_snapsOpenAt_0 : decode cX1_snapsOpenAt 0 = .ok (.aload_n 0, 1) := by decide +kernel
theorem dX1_snapsOpenAt_1 : decode cX1_snapsOpenAt 1 = .ok (.getfield 33, 3) := by decide +kernel
theorem dX1_snapsOpenAt_4 : decode cX1_snapsOpenAt 4 = .ok (.iconst 3, 1) := by decide +kernel
theorem dX1_snapsOpenAt_5 : decode cX1_snapsOpenAt 5 = .ok (.if_icmp .ne 29, 3) := by decide +kernel
theorem dX1_snapsOpenAt_8 : decode cX1_snapsOpenAt 8 = .ok (.aload_n 0, 1) := by decide +kernel
theorem dX1_snapsOpenAt_9 : decode cX1_snapsOpenAt 9 = .ok (.getfield 23, 3) := by decide +kernel
theorem dX1_snapsOpenAt_12 : decode cX1_snapsOpenAt 12 = .ok (.ifCond .ne 22, 3) := by decide +kernel
theorem dX1_snapsOpenAt_15 : decode cX1_snapsOpenAt 15 = .ok (.aload_n 0, 1) := by decide +kernel
theorem dX1_snapsOpenAt_16 : decode cX1_snapsOpenAt 16 = .ok (.getfield 20, 3) := by decide +kernel
theorem dX1_snapsOpenAt_19 : decode cX1_snapsOpenAt 19 = .ok (.ifCond .ne 15, 3) := by decide +kernel
theorem dX1_snapsOpenAt_22 : decode cX1_snapsOpenAt 22 = .ok (.iload_n 1, 1) := by decide +kernel
theorem dX1_snapsOpenAt_23 : decode cX1_snapsOpenAt 23 = .ok (.aload_n 0, 1) := by decide +kernel
theorem dX1_snapsOpenAt_24 : decode cX1_snapsOpenAt 24 = .ok (.getfield 42, 3) := by decide +kernel
theorem dX1_snapsOpenAt_27 : decode cX1_snapsOpenAt 27 = .ok (.if_icmp .lt 7, 3) := by decide +kernel
theorem dX1_snapsOpenAt_30 : decode cX1_snapsOpenAt 30 = .ok (.iconst 1, 1) := by decide +kernel
theorem dX1_snapsOpenAt_31 : decode cX1_snapsOpenAt 31 = .ok (.goto 4, 3) := by decide +kernel
theorem dX1_snapsOpenAt_34 : decode cX1_snapsOpenAt 34 = .ok (.iconst 0, 1) := by decide +kernel
theorem dX1_snapsOpenAt_35 : decode cX1_snapsOpenAt 35 = .ok (.ireturn, 1) := by decide +kernel
theorem dX1_shutBelow_0 : decode cX1_shutBelow 0 = .ok (.aload_n 0, 1) := by decide +kernel
theorem dX1_shutBelow_1 : decode cX1_shutBelow 1 = .ok (.getfield 33, 3) := by decide +kernel
theorem dX1_shutBelow_4 : decode cX1_shutBelow 4 = .ok (.iconst 3, 1) := by decide +kernel
theorem dX1_shutBelow_5 : decode cX1_shutBelow 5 = .ok (.if_icmp .ne 23, 3) := by decide +kernel
theorem dX1_shutBelow_8 : decode cX1_shutBelow 8 = .ok (.aload_n 0, 1) := by decide +kernel
theorem dX1_shutBelow_9 : decode cX1_shutBelow 9 = .ok (.getfield 23, 3) := by decide +kernel
theorem dX1_shutBelow_12 : decode cX1_shutBelow 12 = .ok (.ifCond .eq 16, 3) := by decide +kernel
theorem dX1_shutBelow_15 : decode cX1_shutBelow 15 = .ok (.iload_n 1, 1) := by decide +kernel
theorem dX1_shutBelow_16 : decode cX1_shutBelow 16 = .ok (.aload_n 0, 1) := by decide +kernel
theorem dX1_shutBelow_17 : decode cX1_shutBelow 17 = .ok (.getfield 48, 3) := by decide +kernel
theorem dX1_shutBelow_20 : decode cX1_shutBelow 20 = .ok (.if_icmp .ge 8, 3) := by decide +kernel
theorem dX1_shutBelow_23 : decode cX1_shutBelow 23 = .ok (.aload_n 0, 1) := by decide +kernel
theorem dX1_shutBelow_24 : decode cX1_shutBelow 24 = .ok (.iconst 0, 1) := by decide +kernel
theorem dX1_shutBelow_25 : decode cX1_shutBelow 25 = .ok (.putfield 23, 3) := by decide +kernel
theorem dX1_shutBelow_28 : decode cX1_shutBelow 28 = .ok (.return_, 1) := by decide +kernel
theorem dX1_warm_0 : decode cX1_warm 0 = .ok (.iload_n 1, 1) := by decide +kernel
theorem dX1_warm_1 : decode cX1_warm 1 = .ok (.i2l, 1) := by decide +kernel
theorem dX1_warm_2 : decode cX1_warm 2 = .ok (.iload_n 2, 1) := by decide +kernel
theorem dX1_warm_3 : decode cX1_warm 3 = .ok (.i2l, 1) := by decide +kernel
theorem dX1_warm_4 : decode cX1_warm 4 = .ok (.lmul, 1) := by decide +kernel
theorem dX1_warm_5 : decode cX1_warm 5 = .ok (.iload_n 3, 1) := by decide +kernel
theorem dX1_warm_6 : decode cX1_warm 6 = .ok (.i2l, 1) := by decide +kernel
theorem dX1_warm_7 : decode cX1_warm 7 = .ok (.lmul, 1) := by decide +kernel
theorem dX1_warm_8 : decode cX1_warm 8 = .ok (.invokestatic 64, 3) := by decide +kernel
theorem dX1_warm_11 : decode cX1_warm 11 = .ok (.lstore 4, 2) := by decide +kernel
theorem dX1_warm_13 : decode cX1_warm 13 = .ok (.aload_n 0, 1) := by decide +kernel
theorem dX1_warm_14 : decode cX1_warm 14 = .ok (.getfield 36, 3) := by decide +kernel
theorem dX1_warm_17 : decode cX1_warm 17 = .ok (.lload 4, 2) := by decide +kernel
theorem dX1_warm_19 : decode cX1_warm 19 = .ok (.ldc2_w 68, 3) := by decide +kernel
theorem dX1_warm_22 : decode cX1_warm 22 = .ok (.ldiv, 1) := by decide +kernel
theorem dX1_warm_23 : decode cX1_warm 23 = .ok (.l2i, 1) := by decide +kernel
theorem dX1_warm_24 : decode cX1_warm 24 = .ok (.iadd, 1) := by decide +kernel
theorem dX1_warm_25 : decode cX1_warm 25 = .ok (.istore 6, 2) := by decide +kernel
theorem dX1_warm_27 : decode cX1_warm 27 = .ok (.aload_n 0, 1) := by decide +kernel
theorem dX1_warm_28 : decode cX1_warm 28 = .ok (.iload 6, 2) := by decide +kernel
theorem dX1_warm_30 : decode cX1_warm 30 = .ok (.sipush 1000, 3) := by decide +kernel
theorem dX1_warm_33 : decode cX1_warm 33 = .ok (.invokestatic 70, 3) := by decide +kernel
theorem dX1_warm_36 : decode cX1_warm 36 = .ok (.putfield 36, 3) := by decide +kernel
theorem dX1_warm_39 : decode cX1_warm 39 = .ok (.iload 6, 2) := by decide +kernel
theorem dX1_warm_41 : decode cX1_warm 41 = .ok (.sipush 1000, 3) := by decide +kernel
theorem dX1_warm_44 : decode cX1_warm 44 = .ok (.if_icmp .lt 10, 3) := by decide +kernel
theorem dX1_warm_47 : decode cX1_warm 47 = .ok (.aload_n 0, 1) := by decide +kernel
theorem dX1_warm_48 : decode cX1_warm 48 = .ok (.getfield 20, 3) := by decide +kernel
theorem dX1_warm_51 : decode cX1_warm 51 = .ok (.ifCond .eq 5, 3) := by decide +kernel
theorem dX1_warm_54 : decode cX1_warm 54 = .ok (.iconst 0, 1) := by decide +kernel
theorem dX1_warm_55 : decode cX1_warm 55 = .ok (.ireturn, 1) := by decide +kernel
theorem dX1_warm_56 : decode cX1_warm 56 = .ok (.aload_n 0, 1) := by decide +kernel
theorem dX1_warm_57 : decode cX1_warm 57 = .ok (.iconst 1, 1) := by decide +kernel
theorem dX1_warm_58 : decode cX1_warm 58 = .ok (.putfield 20, 3) := by decide +kernel
theorem dX1_warm_61 : decode cX1_warm 61 = .ok (.iload 6, 2) := by decide +kernel
theorem dX1_warm_63 : decode cX1_warm 63 = .ok (.sipush 999, 3) := by decide +kernel
theorem dX1_warm_66 : decode cX1_warm 66 = .ok (.isub, 1) := by decide +kernel
theorem dX1_warm_67 : decode cX1_warm 67 = .ok (.ireturn, 1) := by decide +kernel
theorem dX1_cool_0 : decode cX1_cool 0 = .ok (.iconst 0, 1) := by decide +kernel
theorem dX1_cool_1 : decode cX1_cool 1 = .ok (.istore_n 2, 1) := by decide +kernel
theorem dX1_cool_2 : decode cX1_cool 2 = .ok (.iload_n 2, 1) := by decide +kernel
theorem dX1_cool_3 : decode cX1_cool 3 = .ok (.iload_n 1, 1) := by decide +kernel
theorem dX1_cool_4 : decode cX1_cool 4 = .ok (.if_icmp .ge 28, 3) := by decide +kernel
theorem dX1_cool_7 : decode cX1_cool 7 = .ok (.aload_n 0, 1) := by decide +kernel
theorem dX1_cool_8 : decode cX1_cool 8 = .ok (.dup, 1) := by decide +kernel
theorem dX1_cool_9 : decode cX1_cool 9 = .ok (.getfield 36, 3) := by decide +kernel
theorem dX1_cool_12 : decode cX1_cool 12 = .ok (.aload_n 0, 1) := by decide +kernel
theorem dX1_cool_13 : decode cX1_cool 13 = .ok (.getfield 36, 3) := by decide +kernel
theorem dX1_cool_16 : decode cX1_cool 16 = .ok (.bipush 15, 2) := by decide +kernel
theorem dX1_cool_18 : decode cX1_cool 18 = .ok (.iadd, 1) := by decide +kernel
theorem dX1_cool_19 : decode cX1_cool 19 = .ok (.bipush 16, 2) := by decide +kernel
theorem dX1_cool_21 : decode cX1_cool 21 = .ok (.idiv, 1) := by decide +kernel
theorem dX1_cool_22 : decode cX1_cool 22 = .ok (.isub, 1) := by decide +kernel
theorem dX1_cool_23 : decode cX1_cool 23 = .ok (.putfield 36, 3) := by decide +kernel
theorem dX1_cool_26 : decode cX1_cool 26 = .ok (.iinc 2 1, 3) := by decide +kernel
theorem dX1_cool_29 : decode cX1_cool 29 = .ok (.goto (-27), 3) := by decide +kernel
theorem dX1_cool_32 : decode cX1_cool 32 = .ok (.return_, 1) := by decide +kernel
theorem dX2_init_0 : decode cX2_init 0 = .ok (.aload_n 0, 1) := by decide +kernel
theorem dX2_init_1 : decode cX2_init 1 = .ok (.invokespecial 3, 3) := by decide +kernel
theorem dX2_init_4 : decode cX2_init 4 = .ok (.aload_n 0, 1) := by decide +kernel
theorem dX2_init_5 : decode cX2_init 5 = .ok (.bipush 60, 2) := by decide +kernel
theorem dX2_init_7 : decode cX2_init 7 = .ok (.newarray .int, 2) := by decide +kernel
theorem dX2_init_9 : decode cX2_init 9 = .ok (.putfield 11, 3) := by decide +kernel
theorem dX2_init_12 : decode cX2_init 12 = .ok (.aload_n 0, 1) := by decide +kernel
theorem dX2_init_13 : decode cX2_init 13 = .ok (.bipush 60, 2) := by decide +kernel
theorem dX2_init_15 : decode cX2_init 15 = .ok (.newarray .int, 2) := by decide +kernel
theorem dX2_init_17 : decode cX2_init 17 = .ok (.putfield 15, 3) := by decide +kernel
theorem dX2_init_20 : decode cX2_init 20 = .ok (.aload_n 0, 1) := by decide +kernel
theorem dX2_init_21 : decode cX2_init 21 = .ok (.bipush 60, 2) := by decide +kernel
theorem dX2_init_23 : decode cX2_init 23 = .ok (.newarray .int, 2) := by decide +kernel
theorem dX2_init_25 : decode cX2_init 25 = .ok (.putfield 18, 3) := by decide +kernel
theorem dX2_init_28 : decode cX2_init 28 = .ok (.aload_n 0, 1) := by decide +kernel
theorem dX2_init_29 : decode cX2_init 29 = .ok (.bipush 60, 2) := by decide +kernel
theorem dX2_init_31 : decode cX2_init 31 = .ok (.newarray .int, 2) := by decide +kernel
theorem dX2_init_33 : decode cX2_init 33 = .ok (.putfield 21, 3) := by decide +kernel
theorem dX2_init_36 : decode cX2_init 36 = .ok (.aload_n 0, 1) := by decide +kernel
theorem dX2_init_37 : decode cX2_init 37 = .ok (.iconst 0, 1) := by decide +kernel
theorem dX2_init_38 : decode cX2_init 38 = .ok (.putfield 24, 3) := by decide +kernel
theorem dX2_init_41 : decode cX2_init 41 = .ok (.return_, 1) := by decide +kernel
theorem dX2_has_0 : decode cX2_has 0 = .ok (.iload_n 1, 1) := by decide +kernel
theorem dX2_has_1 : decode cX2_has 1 = .ok (.ifCond .lt 15, 3) := by decide +kernel
theorem dX2_has_4 : decode cX2_has 4 = .ok (.iload_n 1, 1) := by decide +kernel
theorem dX2_has_5 : decode cX2_has 5 = .ok (.aload_n 0, 1) := by decide +kernel
theorem dX2_has_6 : decode cX2_has 6 = .ok (.getfield 24, 3) := by decide +kernel
theorem dX2_has_9 : decode cX2_has 9 = .ok (.if_icmp .ge 7, 3) := by decide +kernel
theorem dX2_has_12 : decode cX2_has 12 = .ok (.iconst 1, 1) := by decide +kernel
theorem dX2_has_13 : decode cX2_has 13 = .ok (.goto 4, 3) := by decide +kernel
theorem dX2_has_16 : decode cX2_has 16 = .ok (.iconst 0, 1) := by decide +kernel
theorem dX2_has_17 : decode cX2_has 17 = .ok (.ireturn, 1) := by decide +kernel
theorem dX2_room_0 : decode cX2_room 0 = .ok (.bipush 60, 2) := by decide +kernel
theorem dX2_room_2 : decode cX2_room 2 = .ok (.aload_n 0, 1) := by decide +kernel
theorem dX2_room_3 : decode cX2_room 3 = .ok (.getfield 24, 3) := by decide +kernel
theorem dX2_room_6 : decode cX2_room 6 = .ok (.isub, 1) := by decide +kernel
theorem dX2_room_7 : decode cX2_room 7 = .ok (.ireturn, 1) := by decide +kernel
set_option maxRecDepth 20000 in
theorem ggX2_add_X2_room : GoodIn wsX2_add wsX2_room := goodIn_r _ [10, 2, 11, 12, 13, 14, 15] (by decide +kernel) (by decide +kernel)
set_option maxRecDepth 20000 in
theorem gX2_add_X2_room : GoodIn wsX2_add (wsV RX2 28 RX2 yX2_room wsX2_room) := goodIn_app (goodIn_of _ (by decide +kernel)) ggX2_add_X2_room
theorem dX2_add_0 : decode cX2_add 0 = .ok (.aload_n 0, 1) := by decide +kernel
theorem dX2_add_1 : decode cX2_add 1 = .ok (.invokevirtual 28, 3) := by decide +kernel
theorem dX2_add_4 : decode cX2_add 4 = .ok (.iconst 1, 1) := by decide +kernel
theorem dX2_add_5 : decode cX2_add 5 = .ok (.if_icmp .ge 4, 3) := by decide +kernel
theorem dX2_add_8 : decode cX2_add 8 = .ok (.return_, 1) := by decide +kernel
theorem dX2_add_9 : decode cX2_add 9 = .ok (.aload_n 0, 1) := by decide +kernel
theorem dX2_add_10 : decode cX2_add 10 = .ok (.getfield 11, 3) := by decide +kernel
theorem dX2_add_13 : decode cX2_add 13 = .ok (.aload_n 0, 1) := by decide +kernel
theorem dX2_add_14 : decode cX2_add 14 = .ok (.getfield 24, 3) := by decide +kernel
theorem dX2_add_17 : decode cX2_add 17 = .ok (.iload_n 1, 1) := by decide +kernel
theorem dX2_add_18 : decode cX2_add 18 = .ok (.iastore, 1) := by decide +kernel
theorem dX2_add_19 : decode cX2_add 19 = .ok (.aload_n 0, 1) := by decide +kernel
theorem dX2_add_20 : decode cX2_add 20 = .ok (.getfield 15, 3) := by decide +kernel
theorem dX2_add_23 : decode cX2_add 23 = .ok (.aload_n 0, 1) := by decide +kernel
theorem dX2_add_24 : decode cX2_add 24 = .ok (.getfield 24, 3) := by decide +kernel
theorem dX2_add_27 : decode cX2_add 27 = .ok (.iload_n 2, 1) := by decide +kernel
theorem dX2_add_28 : decode cX2_add 28 = .ok (.iastore, 1) := by decide +kernel
theorem dX2_add_29 : decode cX2_add 29 = .ok (.aload_n 0, 1) := by decide +kernel
theorem dX2_add_30 : decode cX2_add 30 = .ok (.getfield 18, 3) := by decide +kernel
theorem dX2_add_33 : decode cX2_add 33 = .ok (.aload_n 0, 1) := by decide +kernel
theorem dX2_add_34 : decode cX2_add 34 = .ok (.getfield 24, 3) := by decide +kernel
theorem dX2_add_37 : decode cX2_add 37 = .ok (.iload_n 3, 1) := by decide +kernel
theorem dX2_add_38 : decode cX2_add 38 = .ok (.iastore, 1) := by decide +kernel
theorem dX2_add_39 : decode cX2_add 39 = .ok (.aload_n 0, 1) := by decide +kernel
theorem dX2_add_40 : decode cX2_add 40 = .ok (.getfield 21, 3) := by decide +kernel
theorem dX2_add_43 : decode cX2_add 43 = .ok (.aload_n 0, 1) := by decide +kernel
theorem dX2_add_44 : decode cX2_add 44 = .ok (.getfield 24, 3) := by decide +kernel
theorem dX2_add_47 : decode cX2_add 47 = .ok (.iload 4, 2) := by decide +kernel
theorem dX2_add_49 : decode cX2_add 49 = .ok (.iastore, 1) := by decide +kernel
theorem dX2_add_50 : decode cX2_add 50 = .ok (.aload_n 0, 1) := by decide +kernel
theorem dX2_add_51 : decode cX2_add 51 = .ok (.dup, 1) := by decide +kernel
theorem dX2_add_52 : decode cX2_add 52 = .ok (.getfield 24, 3) := by decide +kernel
theorem dX2_add_55 : decode cX2_add 55 = .ok (.iconst 1, 1) := by decide +kernel
theorem dX2_add_56 : decode cX2_add 56 = .ok (.iadd, 1) := by decide +kernel
theorem dX2_add_57 : decode cX2_add 57 = .ok (.putfield 24, 3) := by decide +kernel
theorem dX2_add_60 : decode cX2_add 60 = .ok (.return_, 1) := by decide +kernel
theorem dX2_withRule_0 : decode cX2_withRule 0 = .ok (.iconst 0, 1) := by decide +kernel
theorem dX2_withRule_1 : decode cX2_withRule 1 = .ok (.istore_n 2, 1) := by decide +kernel
theorem dX2_withRule_2 : decode cX2_withRule 2 = .ok (.iconst 0, 1) := by decide +kernel
theorem dX2_withRule_3 : decode cX2_withRule 3 = .ok (.istore_n 3, 1) := by decide +kernel
theorem dX2_withRule_4 : decode cX2_withRule 4 = .ok (.iload_n 3, 1) := by decide +kernel
theorem dX2_withRule_5 : decode cX2_withRule 5 = .ok (.aload_n 0, 1) := by decide +kernel
theorem dX2_withRule_6 : decode cX2_withRule 6 = .ok (.getfield 24, 3) := by decide +kernel
theorem dX2_withRule_9 : decode cX2_withRule 9 = .ok (.if_icmp .ge 22, 3) := by decide +kernel
theorem dX2_withRule_12 : decode cX2_withRule 12 = .ok (.aload_n 0, 1) := by decide +kernel
theorem dX2_withRule_13 : decode cX2_withRule 13 = .ok (.getfield 21, 3) := by decide +kernel
theorem dX2_withRule_16 : decode cX2_withRule 16 = .ok (.iload_n 3, 1) := by decide +kernel
theorem dX2_withRule_17 : decode cX2_withRule 17 = .ok (.iaload, 1) := by decide +kernel
theorem dX2_withRule_18 : decode cX2_withRule 18 = .ok (.iload_n 1, 1) := by decide +kernel
theorem dX2_withRule_19 : decode cX2_withRule 19 = .ok (.if_icmp .ne 6, 3) := by decide +kernel
theorem dX2_withRule_22 : decode cX2_withRule 22 = .ok (.iinc 2 1, 3) := by decide +kernel
theorem dX2_withRule_25 : decode cX2_withRule 25 = .ok (.iinc 3 1, 3) := by decide +kernel
theorem dX2_withRule_28 : decode cX2_withRule 28 = .ok (.goto (-24), 3) := by decide +kernel
theorem dX2_withRule_31 : decode cX2_withRule 31 = .ok (.iload_n 2, 1) := by decide +kernel
theorem dX2_withRule_32 : decode cX2_withRule 32 = .ok (.ireturn, 1) := by decide +kernel
theorem dX2_kneePoint_0 : decode cX2_kneePoint 0 = .ok (.bipush (-9), 2) := by decide +kernel
theorem dX2_kneePoint_2 : decode cX2_kneePoint 2 = .ok (.istore_n 3, 1) := by decide +kernel
theorem dX2_kneePoint_3 : decode cX2_kneePoint 3 = .ok (.lconst 0, 1) := by decide +kernel
theorem dX2_kneePoint_4 : decode cX2_kneePoint 4 = .ok (.lstore 4, 2) := by decide +kernel
theorem dX2_kneePoint_6 : decode cX2_kneePoint 6 = .ok (.aload_n 0, 1) := by decide +kernel
theorem dX2_kneePoint_7 : decode cX2_kneePoint 7 = .ok (.getfield 15, 3) := by decide +kernel
theorem dX2_kneePoint_10 : decode cX2_kneePoint 10 = .ok (.iload_n 2, 1) := by decide +kernel
theorem dX2_kneePoint_11 : decode cX2_kneePoint 11 = .ok (.iaload, 1) := by decide +kernel
theorem dX2_kneePoint_12 : decode cX2_kneePoint 12 = .ok (.aload_n 0, 1) := by decide +kernel
theorem dX2_kneePoint_13 : decode cX2_kneePoint 13 = .ok (.getfield 15, 3) := by decide +kernel
theorem dX2_kneePoint_16 : decode cX2_kneePoint 16 = .ok (.iload_n 1, 1) := by decide +kernel
theorem dX2_kneePoint_17 : decode cX2_kneePoint 17 = .ok (.iaload, 1) := by decide +kernel
theorem dX2_kneePoint_18 : decode cX2_kneePoint 18 = .ok (.isub, 1) := by decide +kernel
theorem dX2_kneePoint_19 : decode cX2_kneePoint 19 = .ok (.i2l, 1) := by decide +kernel
theorem dX2_kneePoint_20 : decode cX2_kneePoint 20 = .ok (.lstore 6, 2) := by decide +kernel
theorem dX2_kneePoint_22 : decode cX2_kneePoint 22 = .ok (.aload_n 0, 1) := by decide +kernel
theorem dX2_kneePoint_23 : decode cX2_kneePoint 23 = .ok (.getfield 18, 3) := by decide +kernel
theorem dX2_kneePoint_26 : decode cX2_kneePoint 26 = .ok (.iload_n 2, 1) := by decide +kernel
theorem dX2_kneePoint_27 : decode cX2_kneePoint 27 = .ok (.iaload, 1) := by decide +kernel
theorem dX2_kneePoint_28 : decode cX2_kneePoint 28 = .ok (.aload_n 0, 1) := by decide +kernel
theorem dX2_kneePoint_29 : decode cX2_kneePoint 29 = .ok (.getfield 18, 3) := by decide +kernel
theorem dX2_kneePoint_32 : decode cX2_kneePoint 32 = .ok (.iload_n 1, 1) := by decide +kernel
theorem dX2_kneePoint_33 : decode cX2_kneePoint 33 = .ok (.iaload, 1) := by decide +kernel
theorem dX2_kneePoint_34 : decode cX2_kneePoint 34 = .ok (.isub, 1) := by decide +kernel
theorem dX2_kneePoint_35 : decode cX2_kneePoint 35 = .ok (.i2l, 1) := by decide +kernel
theorem dX2_kneePoint_36 : decode cX2_kneePoint 36 = .ok (.lstore 8, 2) := by decide +kernel
theorem dX2_kneePoint_38 : decode cX2_kneePoint 38 = .ok (.iload_n 1, 1) := by decide +kernel
theorem dX2_kneePoint_39 : decode cX2_kneePoint 39 = .ok (.istore 10, 2) := by decide +kernel
theorem dX2_kneePoint_41 : decode cX2_kneePoint 41 = .ok (.iload 10, 2) := by decide +kernel
theorem dX2_kneePoint_43 : decode cX2_kneePoint 43 = .ok (.iload_n 2, 1) := by decide +kernel
theorem dX2_kneePoint_44 : decode cX2_kneePoint 44 = .ok (.if_icmp .gt 66, 3) := by decide +kernel
theorem dX2_kneePoint_47 : decode cX2_kneePoint 47 = .ok (.aload_n 0, 1) := by decide +kernel
theorem dX2_kneePoint_48 : decode cX2_kneePoint 48 = .ok (.getfield 15, 3) := by decide +kernel
theorem dX2_kneePoint_51 : decode cX2_kneePoint 51 = .ok (.iload 10, 2) := by decide +kernel
theorem dX2_kneePoint_53 : decode cX2_kneePoint 53 = .ok (.iaload, 1) := by decide +kernel
theorem dX2_kneePoint_54 : decode cX2_kneePoint 54 = .ok (.aload_n 0, 1) := by decide +kernel
theorem dX2_kneePoint_55 : decode cX2_kneePoint 55 = .ok (.getfield 15, 3) := by decide +kernel
theorem dX2_kneePoint_58 : decode cX2_kneePoint 58 = .ok (.iload_n 1, 1) := by decide +kernel
theorem dX2_kneePoint_59 : decode cX2_kneePoint 59 = .ok (.iaload, 1) := by decide +kernel
theorem dX2_kneePoint_60 : decode cX2_kneePoint 60 = .ok (.isub, 1) := by decide +kernel
theorem dX2_kneePoint_61 : decode cX2_kneePoint 61 = .ok (.i2l, 1) := by decide +kernel
theorem dX2_kneePoint_62 : decode cX2_kneePoint 62 = .ok (.lload 8, 2) := by decide +kernel
theorem dX2_kneePoint_64 : decode cX2_kneePoint 64 = .ok (.lmul, 1) := by decide +kernel
theorem dX2_kneePoint_65 : decode cX2_kneePoint 65 = .ok (.aload_n 0, 1) := by decide +kernel
theorem dX2_kneePoint_66 : decode cX2_kneePoint 66 = .ok (.getfield 18, 3) := by decide +kernel
theorem dX2_kneePoint_69 : decode cX2_kneePoint 69 = .ok (.iload 10, 2) := by decide +kernel
theorem dX2_kneePoint_71 : decode cX2_kneePoint 71 = .ok (.iaload, 1) := by decide +kernel
theorem dX2_kneePoint_72 : decode cX2_kneePoint 72 = .ok (.aload_n 0, 1) := by decide +kernel
theorem dX2_kneePoint_73 : decode cX2_kneePoint 73 = .ok (.getfield 18, 3) := by decide +kernel
theorem dX2_kneePoint_76 : decode cX2_kneePoint 76 = .ok (.iload_n 1, 1) := by decide +kernel
theorem dX2_kneePoint_77 : decode cX2_kneePoint 77 = .ok (.iaload, 1) := by decide +kernel
theorem dX2_kneePoint_78 : decode cX2_kneePoint 78 = .ok (.isub, 1) := by decide +kernel
theorem dX2_kneePoint_79 : decode cX2_kneePoint 79 = .ok (.i2l, 1) := by decide +kernel
theorem dX2_kneePoint_80 : decode cX2_kneePoint 80 = .ok (.lload 6, 2) := by decide +kernel
theorem dX2_kneePoint_82 : decode cX2_kneePoint 82 = .ok (.lmul, 1) := by decide +kernel
theorem dX2_kneePoint_83 : decode cX2_kneePoint 83 = .ok (.lsub, 1) := by decide +kernel
theorem dX2_kneePoint_84 : decode cX2_kneePoint 84 = .ok (.invokestatic 32, 3) := by decide +kernel
theorem dX2_kneePoint_87 : decode cX2_kneePoint 87 = .ok (.lstore 11, 2) := by decide +kernel
theorem dX2_kneePoint_89 : decode cX2_kneePoint 89 = .ok (.lload 11, 2) := by decide +kernel
theorem dX2_kneePoint_91 : decode cX2_kneePoint 91 = .ok (.lload 4, 2) := by decide +kernel
theorem dX2_kneePoint_93 : decode cX2_kneePoint 93 = .ok (.lcmp, 1) := by decide +kernel
theorem dX2_kneePoint_94 : decode cX2_kneePoint 94 = .ok (.ifCond .le 10, 3) := by decide +kernel
theorem dX2_kneePoint_97 : decode cX2_kneePoint 97 = .ok (.lload 11, 2) := by decide +kernel
theorem dX2_kneePoint_99 : decode cX2_kneePoint 99 = .ok (.lstore 4, 2) := by decide +kernel
theorem dX2_kneePoint_101 : decode cX2_kneePoint 101 = .ok (.iload 10, 2) := by decide +kernel
theorem dX2_kneePoint_103 : decode cX2_kneePoint 103 = .ok (.istore_n 3, 1) := by decide +kernel
theorem dX2_kneePoint_104 : decode cX2_kneePoint 104 = .ok (.iinc 10 1, 3) := by decide +kernel
theorem dX2_kneePoint_107 : decode cX2_kneePoint 107 = .ok (.goto (-66), 3) := by decide +kernel
theorem dX2_kneePoint_110 : decode cX2_kneePoint 110 = .ok (.iload_n 3, 1) := by decide +kernel
theorem dX2_kneePoint_111 : decode cX2_kneePoint 111 = .ok (.ireturn, 1) := by decide +kernel
theorem dX2_greatestGap_0 : decode cX2_greatestGap 0 = .ok (.iconst 0, 1) := by decide +kernel
theorem dX2_greatestGap_1 : decode cX2_greatestGap 1 = .ok (.istore_n 3, 1) := by decide +kernel
theorem dX2_greatestGap_2 : decode cX2_greatestGap 2 = .ok (.iload_n 1, 1) := by decide +kernel
theorem dX2_greatestGap_3 : decode cX2_greatestGap 3 = .ok (.istore 4, 2) := by decide +kernel
theorem dX2_greatestGap_5 : decode cX2_greatestGap 5 = .ok (.iload 4, 2) := by decide +kernel
theorem dX2_greatestGap_7 : decode cX2_greatestGap 7 = .ok (.iload_n 2, 1) := by decide +kernel
theorem dX2_greatestGap_8 : decode cX2_greatestGap 8 = .ok (.if_icmp .ge 67, 3) := by decide +kernel
theorem dX2_greatestGap_11 : decode cX2_greatestGap 11 = .ok (.iload 4, 2) := by decide +kernel
theorem dX2_greatestGap_13 : decode cX2_greatestGap 13 = .ok (.iconst 1, 1) := by decide +kernel
theorem dX2_greatestGap_14 : decode cX2_greatestGap 14 = .ok (.iadd, 1) := by decide +kernel
theorem dX2_greatestGap_15 : decode cX2_greatestGap 15 = .ok (.istore 5, 2) := by decide +kernel
theorem dX2_greatestGap_17 : decode cX2_greatestGap 17 = .ok (.iload 5, 2) := by decide +kernel
theorem dX2_greatestGap_19 : decode cX2_greatestGap 19 = .ok (.iload_n 2, 1) := by decide +kernel
theorem dX2_greatestGap_20 : decode cX2_greatestGap 20 = .ok (.if_icmp .gt 49, 3) := by decide +kernel
theorem dX2_greatestGap_23 : decode cX2_greatestGap 23 = .ok (.aload_n 0, 1) := by decide +kernel
theorem dX2_greatestGap_24 : decode cX2_greatestGap 24 = .ok (.getfield 11, 3) := by decide +kernel
theorem dX2_greatestGap_27 : decode cX2_greatestGap 27 = .ok (.iload 4, 2) := by decide +kernel
theorem dX2_greatestGap_29 : decode cX2_greatestGap 29 = .ok (.iaload, 1) := by decide +kernel
theorem dX2_greatestGap_30 : decode cX2_greatestGap 30 = .ok (.aload_n 0, 1) := by decide +kernel
theorem dX2_greatestGap_31 : decode cX2_greatestGap 31 = .ok (.getfield 11, 3) := by decide +kernel
theorem dX2_greatestGap_34 : decode cX2_greatestGap 34 = .ok (.iload 5, 2) := by decide +kernel
theorem dX2_greatestGap_36 : decode cX2_greatestGap 36 = .ok (.iaload, 1) := by decide +kernel
theorem dX2_greatestGap_37 : decode cX2_greatestGap 37 = .ok (.if_icmp .ne 26, 3) := by decide +kernel
theorem dX2_greatestGap_40 : decode cX2_greatestGap 40 = .ok (.iload_n 3, 1) := by decide +kernel
theorem dX2_greatestGap_41 : decode cX2_greatestGap 41 = .ok (.aload_n 0, 1) := by decide +kernel
theorem dX2_greatestGap_42 : decode cX2_greatestGap 42 = .ok (.getfield 18, 3) := by decide +kernel
theorem dX2_greatestGap_45 : decode cX2_greatestGap 45 = .ok (.iload 4, 2) := by decide +kernel
theorem dX2_greatestGap_47 : decode cX2_greatestGap 47 = .ok (.iaload, 1) := by decide +kernel
theorem dX2_greatestGap_48 : decode cX2_greatestGap 48 = .ok (.aload_n 0, 1) := by decide +kernel
theorem dX2_greatestGap_49 : decode cX2_greatestGap 49 = .ok (.getfield 18, 3) := by decide +kernel
theorem dX2_greatestGap_52 : decode cX2_greatestGap 52 = .ok (.iload 5, 2) := by decide +kernel
theorem dX2_greatestGap_54 : decode cX2_greatestGap 54 = .ok (.iaload, 1) := by decide +kernel
theorem dX2_greatestGap_55 : decode cX2_greatestGap 55 = .ok (.isub, 1) := by decide +kernel
theorem dX2_greatestGap_56 : decode cX2_greatestGap 56 = .ok (.invokestatic 38, 3) := by decide +kernel
theorem dX2_greatestGap_59 : decode cX2_greatestGap 59 = .ok (.invokestatic 41, 3) := by decide +kernel
theorem dX2_greatestGap_62 : decode cX2_greatestGap 62 = .ok (.istore_n 3, 1) := by decide +kernel
theorem dX2_greatestGap_63 : decode cX2_greatestGap 63 = .ok (.iinc 5 1, 3) := by decide +kernel
theorem dX2_greatestGap_66 : decode cX2_greatestGap 66 = .ok (.goto (-49), 3) := by decide +kernel
theorem dX2_greatestGap_69 : decode cX2_greatestGap 69 = .ok (.iinc 4 1, 3) := by decide +kernel
theorem dX2_greatestGap_72 : decode cX2_greatestGap 72 = .ok (.goto (-67), 3) := by decide +kernel
theorem dX2_greatestGap_75 : decode cX2_greatestGap 75 = .ok (.iload_n 3, 1) := by decide +kernel
theorem dX2_greatestGap_76 : decode cX2_greatestGap 76 = .ok (.ireturn, 1) := by decide +kernel
set_option maxRecDepth 20000 in
theorem ggX2_lineFitted_X2_sum : GoodIn wsX2_lineFitted wsX2_sum := goodIn_r _ [7] (by decide +kernel) (by decide +kernel)
set_option maxRecDepth 20000 in
theorem gX2_lineFitted_X2_sum : GoodIn wsX2_lineFitted (va_wsS RX2 45 yX2_sum wsX2_sum) := goodIn_app (goodIn_of _ (by decide +kernel)) ggX2_lineFitted_X2_sum
set_option maxRecDepth 20000 in
theorem ggX2_lineFitted_X2_sumOfProducts : GoodIn wsX2_lineFitted wsX2_sumOfProducts := goodIn_r _ [10] (by decide +kernel) (by decide +kernel)
set_option maxRecDepth 20000 in
theorem gX2_lineFitted_X2_sumOfProducts : GoodIn wsX2_lineFitted (va_wsS RX2 49 yX2_sumOfProducts wsX2_sumOfProducts) := goodIn_app (goodIn_of _ (by decide +kernel)) ggX2_lineFitted_X2_sumOfProducts
set_option maxRecDepth 20000 in
theorem ggX2_lineFitted_X2_ofFraction : GoodIn wsX2_lineFitted wsX2_ofFraction := goodIn_r _ [13, 14, 15, 16, 17, 3, 18, 19, 6, 20] (by decide +kernel) (by decide +kernel)
set_option maxRecDepth 20000 in
theorem gX2_lineFitted_X2_ofFraction : GoodIn wsX2_lineFitted (va_wsS RX2 55 yX2_ofFraction wsX2_ofFraction) := goodIn_app (goodIn_of _ (by decide +kernel)) ggX2_lineFitted_X2_ofFraction
theorem dX2_lineFitted_0 : decode cX2_lineFitted 0 = .ok (.iload_n 2, 1) := by decide +kernel
theorem dX2_lineFitted_1 : decode cX2_lineFitted 1 = .ok (.iload_n 1, 1) := by decide +kernel
theorem dX2_lineFitted_2 : decode cX2_lineFitted 2 = .ok (.isub, 1) := by decide +kernel
theorem dX2_lineFitted_3 : decode cX2_lineFitted 3 = .ok (.iconst 1, 1) := by decide +kernel
theorem dX2_lineFitted_4 : decode cX2_lineFitted 4 = .ok (.iadd, 1) := by decide +kernel
theorem dX2_lineFitted_5 : decode cX2_lineFitted 5 = .ok (.i2l, 1) := by decide +kernel
theorem dX2_lineFitted_6 : decode cX2_lineFitted 6 = .ok (.lstore 4, 2) := by decide +kernel
theorem dX2_lineFitted_8 : decode cX2_lineFitted 8 = .ok (.aload_n 0, 1) := by decide +kernel
theorem dX2_lineFitted_9 : decode cX2_lineFitted 9 = .ok (.getfield 15, 3) := by decide +kernel
theorem dX2_lineFitted_12 : decode cX2_lineFitted 12 = .ok (.iload_n 1, 1) := by decide +kernel
theorem dX2_lineFitted_13 : decode cX2_lineFitted 13 = .ok (.iload_n 2, 1) := by decide +kernel
theorem dX2_lineFitted_14 : decode cX2_lineFitted 14 = .ok (.invokestatic 45, 3) := by decide +kernel
theorem dX2_lineFitted_17 : decode cX2_lineFitted 17 = .ok (.lstore 6, 2) := by decide +kernel
theorem dX2_lineFitted_19 : decode cX2_lineFitted 19 = .ok (.aload_n 0, 1) := by decide +kernel
theorem dX2_lineFitted_20 : decode cX2_lineFitted 20 = .ok (.getfield 18, 3) := by decide +kernel
theorem dX2_lineFitted_23 : decode cX2_lineFitted 23 = .ok (.iload_n 1, 1) := by decide +kernel
theorem dX2_lineFitted_24 : decode cX2_lineFitted 24 = .ok (.iload_n 2, 1) := by decide +kernel
theorem dX2_lineFitted_25 : decode cX2_lineFitted 25 = .ok (.invokestatic 45, 3) := by decide +kernel
theorem dX2_lineFitted_28 : decode cX2_lineFitted 28 = .ok (.lstore 8, 2) := by decide +kernel
theorem dX2_lineFitted_30 : decode cX2_lineFitted 30 = .ok (.aload_n 0, 1) := by decide +kernel
theorem dX2_lineFitted_31 : decode cX2_lineFitted 31 = .ok (.getfield 15, 3) := by decide +kernel
theorem dX2_lineFitted_34 : decode cX2_lineFitted 34 = .ok (.aload_n 0, 1) := by decide +kernel
theorem dX2_lineFitted_35 : decode cX2_lineFitted 35 = .ok (.getfield 18, 3) := by decide +kernel
theorem dX2_lineFitted_38 : decode cX2_lineFitted 38 = .ok (.iload_n 1, 1) := by decide +kernel
theorem dX2_lineFitted_39 : decode cX2_lineFitted 39 = .ok (.iload_n 2, 1) := by decide +kernel
theorem dX2_lineFitted_40 : decode cX2_lineFitted 40 = .ok (.invokestatic 49, 3) := by decide +kernel
theorem dX2_lineFitted_43 : decode cX2_lineFitted 43 = .ok (.lstore 10, 2) := by decide +kernel
theorem dX2_lineFitted_45 : decode cX2_lineFitted 45 = .ok (.aload_n 0, 1) := by decide +kernel
theorem dX2_lineFitted_46 : decode cX2_lineFitted 46 = .ok (.getfield 15, 3) := by decide +kernel
theorem dX2_lineFitted_49 : decode cX2_lineFitted 49 = .ok (.aload_n 0, 1) := by decide +kernel
theorem dX2_lineFitted_50 : decode cX2_lineFitted 50 = .ok (.getfield 15, 3) := by decide +kernel
theorem dX2_lineFitted_53 : decode cX2_lineFitted 53 = .ok (.iload_n 1, 1) := by decide +kernel
theorem dX2_lineFitted_54 : decode cX2_lineFitted 54 = .ok (.iload_n 2, 1) := by decide +kernel
theorem dX2_lineFitted_55 : decode cX2_lineFitted 55 = .ok (.invokestatic 49, 3) := by decide +kernel
theorem dX2_lineFitted_58 : decode cX2_lineFitted 58 = .ok (.lstore 12, 2) := by decide +kernel
theorem dX2_lineFitted_60 : decode cX2_lineFitted 60 = .ok (.lload 4, 2) := by decide +kernel
theorem dX2_lineFitted_62 : decode cX2_lineFitted 62 = .ok (.lload 12, 2) := by decide +kernel
theorem dX2_lineFitted_64 : decode cX2_lineFitted 64 = .ok (.lmul, 1) := by decide +kernel
theorem dX2_lineFitted_65 : decode cX2_lineFitted 65 = .ok (.lload 6, 2) := by decide +kernel
theorem dX2_lineFitted_67 : decode cX2_lineFitted 67 = .ok (.lload 6, 2) := by decide +kernel
theorem dX2_lineFitted_69 : decode cX2_lineFitted 69 = .ok (.lmul, 1) := by decide +kernel
theorem dX2_lineFitted_70 : decode cX2_lineFitted 70 = .ok (.lsub, 1) := by decide +kernel
theorem dX2_lineFitted_71 : decode cX2_lineFitted 71 = .ok (.lstore 14, 2) := by decide +kernel
theorem dX2_lineFitted_73 : decode cX2_lineFitted 73 = .ok (.lload 14, 2) := by decide +kernel
theorem dX2_lineFitted_75 : decode cX2_lineFitted 75 = .ok (.lconst 0, 1) := by decide +kernel
theorem dX2_lineFitted_76 : decode cX2_lineFitted 76 = .ok (.lcmp, 1) := by decide +kernel
theorem dX2_lineFitted_77 : decode cX2_lineFitted 77 = .ok (.ifCond .ne 7, 3) := by decide +kernel
theorem dX2_lineFitted_80 : decode cX2_lineFitted 80 = .ok (.ldc2_w 53, 3) := by decide +kernel
theorem dX2_lineFitted_83 : decode cX2_lineFitted 83 = .ok (.lreturn, 1) := by decide +kernel
theorem dX2_lineFitted_84 : decode cX2_lineFitted 84 = .ok (.lload 4, 2) := by decide +kernel
theorem dX2_lineFitted_86 : decode cX2_lineFitted 86 = .ok (.lload 10, 2) := by decide +kernel
theorem dX2_lineFitted_88 : decode cX2_lineFitted 88 = .ok (.lmul, 1) := by decide +kernel
theorem dX2_lineFitted_89 : decode cX2_lineFitted 89 = .ok (.lload 6, 2) := by decide +kernel
theorem dX2_lineFitted_91 : decode cX2_lineFitted 91 = .ok (.lload 8, 2) := by decide +kernel
theorem dX2_lineFitted_93 : decode cX2_lineFitted 93 = .ok (.lmul, 1) := by decide +kernel
theorem dX2_lineFitted_94 : decode cX2_lineFitted 94 = .ok (.lsub, 1) := by decide +kernel
theorem dX2_lineFitted_95 : decode cX2_lineFitted 95 = .ok (.lstore 16, 2) := by decide +kernel
theorem dX2_lineFitted_97 : decode cX2_lineFitted 97 = .ok (.lload 8, 2) := by decide +kernel
theorem dX2_lineFitted_99 : decode cX2_lineFitted 99 = .ok (.lload 12, 2) := by decide +kernel
theorem dX2_lineFitted_101 : decode cX2_lineFitted 101 = .ok (.lmul, 1) := by decide +kernel
theorem dX2_lineFitted_102 : decode cX2_lineFitted 102 = .ok (.lload 6, 2) := by decide +kernel
theorem dX2_lineFitted_104 : decode cX2_lineFitted 104 = .ok (.lload 10, 2) := by decide +kernel
theorem dX2_lineFitted_106 : decode cX2_lineFitted 106 = .ok (.lmul, 1) := by decide +kernel
theorem dX2_lineFitted_107 : decode cX2_lineFitted 107 = .ok (.lsub, 1) := by decide +kernel
theorem dX2_lineFitted_108 : decode cX2_lineFitted 108 = .ok (.lstore 18, 2) := by decide +kernel
theorem dX2_lineFitted_110 : decode cX2_lineFitted 110 = .ok (.iload_n 3, 1) := by decide +kernel
theorem dX2_lineFitted_111 : decode cX2_lineFitted 111 = .ok (.iconst 2, 1) := by decide +kernel
theorem dX2_lineFitted_112 : decode cX2_lineFitted 112 = .ok (.irem, 1) := by decide +kernel
theorem dX2_lineFitted_113 : decode cX2_lineFitted 113 = .ok (.ifCond .ne 7, 3) := by decide +kernel
theorem dX2_lineFitted_116 : decode cX2_lineFitted 116 = .ok (.iconst 1, 1) := by decide +kernel
theorem dX2_lineFitted_117 : decode cX2_lineFitted 117 = .ok (.goto 4, 3) := by decide +kernel
theorem dX2_lineFitted_120 : decode cX2_lineFitted 120 = .ok (.iconst 0, 1) := by decide +kernel
theorem dX2_lineFitted_121 : decode cX2_lineFitted 121 = .ok (.istore 20, 2) := by decide +kernel
theorem dX2_lineFitted_123 : decode cX2_lineFitted 123 = .ok (.iload_n 3, 1) := by decide +kernel
theorem dX2_lineFitted_124 : decode cX2_lineFitted 124 = .ok (.iconst 2, 1) := by decide +kernel
theorem dX2_lineFitted_125 : decode cX2_lineFitted 125 = .ok (.idiv, 1) := by decide +kernel
theorem dX2_lineFitted_126 : decode cX2_lineFitted 126 = .ok (.lookupswitch 46 #[(0, 26), (1, 36)], 26) := by decide +kernel
theorem dX2_lineFitted_152 : decode cX2_lineFitted 152 = .ok (.lload 16, 2) := by decide +kernel
theorem dX2_lineFitted_154 : decode cX2_lineFitted 154 = .ok (.lload 14, 2) := by decide +kernel
theorem dX2_lineFitted_156 : decode cX2_lineFitted 156 = .ok (.iload 20, 2) := by decide +kernel
theorem dX2_lineFitted_158 : decode cX2_lineFitted 158 = .ok (.invokestatic 55, 3) := by decide +kernel
theorem dX2_lineFitted_161 : decode cX2_lineFitted 161 = .ok (.lreturn, 1) := by decide +kernel
theorem dX2_lineFitted_162 : decode cX2_lineFitted 162 = .ok (.lload 18, 2) := by decide +kernel
theorem dX2_lineFitted_164 : decode cX2_lineFitted 164 = .ok (.lload 14, 2) := by decide +kernel
theorem dX2_lineFitted_166 : decode cX2_lineFitted 166 = .ok (.iload 20, 2) := by decide +kernel
theorem dX2_lineFitted_168 : decode cX2_lineFitted 168 = .ok (.invokestatic 55, 3) := by decide +kernel
theorem dX2_lineFitted_171 : decode cX2_lineFitted 171 = .ok (.lreturn, 1) := by decide +kernel
theorem dX2_lineFitted_172 : decode cX2_lineFitted 172 = .ok (.lload 18, 2) := by decide +kernel
theorem dX2_lineFitted_174 : decode cX2_lineFitted 174 = .ok (.lneg, 1) := by decide +kernel
theorem dX2_lineFitted_175 : decode cX2_lineFitted 175 = .ok (.lload 16, 2) := by decide +kernel
theorem dX2_lineFitted_177 : decode cX2_lineFitted 177 = .ok (.iload 20, 2) := by decide +kernel
theorem dX2_lineFitted_179 : decode cX2_lineFitted 179 = .ok (.invokestatic 55, 3) := by decide +kernel
theorem dX2_lineFitted_182 : decode cX2_lineFitted 182 = .ok (.lreturn, 1) := by decide +kernel
theorem dX2_sum_0 : decode cX2_sum 0 = .ok (.lconst 0, 1) := by decide +kernel
theorem dX2_sum_1 : decode cX2_sum 1 = .ok (.lstore_n 3, 1) := by decide +kernel
theorem dX2_sum_2 : decode cX2_sum 2 = .ok (.iload_n 1, 1) := by decide +kernel
theorem dX2_sum_3 : decode cX2_sum 3 = .ok (.istore 5, 2) := by decide +kernel
theorem dX2_sum_5 : decode cX2_sum 5 = .ok (.iload 5, 2) := by decide +kernel
theorem dX2_sum_7 : decode cX2_sum 7 = .ok (.iload_n 2, 1) := by decide +kernel
theorem dX2_sum_8 : decode cX2_sum 8 = .ok (.if_icmp .gt 17, 3) := by decide +kernel
theorem dX2_sum_11 : decode cX2_sum 11 = .ok (.lload_n 3, 1) := by decide +kernel
theorem dX2_sum_12 : decode cX2_sum 12 = .ok (.aload_n 0, 1) := by decide +kernel
theorem dX2_sum_13 : decode cX2_sum 13 = .ok (.iload 5, 2) := by decide +kernel
theorem dX2_sum_15 : decode cX2_sum 15 = .ok (.iaload, 1) := by decide +kernel
theorem dX2_sum_16 : decode cX2_sum 16 = .ok (.i2l, 1) := by decide +kernel
theorem dX2_sum_17 : decode cX2_sum 17 = .ok (.ladd, 1) := by decide +kernel
theorem dX2_sum_18 : decode cX2_sum 18 = .ok (.lstore_n 3, 1) := by decide +kernel
theorem dX2_sum_19 : decode cX2_sum 19 = .ok (.iinc 5 1, 3) := by decide +kernel
theorem dX2_sum_22 : decode cX2_sum 22 = .ok (.goto (-17), 3) := by decide +kernel
theorem dX2_sum_25 : decode cX2_sum 25 = .ok (.lload_n 3, 1) := by decide +kernel
theorem dX2_sum_26 : decode cX2_sum 26 = .ok (.lreturn, 1) := by decide +kernel
theorem dX2_sumOfProducts_0 : decode cX2_sumOfProducts 0 = .ok (.lconst 0, 1) := by decide +kernel
theorem dX2_sumOfProducts_1 : decode cX2_sumOfProducts 1 = .ok (.lstore 4, 2) := by decide +kernel
theorem dX2_sumOfProducts_3 : decode cX2_sumOfProducts 3 = .ok (.iload_n 2, 1) := by decide +kernel
theorem dX2_sumOfProducts_4 : decode cX2_sumOfProducts 4 = .ok (.istore 6, 2) := by decide +kernel
theorem dX2_sumOfProducts_6 : decode cX2_sumOfProducts 6 = .ok (.iload 6, 2) := by decide +kernel
theorem dX2_sumOfProducts_8 : decode cX2_sumOfProducts 8 = .ok (.iload_n 3, 1) := by decide +kernel
theorem dX2_sumOfProducts_9 : decode cX2_sumOfProducts 9 = .ok (.if_icmp .gt 25, 3) := by decide +kernel
theorem dX2_sumOfProducts_12 : decode cX2_sumOfProducts 12 = .ok (.lload 4, 2) := by decide +kernel
theorem dX2_sumOfProducts_14 : decode cX2_sumOfProducts 14 = .ok (.aload_n 0, 1) := by decide +kernel
theorem dX2_sumOfProducts_15 : decode cX2_sumOfProducts 15 = .ok (.iload 6, 2) := by decide +kernel
theorem dX2_sumOfProducts_17 : decode cX2_sumOfProducts 17 = .ok (.iaload, 1) := by decide +kernel
theorem dX2_sumOfProducts_18 : decode cX2_sumOfProducts 18 = .ok (.i2l, 1) := by decide +kernel
theorem dX2_sumOfProducts_19 : decode cX2_sumOfProducts 19 = .ok (.aload_n 1, 1) := by decide +kernel
theorem dX2_sumOfProducts_20 : decode cX2_sumOfProducts 20 = .ok (.iload 6, 2) := by decide +kernel
theorem dX2_sumOfProducts_22 : decode cX2_sumOfProducts 22 = .ok (.iaload, 1) := by decide +kernel
theorem dX2_sumOfProducts_23 : decode cX2_sumOfProducts 23 = .ok (.i2l, 1) := by decide +kernel
theorem dX2_sumOfProducts_24 : decode cX2_sumOfProducts 24 = .ok (.lmul, 1) := by decide +kernel
theorem dX2_sumOfProducts_25 : decode cX2_sumOfProducts 25 = .ok (.ladd, 1) := by decide +kernel
theorem dX2_sumOfProducts_26 : decode cX2_sumOfProducts 26 = .ok (.lstore 4, 2) := by decide +kernel
theorem dX2_sumOfProducts_28 : decode cX2_sumOfProducts 28 = .ok (.iinc 6 1, 3) := by decide +kernel
theorem dX2_sumOfProducts_31 : decode cX2_sumOfProducts 31 = .ok (.goto (-25), 3) := by decide +kernel
theorem dX2_sumOfProducts_34 : decode cX2_sumOfProducts 34 = .ok (.lload 4, 2) := by decide +kernel
theorem dX2_sumOfProducts_36 : decode cX2_sumOfProducts 36 = .ok (.lreturn, 1) := by decide +kernel
set_option maxRecDepth 20000 in
theorem ggX2_ofFraction_X2_greatestDivisor : GoodIn wsX2_ofFraction wsX2_greatestDivisor := goodIn_r _ [9] (by decide +kernel) (by decide +kernel)
set_option maxRecDepth 20000 in
theorem gX2_ofFraction_X2_greatestDivisor : GoodIn wsX2_ofFraction (va_wsS RX2 59 yX2_greatestDivisor wsX2_greatestDivisor) := goodIn_app (goodIn_of _ (by decide +kernel)) ggX2_ofFraction_X2_greatestDivisor
theorem dX2_ofFraction_0 : decode cX2_ofFraction 0 = .ok (.lload_n 0, 1) := by decide +kernel
theorem dX2_ofFraction_1 : decode cX2_ofFraction 1 = .ok (.invokestatic 32, 3) := by decide +kernel
theorem dX2_ofFraction_4 : decode cX2_ofFraction 4 = .ok (.lload_n 2, 1) := by decide +kernel
theorem dX2_ofFraction_5 : decode cX2_ofFraction 5 = .ok (.invokestatic 32, 3) := by decide +kernel
theorem dX2_ofFraction_8 : decode cX2_ofFraction 8 = .ok (.invokestatic 59, 3) := by decide +kernel
theorem dX2_ofFraction_11 : decode cX2_ofFraction 11 = .ok (.lstore 5, 2) := by decide +kernel
theorem dX2_ofFraction_13 : decode cX2_ofFraction 13 = .ok (.lload_n 2, 1) := by decide +kernel
theorem dX2_ofFraction_14 : decode cX2_ofFraction 14 = .ok (.lconst 0, 1) := by decide +kernel
theorem dX2_ofFraction_15 : decode cX2_ofFraction 15 = .ok (.lcmp, 1) := by decide +kernel
theorem dX2_ofFraction_16 : decode cX2_ofFraction 16 = .ok (.ifCond .eq 10, 3) := by decide +kernel
theorem dX2_ofFraction_19 : decode cX2_ofFraction 19 = .ok (.lload 5, 2) := by decide +kernel
theorem dX2_ofFraction_21 : decode cX2_ofFraction 21 = .ok (.lconst 0, 1) := by decide +kernel
theorem dX2_ofFraction_22 : decode cX2_ofFraction 22 = .ok (.lcmp, 1) := by decide +kernel
theorem dX2_ofFraction_23 : decode cX2_ofFraction 23 = .ok (.ifCond .ne 7, 3) := by decide +kernel
theorem dX2_ofFraction_26 : decode cX2_ofFraction 26 = .ok (.ldc2_w 53, 3) := by decide +kernel
theorem dX2_ofFraction_29 : decode cX2_ofFraction 29 = .ok (.lreturn, 1) := by decide +kernel
theorem dX2_ofFraction_30 : decode cX2_ofFraction 30 = .ok (.lload_n 2, 1) := by decide +kernel
theorem dX2_ofFraction_31 : decode cX2_ofFraction 31 = .ok (.lconst 0, 1) := by decide +kernel
theorem dX2_ofFraction_32 : decode cX2_ofFraction 32 = .ok (.lcmp, 1) := by decide +kernel
theorem dX2_ofFraction_33 : decode cX2_ofFraction 33 = .ok (.ifCond .ge 9, 3) := by decide +kernel
theorem dX2_ofFraction_36 : decode cX2_ofFraction 36 = .ok (.lload 5, 2) := by decide +kernel
theorem dX2_ofFraction_38 : decode cX2_ofFraction 38 = .ok (.lneg, 1) := by decide +kernel
theorem dX2_ofFraction_39 : decode cX2_ofFraction 39 = .ok (.goto 5, 3) := by decide +kernel
theorem dX2_ofFraction_42 : decode cX2_ofFraction 42 = .ok (.lload 5, 2) := by decide +kernel
theorem dX2_ofFraction_44 : decode cX2_ofFraction 44 = .ok (.lstore 7, 2) := by decide +kernel
theorem dX2_ofFraction_46 : decode cX2_ofFraction 46 = .ok (.iload 4, 2) := by decide +kernel
theorem dX2_ofFraction_48 : decode cX2_ofFraction 48 = .ok (.ifCond .eq 10, 3) := by decide +kernel
theorem dX2_ofFraction_51 : decode cX2_ofFraction 51 = .ok (.lload_n 0, 1) := by decide +kernel
theorem dX2_ofFraction_52 : decode cX2_ofFraction 52 = .ok (.lload 7, 2) := by decide +kernel
theorem dX2_ofFraction_54 : decode cX2_ofFraction 54 = .ok (.ldiv, 1) := by decide +kernel
theorem dX2_ofFraction_55 : decode cX2_ofFraction 55 = .ok (.goto 7, 3) := by decide +kernel
theorem dX2_ofFraction_58 : decode cX2_ofFraction 58 = .ok (.lload_n 2, 1) := by decide +kernel
theorem dX2_ofFraction_59 : decode cX2_ofFraction 59 = .ok (.lload 7, 2) := by decide +kernel
theorem dX2_ofFraction_61 : decode cX2_ofFraction 61 = .ok (.ldiv, 1) := by decide +kernel
theorem dX2_ofFraction_62 : decode cX2_ofFraction 62 = .ok (.lreturn, 1) := by decide +kernel
theorem dX2_greatestDivisor_0 : decode cX2_greatestDivisor 0 = .ok (.iconst 0, 1) := by decide +kernel
theorem dX2_greatestDivisor_1 : decode cX2_greatestDivisor 1 = .ok (.istore 4, 2) := by decide +kernel
theorem dX2_greatestDivisor_3 : decode cX2_greatestDivisor 3 = .ok (.iload 4, 2) := by decide +kernel
theorem dX2_greatestDivisor_5 : decode cX2_greatestDivisor 5 = .ok (.sipush 1000, 3) := by decide +kernel
theorem dX2_greatestDivisor_8 : decode cX2_greatestDivisor 8 = .ok (.if_icmp .ge 25, 3) := by decide +kernel
theorem dX2_greatestDivisor_11 : decode cX2_greatestDivisor 11 = .ok (.lload_n 2, 1) := by decide +kernel
theorem dX2_greatestDivisor_12 : decode cX2_greatestDivisor 12 = .ok (.lconst 0, 1) := by decide +kernel
theorem dX2_greatestDivisor_13 : decode cX2_greatestDivisor 13 = .ok (.lcmp, 1) := by decide +kernel
theorem dX2_greatestDivisor_14 : decode cX2_greatestDivisor 14 = .ok (.ifCond .eq 19, 3) := by decide +kernel
theorem dX2_greatestDivisor_17 : decode cX2_greatestDivisor 17 = .ok (.lload_n 0, 1) := by decide +kernel
theorem dX2_greatestDivisor_18 : decode cX2_greatestDivisor 18 = .ok (.lload_n 2, 1) := by decide +kernel
theorem dX2_greatestDivisor_19 : decode cX2_greatestDivisor 19 = .ok (.lrem, 1) := by decide +kernel
theorem dX2_greatestDivisor_20 : decode cX2_greatestDivisor 20 = .ok (.lstore 5, 2) := by decide +kernel
theorem dX2_greatestDivisor_22 : decode cX2_greatestDivisor 22 = .ok (.lload_n 2, 1) := by decide +kernel
theorem dX2_greatestDivisor_23 : decode cX2_greatestDivisor 23 = .ok (.lstore_n 0, 1) := by decide +kernel
theorem dX2_greatestDivisor_24 : decode cX2_greatestDivisor 24 = .ok (.lload 5, 2) := by decide +kernel
theorem dX2_greatestDivisor_26 : decode cX2_greatestDivisor 26 = .ok (.lstore_n 2, 1) := by decide +kernel
theorem dX2_greatestDivisor_27 : decode cX2_greatestDivisor 27 = .ok (.iinc 4 1, 3) := by decide +kernel
theorem dX2_greatestDivisor_30 : decode cX2_greatestDivisor 30 = .ok (.goto (-27), 3) := by decide +kernel
theorem dX2_greatestDivisor_33 : decode cX2_greatestDivisor 33 = .ok (.lload_n 0, 1) := by decide +kernel
theorem dX2_greatestDivisor_34 : decode cX2_greatestDivisor 34 = .ok (.lreturn, 1) := by decide +kernel
set_option maxRecDepth 20000 in
theorem ggX3_init_X2_init : GoodIn wsX3_init wsX2_init := goodIn_r _ [22, 23, 2, 3, 6, 24, 25, 26, 27, 28, 45, 46, 47, 48, 49] (by decide +kernel) (by decide +kernel)
set_option maxRecDepth 20000 in
theorem gX3_init_X2_init_n23 : GoodIn wsX3_init (wsX2_init) := ggX3_init_X2_init
set_option maxRecDepth 20000 in
theorem ggX3_init_X0_init : GoodIn wsX3_init wsX0_init := goodIn_r _ [30, 31, 2, 3, 6, 32, 33, 34, 50, 51, 52] (by decide +kernel) (by decide +kernel)
set_option maxRecDepth 20000 in
theorem gX3_init_X0_init_n30 : GoodIn wsX3_init (wsX0_init) := ggX3_init_X0_init
set_option maxRecDepth 20000 in
theorem ggX3_init_X1_init : GoodIn wsX3_init wsX1_init := goodIn_r _ [36, 37, 2, 3] (by decide +kernel) (by decide +kernel)
set_option maxRecDepth 20000 in
theorem gX3_init_X1_init_n46 : GoodIn wsX3_init (wsX1_init) := ggX3_init_X1_init
theorem dX3_init_0 : decode cX3_init 0 = .ok (.aload_n 0, 1) := by decide +kernel
theorem dX3_init_1 : decode cX3_init 1 = .ok (.invokespecial 3, 3) := by decide +kernel
theorem dX3_init_4 : decode cX3_init 4 = .ok (.aload_n 0, 1) := by decide +kernel
theorem dX3_init_5 : decode cX3_init 5 = .ok (.iconst 4, 1) := by decide +kernel
theorem dX3_init_6 : decode cX3_init 6 = .ok (.anewarray 11, 3) := by decide +kernel
theorem dX3_init_9 : decode cX3_init 9 = .ok (.putfield 13, 3) := by decide +kernel
theorem dX3_init_12 : decode cX3_init 12 = .ok (.aload_n 0, 1) := by decide +kernel
theorem dX3_init_13 : decode cX3_init 13 = .ok (.iconst 4, 1) := by decide +kernel
theorem dX3_init_14 : decode cX3_init 14 = .ok (.newarray .int, 2) := by decide +kernel
theorem dX3_init_16 : decode cX3_init 16 = .ok (.putfield 17, 3) := by decide +kernel
theorem dX3_init_19 : decode cX3_init 19 = .ok (.aload_n 0, 1) := by decide +kernel
theorem dX3_init_20 : decode cX3_init 20 = .ok (.new 21, 3) := by decide +kernel
theorem dX3_init_23 : decode cX3_init 23 = .ok (.dup, 1) := by decide +kernel
theorem dX3_init_24 : decode cX3_init 24 = .ok (.invokespecial 23, 3) := by decide +kernel
theorem dX3_init_27 : decode cX3_init 27 = .ok (.putfield 24, 3) := by decide +kernel
theorem dX3_init_30 : decode cX3_init 30 = .ok (.aload_n 0, 1) := by decide +kernel
theorem dX3_init_31 : decode cX3_init 31 = .ok (.new 28, 3) := by decide +kernel
theorem dX3_init_34 : decode cX3_init 34 = .ok (.dup, 1) := by decide +kernel
theorem dX3_init_35 : decode cX3_init 35 = .ok (.invokespecial 30, 3) := by decide +kernel
theorem dX3_init_38 : decode cX3_init 38 = .ok (.putfield 31, 3) := by decide +kernel
theorem dX3_init_41 : decode cX3_init 41 = .ok (.aload_n 0, 1) := by decide +kernel
theorem dX3_init_42 : decode cX3_init 42 = .ok (.iconst 0, 1) := by decide +kernel
theorem dX3_init_43 : decode cX3_init 43 = .ok (.putfield 35, 3) := by decide +kernel
theorem dX3_init_46 : decode cX3_init 46 = .ok (.aload_n 0, 1) := by decide +kernel
theorem dX3_init_47 : decode cX3_init 47 = .ok (.sipush 1000, 3) := by decide +kernel
theorem dX3_init_50 : decode cX3_init 50 = .ok (.putfield 39, 3) := by decide +kernel
theorem dX3_init_53 : decode cX3_init 53 = .ok (.aload_n 0, 1) := by decide +kernel
theorem dX3_init_54 : decode cX3_init 54 = .ok (.iconst 0, 1) := by decide +kernel
theorem dX3_init_55 : decode cX3_init 55 = .ok (.putfield 43, 3) := by decide +kernel
theorem dX3_init_58 : decode cX3_init 58 = .ok (.iconst 0, 1) := by decide +kernel
theorem dX3_init_59 : decode cX3_init 59 = .ok (.istore_n 1, 1) := by decide +kernel
theorem dX3_init_60 : decode cX3_init 60 = .ok (.iload_n 1, 1) := by decide +kernel
theorem dX3_init_61 : decode cX3_init 61 = .ok (.aload_n 0, 1) := by decide +kernel
theorem dX3_init_62 : decode cX3_init 62 = .ok (.getfield 13, 3) := by decide +kernel
theorem dX3_init_65 : decode cX3_init 65 = .ok (.arraylength, 1) := by decide +kernel
theorem dX3_init_66 : decode cX3_init 66 = .ok (.if_icmp .ge 22, 3) := by decide +kernel
theorem dX3_init_69 : decode cX3_init 69 = .ok (.aload_n 0, 1) := by decide +kernel
theorem dX3_init_70 : decode cX3_init 70 = .ok (.getfield 13, 3) := by decide +kernel
theorem dX3_init_73 : decode cX3_init 73 = .ok (.iload_n 1, 1) := by decide +kernel
theorem dX3_init_74 : decode cX3_init 74 = .ok (.new 11, 3) := by decide +kernel
theorem dX3_init_77 : decode cX3_init 77 = .ok (.dup, 1) := by decide +kernel
theorem dX3_init_78 : decode cX3_init 78 = .ok (.invokespecial 46, 3) := by decide +kernel
theorem dX3_init_81 : decode cX3_init 81 = .ok (.aastore, 1) := by decide +kernel
theorem dX3_init_82 : decode cX3_init 82 = .ok (.iinc 1 1, 3) := by decide +kernel
theorem dX3_init_85 : decode cX3_init 85 = .ok (.goto (-25), 3) := by decide +kernel
theorem dX3_init_88 : decode cX3_init 88 = .ok (.return_, 1) := by decide +kernel
set_option maxRecDepth 20000 in
theorem ggX3_part_X3_within : GoodIn wsX3_part wsX3_within := goodIn_r _ [7] (by decide +kernel) (by decide +kernel)
set_option maxRecDepth 20000 in
theorem gX3_part_X3_within : GoodIn wsX3_part (va_wsS RX3 47 yX3_within wsX3_within) := goodIn_app (goodIn_of _ (by decide +kernel)) ggX3_part_X3_within
set_option maxRecDepth 20000 in
theorem ggX3_part_X1_renew : GoodIn wsX3_part wsX1_renew := goodIn_r _ [12, 13, 14, 15, 16, 17, 18, 19, 20, 21, 22, 23, 24, 32, 33, 34, 35, 36, 37, 38, 39, 40, 41, 42, 43] (by decide +kernel) (by decide +kernel)
set_option maxRecDepth 20000 in
theorem gX3_part_X1_renew : GoodIn wsX3_part (wsV RX3 54 RX1 yX1_renew wsX1_renew) := goodIn_app (goodIn_of _ (by decide +kernel)) ggX3_part_X1_renew
theorem dX3_part_0 : decode cX3_part 0 = .ok (.iload_n 1, 1) := by decide +kernel
theorem dX3_part_1 : decode cX3_part 1 = .ok (.iconst 0, 1) := by decide +kernel
theorem dX3_part_2 : decode cX3_part 2 = .ok (.iconst 3, 1) := by decide +kernel
theorem dX3_part_3 : decode cX3_part 3 = .ok (.invokestatic 47, 3) := by decide +kernel
theorem dX3_part_6 : decode cX3_part 6 = .ok (.ifCond .eq 23, 3) := by decide +kernel
theorem dX3_part_9 : decode cX3_part 9 = .ok (.iload_n 2, 1) := by decide +kernel
theorem dX3_part_10 : decode cX3_part 10 = .ok (.iconst 0, 1) := by decide +kernel
theorem dX3_part_11 : decode cX3_part 11 = .ok (.bipush 7, 2) := by decide +kernel
theorem dX3_part_13 : decode cX3_part 13 = .ok (.invokestatic 47, 3) := by decide +kernel
theorem dX3_part_16 : decode cX3_part 16 = .ok (.ifCond .eq 13, 3) := by decide +kernel
theorem dX3_part_19 : decode cX3_part 19 = .ok (.iload_n 3, 1) := by decide +kernel
theorem dX3_part_20 : decode cX3_part 20 = .ok (.iconst 0, 1) := by decide +kernel
theorem dX3_part_21 : decode cX3_part 21 = .ok (.bipush 7, 2) := by decide +kernel
theorem dX3_part_23 : decode cX3_part 23 = .ok (.invokestatic 47, 3) := by decide +kernel
theorem dX3_part_26 : decode cX3_part 26 = .ok (.ifCond .ne 5, 3) := by decide +kernel
theorem dX3_part_29 : decode cX3_part 29 = .ok (.iconst (-1), 1) := by decide +kernel
theorem dX3_part_30 : decode cX3_part 30 = .ok (.ireturn, 1) := by decide +kernel
theorem dX3_part_31 : decode cX3_part 31 = .ok (.iload 4, 2) := by decide +kernel
theorem dX3_part_33 : decode cX3_part 33 = .ok (.iconst 0, 1) := by decide +kernel
theorem dX3_part_34 : decode cX3_part 34 = .ok (.iconst 3, 1) := by decide +kernel
theorem dX3_part_35 : decode cX3_part 35 = .ok (.invokestatic 47, 3) := by decide +kernel
theorem dX3_part_38 : decode cX3_part 38 = .ok (.ifCond .ne 6, 3) := by decide +kernel
theorem dX3_part_41 : decode cX3_part 41 = .ok (.bipush (-2), 2) := by decide +kernel
theorem dX3_part_43 : decode cX3_part 43 = .ok (.ireturn, 1) := by decide +kernel
theorem dX3_part_44 : decode cX3_part 44 = .ok (.iload_n 2, 1) := by decide +kernel
theorem dX3_part_45 : decode cX3_part 45 = .ok (.iload_n 3, 1) := by decide +kernel
theorem dX3_part_46 : decode cX3_part 46 = .ok (.if_icmp .eq 10, 3) := by decide +kernel
theorem dX3_part_49 : decode cX3_part 49 = .ok (.aload_n 0, 1) := by decide +kernel
theorem dX3_part_50 : decode cX3_part 50 = .ok (.getfield 35, 3) := by decide +kernel
theorem dX3_part_53 : decode cX3_part 53 = .ok (.ifCond .eq 6, 3) := by decide +kernel
theorem dX3_part_56 : decode cX3_part 56 = .ok (.bipush (-3), 2) := by decide +kernel
theorem dX3_part_58 : decode cX3_part 58 = .ok (.ireturn, 1) := by decide +kernel
theorem dX3_part_59 : decode cX3_part 59 = .ok (.aload_n 0, 1) := by decide +kernel
theorem dX3_part_60 : decode cX3_part 60 = .ok (.getfield 13, 3) := by decide +kernel
theorem dX3_part_63 : decode cX3_part 63 = .ok (.iload_n 1, 1) := by decide +kernel
theorem dX3_part_64 : decode cX3_part 64 = .ok (.aaload, 1) := by decide +kernel
theorem dX3_part_65 : decode cX3_part 65 = .ok (.getfield 51, 3) := by decide +kernel
theorem dX3_part_68 : decode cX3_part 68 = .ok (.ifCond .eq 7, 3) := by decide +kernel
theorem dX3_part_71 : decode cX3_part 71 = .ok (.iconst 1, 1) := by decide +kernel
theorem dX3_part_72 : decode cX3_part 72 = .ok (.goto 4, 3) := by decide +kernel
theorem dX3_part_75 : decode cX3_part 75 = .ok (.iconst 0, 1) := by decide +kernel
theorem dX3_part_76 : decode cX3_part 76 = .ok (.istore 5, 2) := by decide +kernel
theorem dX3_part_78 : decode cX3_part 78 = .ok (.aload_n 0, 1) := by decide +kernel
theorem dX3_part_79 : decode cX3_part 79 = .ok (.getfield 13, 3) := by decide +kernel
theorem dX3_part_82 : decode cX3_part 82 = .ok (.iload_n 1, 1) := by decide +kernel
theorem dX3_part_83 : decode cX3_part 83 = .ok (.aaload, 1) := by decide +kernel
theorem dX3_part_84 : decode cX3_part 84 = .ok (.iload_n 2, 1) := by decide +kernel
theorem dX3_part_85 : decode cX3_part 85 = .ok (.iload_n 3, 1) := by decide +kernel
theorem dX3_part_86 : decode cX3_part 86 = .ok (.iload 4, 2) := by decide +kernel
theorem dX3_part_88 : decode cX3_part 88 = .ok (.invokevirtual 54, 3) := by decide +kernel
theorem dX3_part_91 : decode cX3_part 91 = .ok (.iload 5, 2) := by decide +kernel
theorem dX3_part_93 : decode cX3_part 93 = .ok (.ireturn, 1) := by decide +kernel
set_option maxRecDepth 20000 in
theorem ggX3_remove_X3_partAt : GoodIn wsX3_remove wsX3_partAt := goodIn_r _ [7, 8, 2, 9, 10, 6, 11, 12, 13, 14, 15, 16, 17, 18, 19, 20, 21, 22, 23, 24, 25, 26, 27, 28, 29, 30] (by decide +kernel) (by decide +kernel)
set_option maxRecDepth 20000 in
theorem gX3_remove_X3_partAt : GoodIn wsX3_remove (wsV RX3 58 RX3 yX3_partAt wsX3_partAt) := goodIn_app (goodIn_of _ (by decide +kernel)) ggX3_remove_X3_partAt
theorem dX3_remove_0 : decode cX3_remove 0 = .ok (.aload_n 0, 1) := by decide +kernel
theorem dX3_remove_1 : decode cX3_remove 1 = .ok (.iload_n 1, 1) := by decide +kernel
theorem dX3_remove_2 : decode cX3_remove 2 = .ok (.invokevirtual 58, 3) := by decide +kernel
theorem dX3_remove_5 : decode cX3_remove 5 = .ok (.astore_n 2, 1) := by decide +kernel
theorem dX3_remove_6 : decode cX3_remove 6 = .ok (.aload_n 2, 1) := by decide +kernel
theorem dX3_remove_7 : decode cX3_remove 7 = .ok (.ifnonnull 5, 3) := by decide +kernel
theorem dX3_remove_10 : decode cX3_remove 10 = .ok (.iconst (-1), 1) := by decide +kernel
theorem dX3_remove_11 : decode cX3_remove 11 = .ok (.ireturn, 1) := by decide +kernel
theorem dX3_remove_12 : decode cX3_remove 12 = .ok (.aload_n 0, 1) := by decide +kernel
theorem dX3_remove_13 : decode cX3_remove 13 = .ok (.getfield 35, 3) := by decide +kernel
theorem dX3_remove_16 : decode cX3_remove 16 = .ok (.ifCond .eq 6, 3) := by decide +kernel
theorem dX3_remove_19 : decode cX3_remove 19 = .ok (.bipush (-3), 2) := by decide +kernel
theorem dX3_remove_21 : decode cX3_remove 21 = .ok (.ireturn, 1) := by decide +kernel
theorem dX3_remove_22 : decode cX3_remove 22 = .ok (.aload_n 2, 1) := by decide +kernel
theorem dX3_remove_23 : decode cX3_remove 23 = .ok (.iconst 0, 1) := by decide +kernel
theorem dX3_remove_24 : decode cX3_remove 24 = .ok (.putfield 51, 3) := by decide +kernel
theorem dX3_remove_27 : decode cX3_remove 27 = .ok (.iconst 1, 1) := by decide +kernel
theorem dX3_remove_28 : decode cX3_remove 28 = .ok (.ireturn, 1) := by decide +kernel
set_option maxRecDepth 20000 in
theorem ggX3_set_X3_partAt : GoodIn wsX3_set wsX3_partAt := goodIn_r _ [5, 6, 7, 8, 9, 4, 10, 30, 31, 32, 33, 34, 35, 36, 37, 38, 39, 40, 41, 42, 43, 44, 45, 46, 47, 48] (by decide +kernel) (by decide +kernel)
set_option maxRecDepth 20000 in
theorem gX3_set_X3_partAt : GoodIn wsX3_set (wsV RX3 58 RX3 yX3_partAt wsX3_partAt) := goodIn_app (goodIn_of _ (by decide +kernel)) ggX3_set_X3_partAt
set_option maxRecDepth 20000 in
theorem ggX3_set_X1_takes : GoodIn wsX3_set wsX1_takes := goodIn_r _ [14, 15, 16] (by decide +kernel) (by decide +kernel)
set_option maxRecDepth 20000 in
theorem gX3_set_X1_takes : GoodIn wsX3_set (va_wsS RX3 62 yX1_takes wsX1_takes) := goodIn_app (goodIn_of _ (by decide +kernel)) ggX3_set_X1_takes
set_option maxRecDepth 20000 in
theorem ggX3_set_X1_number : GoodIn wsX3_set wsX1_number := goodIn_r _ [20, 21, 22, 23, 24, 25, 37, 38, 39, 40, 41, 42, 43, 44, 45, 46, 47, 48] (by decide +kernel) (by decide +kernel)
set_option maxRecDepth 20000 in
theorem gX3_set_X1_number : GoodIn wsX3_set (wsV RX3 66 RX1 yX1_number wsX1_number) := goodIn_app (goodIn_of _ (by decide +kernel)) ggX3_set_X1_number
set_option maxRecDepth 20000 in
theorem ggX3_set_X1_putNumber : GoodIn wsX3_set wsX1_putNumber := goodIn_r _ [29, 21, 22, 23, 24, 25, 37, 38, 39, 40, 41, 42, 43, 44, 45, 46, 47, 48] (by decide +kernel) (by decide +kernel)
set_option maxRecDepth 20000 in
theorem gX3_set_X1_putNumber : GoodIn wsX3_set (wsV RX3 70 RX1 yX1_putNumber wsX1_putNumber) := goodIn_app (goodIn_of _ (by decide +kernel)) ggX3_set_X1_putNumber
theorem dX3_set_0 : decode cX3_set 0 = .ok (.aload_n 0, 1) := by decide +kernel
theorem dX3_set_1 : decode cX3_set 1 = .ok (.iload_n 1, 1) := by decide +kernel
theorem dX3_set_2 : decode cX3_set 2 = .ok (.invokevirtual 58, 3) := by decide +kernel
theorem dX3_set_5 : decode cX3_set 5 = .ok (.astore 4, 2) := by decide +kernel
theorem dX3_set_7 : decode cX3_set 7 = .ok (.aload 4, 2) := by decide +kernel
theorem dX3_set_9 : decode cX3_set 9 = .ok (.ifnonnull 5, 3) := by decide +kernel
theorem dX3_set_12 : decode cX3_set 12 = .ok (.iconst (-1), 1) := by decide +kernel
theorem dX3_set_13 : decode cX3_set 13 = .ok (.ireturn, 1) := by decide +kernel
theorem dX3_set_14 : decode cX3_set 14 = .ok (.iload_n 2, 1) := by decide +kernel
theorem dX3_set_15 : decode cX3_set 15 = .ok (.iload_n 3, 1) := by decide +kernel
theorem dX3_set_16 : decode cX3_set 16 = .ok (.invokestatic 62, 3) := by decide +kernel
theorem dX3_set_19 : decode cX3_set 19 = .ok (.ifCond .ne 6, 3) := by decide +kernel
theorem dX3_set_22 : decode cX3_set 22 = .ok (.bipush (-2), 2) := by decide +kernel
theorem dX3_set_24 : decode cX3_set 24 = .ok (.ireturn, 1) := by decide +kernel
theorem dX3_set_25 : decode cX3_set 25 = .ok (.aload 4, 2) := by decide +kernel
theorem dX3_set_27 : decode cX3_set 27 = .ok (.iload_n 2, 1) := by decide +kernel
theorem dX3_set_28 : decode cX3_set 28 = .ok (.invokevirtual 66, 3) := by decide +kernel
theorem dX3_set_31 : decode cX3_set 31 = .ok (.istore 5, 2) := by decide +kernel
theorem dX3_set_33 : decode cX3_set 33 = .ok (.aload 4, 2) := by decide +kernel
theorem dX3_set_35 : decode cX3_set 35 = .ok (.iload_n 2, 1) := by decide +kernel
theorem dX3_set_36 : decode cX3_set 36 = .ok (.iload_n 3, 1) := by decide +kernel
theorem dX3_set_37 : decode cX3_set 37 = .ok (.invokevirtual 70, 3) := by decide +kernel
theorem dX3_set_40 : decode cX3_set 40 = .ok (.iload 5, 2) := by decide +kernel
theorem dX3_set_42 : decode cX3_set 42 = .ok (.ireturn, 1) := by decide +kernel
set_option maxRecDepth 20000 in
theorem ggX3_ofPart_X3_partAt : GoodIn wsX3_ofPart wsX3_partAt := goodIn_r _ [11, 12, 13, 14, 15, 10, 16, 39, 40, 41, 42, 43, 44, 45, 27, 28, 29, 30, 31, 32, 33, 34, 35, 36, 37, 38] (by decide +kernel) (by decide +kernel)
set_option maxRecDepth 20000 in
theorem gX3_ofPart_X3_partAt : GoodIn wsX3_ofPart (wsV RX3 58 RX3 yX3_partAt wsX3_partAt) := goodIn_app (goodIn_of _ (by decide +kernel)) ggX3_ofPart_X3_partAt
set_option maxRecDepth 20000 in
theorem ggX3_ofPart_X3_within : GoodIn wsX3_ofPart wsX3_within := goodIn_r _ [16] (by decide +kernel) (by decide +kernel)
set_option maxRecDepth 20000 in
theorem gX3_ofPart_X3_within : GoodIn wsX3_ofPart (va_wsS RX3 47 yX3_within wsX3_within) := goodIn_app (goodIn_of _ (by decide +kernel)) ggX3_ofPart_X3_within
set_option maxRecDepth 20000 in
theorem ggX3_ofPart_X1_number : GoodIn wsX3_ofPart wsX1_number := goodIn_r _ [21, 22, 23, 24, 25, 26, 27, 28, 29, 30, 31, 32, 33, 34, 35, 36, 37, 38] (by decide +kernel) (by decide +kernel)
set_option maxRecDepth 20000 in
theorem gX3_ofPart_X1_number : GoodIn wsX3_ofPart (wsV RX3 66 RX1 yX1_number wsX1_number) := goodIn_app (goodIn_of _ (by decide +kernel)) ggX3_ofPart_X1_number
theorem dX3_ofPart_0 : decode cX3_ofPart 0 = .ok (.aload_n 0, 1) := by decide +kernel
theorem dX3_ofPart_1 : decode cX3_ofPart 1 = .ok (.iload_n 1, 1) := by decide +kernel
theorem dX3_ofPart_2 : decode cX3_ofPart 2 = .ok (.invokevirtual 58, 3) := by decide +kernel
theorem dX3_ofPart_5 : decode cX3_ofPart 5 = .ok (.astore_n 3, 1) := by decide +kernel
theorem dX3_ofPart_6 : decode cX3_ofPart 6 = .ok (.aload_n 3, 1) := by decide +kernel
theorem dX3_ofPart_7 : decode cX3_ofPart 7 = .ok (.ifnonnull 5, 3) := by decide +kernel
theorem dX3_ofPart_10 : decode cX3_ofPart 10 = .ok (.iconst (-1), 1) := by decide +kernel
theorem dX3_ofPart_11 : decode cX3_ofPart 11 = .ok (.ireturn, 1) := by decide +kernel
theorem dX3_ofPart_12 : decode cX3_ofPart 12 = .ok (.iload_n 2, 1) := by decide +kernel
theorem dX3_ofPart_13 : decode cX3_ofPart 13 = .ok (.bipush 10, 2) := by decide +kernel
theorem dX3_ofPart_15 : decode cX3_ofPart 15 = .ok (.bipush 14, 2) := by decide +kernel
theorem dX3_ofPart_17 : decode cX3_ofPart 17 = .ok (.invokestatic 47, 3) := by decide +kernel
theorem dX3_ofPart_20 : decode cX3_ofPart 20 = .ok (.ifCond .eq 12, 3) := by decide +kernel
theorem dX3_ofPart_23 : decode cX3_ofPart 23 = .ok (.aload_n 3, 1) := by decide +kernel
theorem dX3_ofPart_24 : decode cX3_ofPart 24 = .ok (.iload_n 2, 1) := by decide +kernel
theorem dX3_ofPart_25 : decode cX3_ofPart 25 = .ok (.bipush 10, 2) := by decide +kernel
theorem dX3_ofPart_27 : decode cX3_ofPart 27 = .ok (.isub, 1) := by decide +kernel
theorem dX3_ofPart_28 : decode cX3_ofPart 28 = .ok (.invokevirtual 66, 3) := by decide +kernel
theorem dX3_ofPart_31 : decode cX3_ofPart 31 = .ok (.ireturn, 1) := by decide +kernel
theorem dX3_ofPart_32 : decode cX3_ofPart 32 = .ok (.iload_n 2, 1) := by decide +kernel
theorem dX3_ofPart_33 : decode cX3_ofPart 33 = .ok (.tableswitch 85 0 5 #[39, 44, 49, 54, 59, 72], 39) := by decide +kernel
theorem dX3_ofPart_72 : decode cX3_ofPart 72 = .ok (.aload_n 3, 1) := by decide +kernel
theorem dX3_ofPart_73 : decode cX3_ofPart 73 = .ok (.getfield 74, 3) := by decide +kernel
theorem dX3_ofPart_76 : decode cX3_ofPart 76 = .ok (.ireturn, 1) := by decide +kernel
theorem dX3_ofPart_77 : decode cX3_ofPart 77 = .ok (.aload_n 3, 1) := by decide +kernel
theorem dX3_ofPart_78 : decode cX3_ofPart 78 = .ok (.getfield 77, 3) := by decide +kernel
theorem dX3_ofPart_81 : decode cX3_ofPart 81 = .ok (.ireturn, 1) := by decide +kernel
theorem dX3_ofPart_82 : decode cX3_ofPart 82 = .ok (.aload_n 3, 1) := by decide +kernel
theorem dX3_ofPart_83 : decode cX3_ofPart 83 = .ok (.getfield 80, 3) := by decide +kernel
theorem dX3_ofPart_86 : decode cX3_ofPart 86 = .ok (.ireturn, 1) := by decide +kernel
theorem dX3_ofPart_87 : decode cX3_ofPart 87 = .ok (.aload_n 3, 1) := by decide +kernel
theorem dX3_ofPart_88 : decode cX3_ofPart 88 = .ok (.getfield 83, 3) := by decide +kernel
theorem dX3_ofPart_91 : decode cX3_ofPart 91 = .ok (.ireturn, 1) := by decide +kernel
theorem dX3_ofPart_92 : decode cX3_ofPart 92 = .ok (.aload_n 3, 1) := by decide +kernel
theorem dX3_ofPart_93 : decode cX3_ofPart 93 = .ok (.getfield 86, 3) := by decide +kernel
theorem dX3_ofPart_96 : decode cX3_ofPart 96 = .ok (.ifCond .eq 7, 3) := by decide +kernel
theorem dX3_ofPart_99 : decode cX3_ofPart 99 = .ok (.iconst 1, 1) := by decide +kernel
theorem dX3_ofPart_100 : decode cX3_ofPart 100 = .ok (.goto 4, 3) := by decide +kernel
theorem dX3_ofPart_103 : decode cX3_ofPart 103 = .ok (.iconst 0, 1) := by decide +kernel
theorem dX3_ofPart_104 : decode cX3_ofPart 104 = .ok (.ireturn, 1) := by decide +kernel
theorem dX3_ofPart_105 : decode cX3_ofPart 105 = .ok (.aload_n 3, 1) := by decide +kernel
theorem dX3_ofPart_106 : decode cX3_ofPart 106 = .ok (.getfield 89, 3) := by decide +kernel
theorem dX3_ofPart_109 : decode cX3_ofPart 109 = .ok (.ifCond .eq 7, 3) := by decide +kernel
theorem dX3_ofPart_112 : decode cX3_ofPart 112 = .ok (.iconst 1, 1) := by decide +kernel
theorem dX3_ofPart_113 : decode cX3_ofPart 113 = .ok (.goto 4, 3) := by decide +kernel
theorem dX3_ofPart_116 : decode cX3_ofPart 116 = .ok (.iconst 0, 1) := by decide +kernel
theorem dX3_ofPart_117 : decode cX3_ofPart 117 = .ok (.ireturn, 1) := by decide +kernel
theorem dX3_ofPart_118 : decode cX3_ofPart 118 = .ok (.bipush (-2), 2) := by decide +kernel
theorem dX3_ofPart_120 : decode cX3_ofPart 120 = .ok (.ireturn, 1) := by decide +kernel
set_option maxRecDepth 20000 in
theorem ggX3_relay_X3_within : GoodIn wsX3_relay wsX3_within := goodIn_r _ [6] (by decide +kernel) (by decide +kernel)
set_option maxRecDepth 20000 in
theorem gX3_relay_X3_within : GoodIn wsX3_relay (va_wsS RX3 47 yX3_within wsX3_within) := goodIn_app (goodIn_of _ (by decide +kernel)) ggX3_relay_X3_within
set_option maxRecDepth 20000 in
theorem ggX3_relay_X3_wouldShort : GoodIn wsX3_relay wsX3_wouldShort := goodIn_r _ [10, 2, 11, 12, 13, 14, 15, 16, 17] (by decide +kernel) (by decide +kernel)
set_option maxRecDepth 20000 in
theorem gX3_relay_X3_wouldShort : GoodIn wsX3_relay (wsV RX3 92 RX3 yX3_wouldShort wsX3_wouldShort) := goodIn_app (goodIn_of _ (by decide +kernel)) ggX3_relay_X3_wouldShort
theorem dX3_relay_0 : decode cX3_relay 0 = .ok (.iload_n 1, 1) := by decide +kernel
theorem dX3_relay_1 : decode cX3_relay 1 = .ok (.iconst 0, 1) := by decide +kernel
theorem dX3_relay_2 : decode cX3_relay 2 = .ok (.iconst 3, 1) := by decide +kernel
theorem dX3_relay_3 : decode cX3_relay 3 = .ok (.invokestatic 47, 3) := by decide +kernel
theorem dX3_relay_6 : decode cX3_relay 6 = .ok (.ifCond .eq 13, 3) := by decide +kernel
theorem dX3_relay_9 : decode cX3_relay 9 = .ok (.iload_n 2, 1) := by decide +kernel
theorem dX3_relay_10 : decode cX3_relay 10 = .ok (.iconst 0, 1) := by decide +kernel
theorem dX3_relay_11 : decode cX3_relay 11 = .ok (.bipush 7, 2) := by decide +kernel
theorem dX3_relay_13 : decode cX3_relay 13 = .ok (.invokestatic 47, 3) := by decide +kernel
theorem dX3_relay_16 : decode cX3_relay 16 = .ok (.ifCond .ne 5, 3) := by decide +kernel
theorem dX3_relay_19 : decode cX3_relay 19 = .ok (.iconst (-1), 1) := by decide +kernel
theorem dX3_relay_20 : decode cX3_relay 20 = .ok (.ireturn, 1) := by decide +kernel
theorem dX3_relay_21 : decode cX3_relay 21 = .ok (.iload_n 3, 1) := by decide +kernel
theorem dX3_relay_22 : decode cX3_relay 22 = .ok (.iconst 0, 1) := by decide +kernel
theorem dX3_relay_23 : decode cX3_relay 23 = .ok (.iconst 1, 1) := by decide +kernel
theorem dX3_relay_24 : decode cX3_relay 24 = .ok (.invokestatic 47, 3) := by decide +kernel
theorem dX3_relay_27 : decode cX3_relay 27 = .ok (.ifCond .ne 6, 3) := by decide +kernel
theorem dX3_relay_30 : decode cX3_relay 30 = .ok (.bipush (-2), 2) := by decide +kernel
theorem dX3_relay_32 : decode cX3_relay 32 = .ok (.ireturn, 1) := by decide +kernel
theorem dX3_relay_33 : decode cX3_relay 33 = .ok (.iconst 1, 1) := by decide +kernel
theorem dX3_relay_34 : decode cX3_relay 34 = .ok (.iload_n 2, 1) := by decide +kernel
theorem dX3_relay_35 : decode cX3_relay 35 = .ok (.ishl, 1) := by decide +kernel
theorem dX3_relay_36 : decode cX3_relay 36 = .ok (.istore 4, 2) := by decide +kernel
theorem dX3_relay_38 : decode cX3_relay 38 = .ok (.aload_n 0, 1) := by decide +kernel
theorem dX3_relay_39 : decode cX3_relay 39 = .ok (.getfield 35, 3) := by decide +kernel
theorem dX3_relay_42 : decode cX3_relay 42 = .ok (.ifCond .ne 18, 3) := by decide +kernel
theorem dX3_relay_45 : decode cX3_relay 45 = .ok (.iload_n 3, 1) := by decide +kernel
theorem dX3_relay_46 : decode cX3_relay 46 = .ok (.iconst 1, 1) := by decide +kernel
theorem dX3_relay_47 : decode cX3_relay 47 = .ok (.if_icmp .ne 16, 3) := by decide +kernel
theorem dX3_relay_50 : decode cX3_relay 50 = .ok (.aload_n 0, 1) := by decide +kernel
theorem dX3_relay_51 : decode cX3_relay 51 = .ok (.iload_n 1, 1) := by decide +kernel
theorem dX3_relay_52 : decode cX3_relay 52 = .ok (.iload 4, 2) := by decide +kernel
theorem dX3_relay_54 : decode cX3_relay 54 = .ok (.invokevirtual 92, 3) := by decide +kernel
theorem dX3_relay_57 : decode cX3_relay 57 = .ok (.ifCond .eq 6, 3) := by decide +kernel
theorem dX3_relay_60 : decode cX3_relay 60 = .ok (.bipush (-3), 2) := by decide +kernel
theorem dX3_relay_62 : decode cX3_relay 62 = .ok (.ireturn, 1) := by decide +kernel
theorem dX3_relay_63 : decode cX3_relay 63 = .ok (.aload_n 0, 1) := by decide +kernel
theorem dX3_relay_64 : decode cX3_relay 64 = .ok (.getfield 17, 3) := by decide +kernel
theorem dX3_relay_67 : decode cX3_relay 67 = .ok (.iload_n 1, 1) := by decide +kernel
theorem dX3_relay_68 : decode cX3_relay 68 = .ok (.iaload, 1) := by decide +kernel
theorem dX3_relay_69 : decode cX3_relay 69 = .ok (.iload 4, 2) := by decide +kernel
theorem dX3_relay_71 : decode cX3_relay 71 = .ok (.iand, 1) := by decide +kernel
theorem dX3_relay_72 : decode cX3_relay 72 = .ok (.ifCond .eq 7, 3) := by decide +kernel
theorem dX3_relay_75 : decode cX3_relay 75 = .ok (.iconst 1, 1) := by decide +kernel
theorem dX3_relay_76 : decode cX3_relay 76 = .ok (.goto 4, 3) := by decide +kernel
theorem dX3_relay_79 : decode cX3_relay 79 = .ok (.iconst 0, 1) := by decide +kernel
theorem dX3_relay_80 : decode cX3_relay 80 = .ok (.istore 5, 2) := by decide +kernel
theorem dX3_relay_82 : decode cX3_relay 82 = .ok (.aload_n 0, 1) := by decide +kernel
theorem dX3_relay_83 : decode cX3_relay 83 = .ok (.getfield 17, 3) := by decide +kernel
theorem dX3_relay_86 : decode cX3_relay 86 = .ok (.iload_n 1, 1) := by decide +kernel
theorem dX3_relay_87 : decode cX3_relay 87 = .ok (.iload_n 3, 1) := by decide +kernel
theorem dX3_relay_88 : decode cX3_relay 88 = .ok (.iconst 1, 1) := by decide +kernel
theorem dX3_relay_89 : decode cX3_relay 89 = .ok (.if_icmp .ne 15, 3) := by decide +kernel
theorem dX3_relay_92 : decode cX3_relay 92 = .ok (.aload_n 0, 1) := by decide +kernel
theorem dX3_relay_93 : decode cX3_relay 93 = .ok (.getfield 17, 3) := by decide +kernel
theorem dX3_relay_96 : decode cX3_relay 96 = .ok (.iload_n 1, 1) := by decide +kernel
theorem dX3_relay_97 : decode cX3_relay 97 = .ok (.iaload, 1) := by decide +kernel
theorem dX3_relay_98 : decode cX3_relay 98 = .ok (.iload 4, 2) := by decide +kernel
theorem dX3_relay_100 : decode cX3_relay 100 = .ok (.ior, 1) := by decide +kernel
theorem dX3_relay_101 : decode cX3_relay 101 = .ok (.goto 14, 3) := by decide +kernel
theorem dX3_relay_104 : decode cX3_relay 104 = .ok (.aload_n 0, 1) := by decide +kernel
theorem dX3_relay_105 : decode cX3_relay 105 = .ok (.getfield 17, 3) := by decide +kernel
theorem dX3_relay_108 : decode cX3_relay 108 = .ok (.iload_n 1, 1) := by decide +kernel
theorem dX3_relay_109 : decode cX3_relay 109 = .ok (.iaload, 1) := by decide +kernel
theorem dX3_relay_110 : decode cX3_relay 110 = .ok (.iload 4, 2) := by decide +kernel
theorem dX3_relay_112 : decode cX3_relay 112 = .ok (.iconst (-1), 1) := by decide +kernel
theorem dX3_relay_113 : decode cX3_relay 113 = .ok (.ixor, 1) := by decide +kernel
theorem dX3_relay_114 : decode cX3_relay 114 = .ok (.iand, 1) := by decide +kernel
theorem dX3_relay_115 : decode cX3_relay 115 = .ok (.iastore, 1) := by decide +kernel
theorem dX3_relay_116 : decode cX3_relay 116 = .ok (.iload 5, 2) := by decide +kernel
theorem dX3_relay_118 : decode cX3_relay 118 = .ok (.ireturn, 1) := by decide +kernel
set_option maxRecDepth 20000 in
theorem ggX3_pins_X3_within : GoodIn wsX3_pins wsX3_within := goodIn_r _ [5] (by decide +kernel) (by decide +kernel)
set_option maxRecDepth 20000 in
theorem gX3_pins_X3_within : GoodIn wsX3_pins (va_wsS RX3 47 yX3_within wsX3_within) := goodIn_app (goodIn_of _ (by decide +kernel)) ggX3_pins_X3_within
theorem dX3_pins_0 : decode cX3_pins 0 = .ok (.iload_n 1, 1) := by decide +kernel
theorem dX3_pins_1 : decode cX3_pins 1 = .ok (.iconst 0, 1) := by decide +kernel
theorem dX3_pins_2 : decode cX3_pins 2 = .ok (.iconst 3, 1) := by decide +kernel
theorem dX3_pins_3 : decode cX3_pins 3 = .ok (.invokestatic 47, 3) := by decide +kernel
theorem dX3_pins_6 : decode cX3_pins 6 = .ok (.ifCond .eq 12, 3) := by decide +kernel
theorem dX3_pins_9 : decode cX3_pins 9 = .ok (.aload_n 0, 1) := by decide +kernel
theorem dX3_pins_10 : decode cX3_pins 10 = .ok (.getfield 17, 3) := by decide +kernel
theorem dX3_pins_13 : decode cX3_pins 13 = .ok (.iload_n 1, 1) := by decide +kernel
theorem dX3_pins_14 : decode cX3_pins 14 = .ok (.iaload, 1) := by decide +kernel
theorem dX3_pins_15 : decode cX3_pins 15 = .ok (.goto 4, 3) := by decide +kernel
theorem dX3_pins_18 : decode cX3_pins 18 = .ok (.iconst (-1), 1) := by decide +kernel
theorem dX3_pins_19 : decode cX3_pins 19 = .ok (.ireturn, 1) := by decide +kernel
set_option maxRecDepth 20000 in
theorem ggX3_power_X3_within : GoodIn wsX3_power wsX3_within := goodIn_r _ [5] (by decide +kernel) (by decide +kernel)
set_option maxRecDepth 20000 in
theorem gX3_power_X3_within : GoodIn wsX3_power (va_wsS RX3 47 yX3_within wsX3_within) := goodIn_app (goodIn_of _ (by decide +kernel)) ggX3_power_X3_within
set_option maxRecDepth 20000 in
theorem ggX3_power_X3_inHand : GoodIn wsX3_power wsX3_inHand := goodIn_r _ [9, 10, 11, 12, 13, 14, 4, 15, 16, 17, 18, 19, 20, 21, 22, 23, 24, 25, 26, 27, 28, 29, 30, 31, 32, 33, 34, 35, 36, 37, 38, 39, 40, 41, 42, 43, 44, 45, 46, 47, 48] (by decide +kernel) (by decide +kernel)
set_option maxRecDepth 20000 in
theorem gX3_power_X3_inHand : GoodIn wsX3_power (wsV RX3 95 RX3 yX3_inHand wsX3_inHand) := goodIn_app (goodIn_of _ (by decide +kernel)) ggX3_power_X3_inHand
theorem dX3_power_0 : decode cX3_power 0 = .ok (.iload_n 1, 1) := by decide +kernel
theorem dX3_power_1 : decode cX3_power 1 = .ok (.iconst 0, 1) := by decide +kernel
theorem dX3_power_2 : decode cX3_power 2 = .ok (.iconst 1, 1) := by decide +kernel
theorem dX3_power_3 : decode cX3_power 3 = .ok (.invokestatic 47, 3) := by decide +kernel
theorem dX3_power_6 : decode cX3_power 6 = .ok (.ifCond .ne 6, 3) := by decide +kernel
theorem dX3_power_9 : decode cX3_power 9 = .ok (.bipush (-2), 2) := by decide +kernel
theorem dX3_power_11 : decode cX3_power 11 = .ok (.ireturn, 1) := by decide +kernel
theorem dX3_power_12 : decode cX3_power 12 = .ok (.iload_n 1, 1) := by decide +kernel
theorem dX3_power_13 : decode cX3_power 13 = .ok (.iconst 1, 1) := by decide +kernel
theorem dX3_power_14 : decode cX3_power 14 = .ok (.if_icmp .ne 15, 3) := by decide +kernel
theorem dX3_power_17 : decode cX3_power 17 = .ok (.aload_n 0, 1) := by decide +kernel
theorem dX3_power_18 : decode cX3_power 18 = .ok (.invokevirtual 95, 3) := by decide +kernel
theorem dX3_power_21 : decode cX3_power 21 = .ok (.bipush (-9), 2) := by decide +kernel
theorem dX3_power_23 : decode cX3_power 23 = .ok (.if_icmp .ne 6, 3) := by decide +kernel
theorem dX3_power_26 : decode cX3_power 26 = .ok (.bipush (-3), 2) := by decide +kernel
theorem dX3_power_28 : decode cX3_power 28 = .ok (.ireturn, 1) := by decide +kernel
theorem dX3_power_29 : decode cX3_power 29 = .ok (.aload_n 0, 1) := by decide +kernel
theorem dX3_power_30 : decode cX3_power 30 = .ok (.getfield 35, 3) := by decide +kernel
theorem dX3_power_33 : decode cX3_power 33 = .ok (.ifCond .eq 7, 3) := by decide +kernel
theorem dX3_power_36 : decode cX3_power 36 = .ok (.iconst 1, 1) := by decide +kernel
theorem dX3_power_37 : decode cX3_power 37 = .ok (.goto 4, 3) := by decide +kernel
theorem dX3_power_40 : decode cX3_power 40 = .ok (.iconst 0, 1) := by decide +kernel
theorem dX3_power_41 : decode cX3_power 41 = .ok (.istore_n 2, 1) := by decide +kernel
theorem dX3_power_42 : decode cX3_power 42 = .ok (.aload_n 0, 1) := by decide +kernel
theorem dX3_power_43 : decode cX3_power 43 = .ok (.iload_n 1, 1) := by decide +kernel
theorem dX3_power_44 : decode cX3_power 44 = .ok (.iconst 1, 1) := by decide +kernel
theorem dX3_power_45 : decode cX3_power 45 = .ok (.if_icmp .ne 7, 3) := by decide +kernel
theorem dX3_power_48 : decode cX3_power 48 = .ok (.iconst 1, 1) := by decide +kernel
theorem dX3_power_49 : decode cX3_power 49 = .ok (.goto 4, 3) := by decide +kernel
theorem dX3_power_52 : decode cX3_power 52 = .ok (.iconst 0, 1) := by decide +kernel
theorem dX3_power_53 : decode cX3_power 53 = .ok (.putfield 35, 3) := by decide +kernel
theorem dX3_power_56 : decode cX3_power 56 = .ok (.iload_n 2, 1) := by decide +kernel
theorem dX3_power_57 : decode cX3_power 57 = .ok (.ireturn, 1) := by decide +kernel
set_option maxRecDepth 20000 in
theorem ggX3_limit_X3_within : GoodIn wsX3_limit wsX3_within := goodIn_r _ [5] (by decide +kernel) (by decide +kernel)
set_option maxRecDepth 20000 in
theorem gX3_limit_X3_within : GoodIn wsX3_limit (va_wsS RX3 47 yX3_within wsX3_within) := goodIn_app (goodIn_of _ (by decide +kernel)) ggX3_limit_X3_within
theorem dX3_limit_0 : decode cX3_limit 0 = .ok (.iload_n 1, 1) := by decide +kernel
theorem dX3_limit_1 : decode cX3_limit 1 = .ok (.iconst 1, 1) := by decide +kernel
theorem dX3_limit_2 : decode cX3_limit 2 = .ok (.sipush 20000, 3) := by decide +kernel
theorem dX3_limit_5 : decode cX3_limit 5 = .ok (.invokestatic 47, 3) := by decide +kernel
theorem dX3_limit_8 : decode cX3_limit 8 = .ok (.ifCond .ne 6, 3) := by decide +kernel
theorem dX3_limit_11 : decode cX3_limit 11 = .ok (.bipush (-2), 2) := by decide +kernel
theorem dX3_limit_13 : decode cX3_limit 13 = .ok (.ireturn, 1) := by decide +kernel
theorem dX3_limit_14 : decode cX3_limit 14 = .ok (.aload_n 0, 1) := by decide +kernel
theorem dX3_limit_15 : decode cX3_limit 15 = .ok (.getfield 39, 3) := by decide +kernel
theorem dX3_limit_18 : decode cX3_limit 18 = .ok (.istore_n 2, 1) := by decide +kernel
theorem dX3_limit_19 : decode cX3_limit 19 = .ok (.aload_n 0, 1) := by decide +kernel
theorem dX3_limit_20 : decode cX3_limit 20 = .ok (.iload_n 1, 1) := by decide +kernel
theorem dX3_limit_21 : decode cX3_limit 21 = .ok (.putfield 39, 3) := by decide +kernel
theorem dX3_limit_24 : decode cX3_limit 24 = .ok (.iload_n 2, 1) := by decide +kernel
theorem dX3_limit_25 : decode cX3_limit 25 = .ok (.ireturn, 1) := by decide +kernel
set_option maxRecDepth 20000 in
theorem ggX3_leads_X3_within : GoodIn wsX3_leads wsX3_within := goodIn_r _ [5] (by decide +kernel) (by decide +kernel)
set_option maxRecDepth 20000 in
theorem gX3_leads_X3_within : GoodIn wsX3_leads (va_wsS RX3 47 yX3_within wsX3_within) := goodIn_app (goodIn_of _ (by decide +kernel)) ggX3_leads_X3_within
theorem dX3_leads_0 : decode cX3_leads 0 = .ok (.iload_n 1, 1) := by decide +kernel
theorem dX3_leads_1 : decode cX3_leads 1 = .ok (.iconst 0, 1) := by decide +kernel
theorem dX3_leads_2 : decode cX3_leads 2 = .ok (.sipush 200, 3) := by decide +kernel
theorem dX3_leads_5 : decode cX3_leads 5 = .ok (.invokestatic 47, 3) := by decide +kernel
theorem dX3_leads_8 : decode cX3_leads 8 = .ok (.ifCond .ne 6, 3) := by decide +kernel
theorem dX3_leads_11 : decode cX3_leads 11 = .ok (.bipush (-2), 2) := by decide +kernel
theorem dX3_leads_13 : decode cX3_leads 13 = .ok (.ireturn, 1) := by decide +kernel
theorem dX3_leads_14 : decode cX3_leads 14 = .ok (.aload_n 0, 1) := by decide +kernel
theorem dX3_leads_15 : decode cX3_leads 15 = .ok (.getfield 43, 3) := by decide +kernel
theorem dX3_leads_18 : decode cX3_leads 18 = .ok (.istore_n 2, 1) := by decide +kernel
theorem dX3_leads_19 : decode cX3_leads 19 = .ok (.aload_n 0, 1) := by decide +kernel
theorem dX3_leads_20 : decode cX3_leads 20 = .ok (.iload_n 1, 1) := by decide +kernel
theorem dX3_leads_21 : decode cX3_leads 21 = .ok (.putfield 43, 3) := by decide +kernel
theorem dX3_leads_24 : decode cX3_leads 24 = .ok (.iload_n 2, 1) := by decide +kernel
theorem dX3_leads_25 : decode cX3_leads 25 = .ok (.ireturn, 1) := by decide +kernel
set_option maxRecDepth 20000 in
theorem ggX3_now_X3_inHand : GoodIn wsX3_now wsX3_inHand := goodIn_r _ [8, 9, 10, 11, 12, 13, 7, 14, 15, 16, 17, 18, 19, 20, 21, 22, 23, 24, 25, 26, 27, 28, 33, 34, 35, 36, 37, 38, 39, 40, 41, 42, 43, 44, 45, 46, 47, 48, 49, 50, 51] (by decide +kernel) (by decide +kernel)
set_option maxRecDepth 20000 in
theorem gX3_now_X3_inHand : GoodIn wsX3_now (wsV RX3 95 RX3 yX3_inHand wsX3_inHand) := goodIn_app (goodIn_of _ (by decide +kernel)) ggX3_now_X3_inHand
set_option maxRecDepth 20000 in
theorem ggX3_now_X3_fourWires : GoodIn wsX3_now wsX3_fourWires := goodIn_r _ [32, 15, 11, 12, 13, 7, 14, 16, 17, 18, 19, 20, 21, 22, 33, 34, 35, 36, 37, 38, 39] (by decide +kernel) (by decide +kernel)
set_option maxRecDepth 20000 in
theorem gX3_now_X3_fourWires : GoodIn wsX3_now (wsV RX3 99 RX3 yX3_fourWires wsX3_fourWires) := goodIn_app (goodIn_of _ (by decide +kernel)) ggX3_now_X3_fourWires
theorem dX3_now_0 : decode cX3_now 0 = .ok (.iload_n 1, 1) := by decide +kernel
theorem dX3_now_1 : decode cX3_now 1 = .ok (.tableswitch 76 0 4 #[35, 40, 53, 66, 71], 35) := by decide +kernel
theorem dX3_now_36 : decode cX3_now 36 = .ok (.aload_n 0, 1) := by decide +kernel
theorem dX3_now_37 : decode cX3_now 37 = .ok (.invokevirtual 95, 3) := by decide +kernel
theorem dX3_now_40 : decode cX3_now 40 = .ok (.ireturn, 1) := by decide +kernel
theorem dX3_now_41 : decode cX3_now 41 = .ok (.aload_n 0, 1) := by decide +kernel
theorem dX3_now_42 : decode cX3_now 42 = .ok (.invokevirtual 99, 3) := by decide +kernel
theorem dX3_now_45 : decode cX3_now 45 = .ok (.ifCond .eq 7, 3) := by decide +kernel
theorem dX3_now_48 : decode cX3_now 48 = .ok (.iconst 4, 1) := by decide +kernel
theorem dX3_now_49 : decode cX3_now 49 = .ok (.goto 4, 3) := by decide +kernel
theorem dX3_now_52 : decode cX3_now 52 = .ok (.iconst 2, 1) := by decide +kernel
theorem dX3_now_53 : decode cX3_now 53 = .ok (.ireturn, 1) := by decide +kernel
theorem dX3_now_54 : decode cX3_now 54 = .ok (.aload_n 0, 1) := by decide +kernel
theorem dX3_now_55 : decode cX3_now 55 = .ok (.getfield 35, 3) := by decide +kernel
theorem dX3_now_58 : decode cX3_now 58 = .ok (.ifCond .eq 7, 3) := by decide +kernel
theorem dX3_now_61 : decode cX3_now 61 = .ok (.iconst 1, 1) := by decide +kernel
theorem dX3_now_62 : decode cX3_now 62 = .ok (.goto 4, 3) := by decide +kernel
theorem dX3_now_65 : decode cX3_now 65 = .ok (.iconst 0, 1) := by decide +kernel
theorem dX3_now_66 : decode cX3_now 66 = .ok (.ireturn, 1) := by decide +kernel
theorem dX3_now_67 : decode cX3_now 67 = .ok (.aload_n 0, 1) := by decide +kernel
theorem dX3_now_68 : decode cX3_now 68 = .ok (.getfield 39, 3) := by decide +kernel
theorem dX3_now_71 : decode cX3_now 71 = .ok (.ireturn, 1) := by decide +kernel
theorem dX3_now_72 : decode cX3_now 72 = .ok (.aload_n 0, 1) := by decide +kernel
theorem dX3_now_73 : decode cX3_now 73 = .ok (.getfield 43, 3) := by decide +kernel
theorem dX3_now_76 : decode cX3_now 76 = .ok (.ireturn, 1) := by decide +kernel
theorem dX3_now_77 : decode cX3_now 77 = .ok (.bipush (-2), 2) := by decide +kernel
theorem dX3_now_79 : decode cX3_now 79 = .ok (.ireturn, 1) := by decide +kernel
set_option maxRecDepth 20000 in
theorem ggX3_amps_X3_partAt : GoodIn wsX3_amps wsX3_partAt := goodIn_r _ [6, 7, 8, 9, 10, 5, 11, 36, 37, 38, 39, 40, 41, 42, 43, 44, 45, 46, 47, 48, 49, 50, 51, 52, 53, 54] (by decide +kernel) (by decide +kernel)
set_option maxRecDepth 20000 in
theorem gX3_amps_X3_partAt : GoodIn wsX3_amps (wsV RX3 58 RX3 yX3_partAt wsX3_partAt) := goodIn_app (goodIn_of _ (by decide +kernel)) ggX3_amps_X3_partAt
set_option maxRecDepth 20000 in
theorem ggX3_amps_X3_isVolts : GoodIn wsX3_amps wsX3_isVolts := goodIn_r _ [14, 9, 10, 5, 11] (by decide +kernel) (by decide +kernel)
set_option maxRecDepth 20000 in
theorem gX3_amps_X3_isVolts : GoodIn wsX3_amps (va_wsS RX3 103 yX3_isVolts wsX3_isVolts) := goodIn_app (goodIn_of _ (by decide +kernel)) ggX3_amps_X3_isVolts
set_option maxRecDepth 20000 in
theorem ggX3_amps_X1_ownAmps : GoodIn wsX3_amps wsX1_ownAmps := goodIn_r _ [19, 20, 21, 22, 23, 24, 25, 18, 26, 27, 28, 29, 30, 31, 32, 33, 34, 35, 43, 44, 45, 46, 47, 48, 49, 50, 51, 52, 53, 54] (by decide +kernel) (by decide +kernel)
set_option maxRecDepth 20000 in
theorem gX3_amps_X1_ownAmps : GoodIn wsX3_amps (wsV RX3 107 RX1 yX1_ownAmps wsX1_ownAmps) := goodIn_app (goodIn_of _ (by decide +kernel)) ggX3_amps_X1_ownAmps
theorem dX3_amps_0 : decode cX3_amps 0 = .ok (.aload_n 0, 1) := by decide +kernel
theorem dX3_amps_1 : decode cX3_amps 1 = .ok (.iload_n 1, 1) := by decide +kernel
theorem dX3_amps_2 : decode cX3_amps 2 = .ok (.invokevirtual 58, 3) := by decide +kernel
theorem dX3_amps_5 : decode cX3_amps 5 = .ok (.astore_n 3, 1) := by decide +kernel
theorem dX3_amps_6 : decode cX3_amps 6 = .ok (.aload_n 3, 1) := by decide +kernel
theorem dX3_amps_7 : decode cX3_amps 7 = .ok (.ifnonnull 5, 3) := by decide +kernel
theorem dX3_amps_10 : decode cX3_amps 10 = .ok (.iconst (-1), 1) := by decide +kernel
theorem dX3_amps_11 : decode cX3_amps 11 = .ok (.ireturn, 1) := by decide +kernel
theorem dX3_amps_12 : decode cX3_amps 12 = .ok (.iload_n 2, 1) := by decide +kernel
theorem dX3_amps_13 : decode cX3_amps 13 = .ok (.invokestatic 103, 3) := by decide +kernel
theorem dX3_amps_16 : decode cX3_amps 16 = .ok (.ifCond .eq 14, 3) := by decide +kernel
theorem dX3_amps_19 : decode cX3_amps 19 = .ok (.aload_n 3, 1) := by decide +kernel
theorem dX3_amps_20 : decode cX3_amps 20 = .ok (.iload_n 2, 1) := by decide +kernel
theorem dX3_amps_21 : decode cX3_amps 21 = .ok (.invokevirtual 107, 3) := by decide +kernel
theorem dX3_amps_24 : decode cX3_amps 24 = .ok (.ldc 110, 2) := by decide +kernel
theorem dX3_amps_26 : decode cX3_amps 26 = .ok (.iadd, 1) := by decide +kernel
theorem dX3_amps_27 : decode cX3_amps 27 = .ok (.goto 5, 3) := by decide +kernel
theorem dX3_amps_30 : decode cX3_amps 30 = .ok (.bipush (-2), 2) := by decide +kernel
theorem dX3_amps_32 : decode cX3_amps 32 = .ok (.ireturn, 1) := by decide +kernel
set_option maxRecDepth 20000 in
theorem ggX3_would_X3_isVolts : GoodIn wsX3_would wsX3_isVolts := goodIn_r _ [5, 6, 7, 4, 8] (by decide +kernel) (by decide +kernel)
set_option maxRecDepth 20000 in
theorem gX3_would_X3_isVolts : GoodIn wsX3_would (va_wsS RX3 103 yX3_isVolts wsX3_isVolts) := goodIn_app (goodIn_of _ (by decide +kernel)) ggX3_would_X3_isVolts
set_option maxRecDepth 20000 in
theorem ggX3_would_X3_within : GoodIn wsX3_would wsX3_within := goodIn_r _ [8] (by decide +kernel) (by decide +kernel)
set_option maxRecDepth 20000 in
theorem gX3_would_X3_within : GoodIn wsX3_would (va_wsS RX3 47 yX3_within wsX3_within) := goodIn_app (goodIn_of _ (by decide +kernel)) ggX3_would_X3_within
set_option maxRecDepth 20000 in
theorem ggX3_would_X3_inHand : GoodIn wsX3_would wsX3_inHand := goodIn_r _ [12, 13, 14, 15, 16, 17, 4, 18, 19, 20, 21, 22, 23, 24, 25, 26, 27, 28, 29, 30, 31, 32, 97, 98, 99, 100, 101, 102, 103, 104, 105, 106, 107, 108, 109, 110, 111, 112, 113, 114, 115] (by decide +kernel) (by decide +kernel)
set_option maxRecDepth 20000 in
theorem gX3_would_X3_inHand : GoodIn wsX3_would (wsV RX3 95 RX3 yX3_inHand wsX3_inHand) := goodIn_app (goodIn_of _ (by decide +kernel)) ggX3_would_X3_inHand
set_option maxRecDepth 20000 in
theorem ggX3_would_X3_partAt : GoodIn wsX3_would wsX3_partAt := goodIn_r _ [36, 13, 14, 6, 7, 4, 8, 97, 98, 99, 100, 101, 102, 103, 104, 105, 106, 107, 108, 109, 110, 111, 112, 113, 114, 115] (by decide +kernel) (by decide +kernel)
set_option maxRecDepth 20000 in
theorem gX3_would_X3_partAt : GoodIn wsX3_would (wsV RX3 58 RX3 yX3_partAt wsX3_partAt) := goodIn_app (goodIn_of _ (by decide +kernel)) ggX3_would_X3_partAt
set_option maxRecDepth 20000 in
theorem ggX3_would_X3_farthest : GoodIn wsX3_would wsX3_farthest := goodIn_r _ [40, 41, 42, 43, 44, 45, 46, 47, 4, 48, 49, 50, 51, 52, 53, 54, 55, 56, 57, 31, 19, 58, 59, 60, 61, 62, 63, 64, 65, 66, 67, 68, 69, 70, 71, 72, 73, 74, 75, 76, 77, 78, 79, 80, 81, 82, 15, 16, 17, 18, 20, 21, 22, 23, 24, 25, 26, 83, 84, 85, 86, 87, 88, 97, 98, 99, 100, 101, 102, 103, 104, 105, 106, 107, 108, 109, 110, 111, 112, 113, 114, 115] (by decide +kernel) (by decide +kernel)
set_option maxRecDepth 20000 in
theorem gX3_would_X3_farthest : GoodIn wsX3_would (wsV RX3 111 RX3 yX3_farthest wsX3_farthest) := goodIn_app (goodIn_of _ (by decide +kernel)) ggX3_would_X3_farthest
set_option maxRecDepth 20000 in
theorem ggX3_would_X3_ampsAt : GoodIn wsX3_would wsX3_ampsAt := goodIn_r _ [53, 54, 55, 56, 4, 57, 31, 19, 58, 59, 60, 61, 62, 63, 64, 65, 66, 67, 68, 69, 70, 71, 72, 73, 74, 75, 76, 77, 78, 104, 105, 106, 107, 108, 109, 110, 111, 112, 113, 114, 115, 97, 98, 99, 100, 101, 102, 103] (by decide +kernel) (by decide +kernel)
set_option maxRecDepth 20000 in
theorem gX3_would_X3_ampsAt : GoodIn wsX3_would (wsV RX3 115 RX3 yX3_ampsAt wsX3_ampsAt) := goodIn_app (goodIn_of _ (by decide +kernel)) ggX3_would_X3_ampsAt
set_option maxRecDepth 20000 in
theorem ggX3_would_X3_ruleAt : GoodIn wsX3_would wsX3_ruleAt := goodIn_r _ [92, 93, 94, 95, 4, 96, 41, 42, 43, 44, 49, 50, 51, 52, 53, 54, 55, 56, 57, 31, 19, 58, 59, 60, 61, 62, 63, 64, 65, 66, 67, 68, 69, 70, 71, 72, 73, 74, 75, 76, 77, 78, 97, 98, 99, 100, 101, 102, 103, 104, 105, 106, 107, 108, 109, 110, 111, 112, 113, 114, 115] (by decide +kernel) (by decide +kernel)
set_option maxRecDepth 20000 in
theorem gX3_would_X3_ruleAt : GoodIn wsX3_would (wsV RX3 118 RX3 yX3_ruleAt wsX3_ruleAt) := goodIn_app (goodIn_of _ (by decide +kernel)) ggX3_would_X3_ruleAt
theorem dX3_would_0 : decode cX3_would 0 = .ok (.iload_n 1, 1) := by decide +kernel
theorem dX3_would_1 : decode cX3_would 1 = .ok (.invokestatic 103, 3) := by decide +kernel
theorem dX3_would_4 : decode cX3_would 4 = .ok (.ifCond .eq 12, 3) := by decide +kernel
theorem dX3_would_7 : decode cX3_would 7 = .ok (.iload_n 2, 1) := by decide +kernel
theorem dX3_would_8 : decode cX3_would 8 = .ok (.iconst 0, 1) := by decide +kernel
theorem dX3_would_9 : decode cX3_would 9 = .ok (.iconst 2, 1) := by decide +kernel
theorem dX3_would_10 : decode cX3_would 10 = .ok (.invokestatic 47, 3) := by decide +kernel
theorem dX3_would_13 : decode cX3_would 13 = .ok (.ifCond .ne 6, 3) := by decide +kernel
theorem dX3_would_16 : decode cX3_would 16 = .ok (.bipush (-2), 2) := by decide +kernel
theorem dX3_would_18 : decode cX3_would 18 = .ok (.ireturn, 1) := by decide +kernel
theorem dX3_would_19 : decode cX3_would 19 = .ok (.aload_n 0, 1) := by decide +kernel
theorem dX3_would_20 : decode cX3_would 20 = .ok (.aload_n 0, 1) := by decide +kernel
theorem dX3_would_21 : decode cX3_would 21 = .ok (.invokevirtual 95, 3) := by decide +kernel
theorem dX3_would_24 : decode cX3_would 24 = .ok (.invokevirtual 58, 3) := by decide +kernel
theorem dX3_would_27 : decode cX3_would 27 = .ok (.astore_n 3, 1) := by decide +kernel
theorem dX3_would_28 : decode cX3_would 28 = .ok (.aload_n 3, 1) := by decide +kernel
theorem dX3_would_29 : decode cX3_would 29 = .ok (.ifnonnull 6, 3) := by decide +kernel
theorem dX3_would_32 : decode cX3_would 32 = .ok (.bipush (-3), 2) := by decide +kernel
theorem dX3_would_34 : decode cX3_would 34 = .ok (.ireturn, 1) := by decide +kernel
theorem dX3_would_35 : decode cX3_would 35 = .ok (.aload_n 0, 1) := by decide +kernel
theorem dX3_would_36 : decode cX3_would 36 = .ok (.aload_n 3, 1) := by decide +kernel
theorem dX3_would_37 : decode cX3_would 37 = .ok (.iload_n 1, 1) := by decide +kernel
theorem dX3_would_38 : decode cX3_would 38 = .ok (.invokevirtual 111, 3) := by decide +kernel
theorem dX3_would_41 : decode cX3_would 41 = .ok (.istore 4, 2) := by decide +kernel
theorem dX3_would_43 : decode cX3_would 43 = .ok (.iload_n 2, 1) := by decide +kernel
theorem dX3_would_44 : decode cX3_would 44 = .ok (.lookupswitch 46 #[(0, 28), (1, 35)], 28) := by decide +kernel
theorem dX3_would_72 : decode cX3_would 72 = .ok (.iload 4, 2) := by decide +kernel
theorem dX3_would_74 : decode cX3_would 74 = .ok (.sipush 10000, 3) := by decide +kernel
theorem dX3_would_77 : decode cX3_would 77 = .ok (.iadd, 1) := by decide +kernel
theorem dX3_would_78 : decode cX3_would 78 = .ok (.ireturn, 1) := by decide +kernel
theorem dX3_would_79 : decode cX3_would 79 = .ok (.aload_n 0, 1) := by decide +kernel
theorem dX3_would_80 : decode cX3_would 80 = .ok (.aload_n 3, 1) := by decide +kernel
theorem dX3_would_81 : decode cX3_would 81 = .ok (.iload 4, 2) := by decide +kernel
theorem dX3_would_83 : decode cX3_would 83 = .ok (.invokevirtual 115, 3) := by decide +kernel
theorem dX3_would_86 : decode cX3_would 86 = .ok (.ldc 110, 2) := by decide +kernel
theorem dX3_would_88 : decode cX3_would 88 = .ok (.iadd, 1) := by decide +kernel
theorem dX3_would_89 : decode cX3_would 89 = .ok (.ireturn, 1) := by decide +kernel
theorem dX3_would_90 : decode cX3_would 90 = .ok (.aload_n 0, 1) := by decide +kernel
theorem dX3_would_91 : decode cX3_would 91 = .ok (.aload_n 3, 1) := by decide +kernel
theorem dX3_would_92 : decode cX3_would 92 = .ok (.iload 4, 2) := by decide +kernel
theorem dX3_would_94 : decode cX3_would 94 = .ok (.iload_n 1, 1) := by decide +kernel
theorem dX3_would_95 : decode cX3_would 95 = .ok (.invokevirtual 118, 3) := by decide +kernel
theorem dX3_would_98 : decode cX3_would 98 = .ok (.ireturn, 1) := by decide +kernel
set_option maxRecDepth 20000 in
theorem ggX3_pulse_X3_isVolts : GoodIn wsX3_pulse wsX3_isVolts := goodIn_r _ [8, 9, 10, 7, 11] (by decide +kernel) (by decide +kernel)
set_option maxRecDepth 20000 in
theorem gX3_pulse_X3_isVolts : GoodIn wsX3_pulse (va_wsS RX3 103 yX3_isVolts wsX3_isVolts) := goodIn_app (goodIn_of _ (by decide +kernel)) ggX3_pulse_X3_isVolts
set_option maxRecDepth 20000 in
theorem ggX3_pulse_X3_within : GoodIn wsX3_pulse wsX3_within := goodIn_r _ [11] (by decide +kernel) (by decide +kernel)
set_option maxRecDepth 20000 in
theorem gX3_pulse_X3_within : GoodIn wsX3_pulse (va_wsS RX3 47 yX3_within wsX3_within) := goodIn_app (goodIn_of _ (by decide +kernel)) ggX3_pulse_X3_within
set_option maxRecDepth 20000 in
theorem ggX3_pulse_X3_inHand : GoodIn wsX3_pulse wsX3_inHand := goodIn_r _ [15, 16, 17, 18, 19, 20, 7, 21, 22, 23, 24, 25, 26, 27, 28, 29, 30, 31, 32, 33, 34, 35, 156, 157, 158, 159, 160, 161, 162, 168, 169, 170, 171, 172, 173, 174, 175, 176, 177, 178, 179] (by decide +kernel) (by decide +kernel)
set_option maxRecDepth 20000 in
theorem gX3_pulse_X3_inHand : GoodIn wsX3_pulse (wsV RX3 95 RX3 yX3_inHand wsX3_inHand) := goodIn_app (goodIn_of _ (by decide +kernel)) ggX3_pulse_X3_inHand
set_option maxRecDepth 20000 in
theorem ggX3_pulse_X3_partAt : GoodIn wsX3_pulse wsX3_partAt := goodIn_r _ [39, 16, 17, 9, 10, 7, 11, 156, 157, 158, 159, 160, 161, 162, 168, 169, 170, 171, 172, 173, 174, 175, 176, 177, 178, 179] (by decide +kernel) (by decide +kernel)
set_option maxRecDepth 20000 in
theorem gX3_pulse_X3_partAt : GoodIn wsX3_pulse (wsV RX3 58 RX3 yX3_partAt wsX3_partAt) := goodIn_app (goodIn_of _ (by decide +kernel)) ggX3_pulse_X3_partAt
set_option maxRecDepth 20000 in
theorem ggX3_pulse_X2_room : GoodIn wsX3_pulse wsX2_room := goodIn_r _ [44, 45, 163, 164, 165, 166, 167] (by decide +kernel) (by decide +kernel)
set_option maxRecDepth 20000 in
theorem gX3_pulse_X2_room : GoodIn wsX3_pulse (wsV RX3 122 RX2 yX2_room wsX2_room) := goodIn_app (goodIn_of _ (by decide +kernel)) ggX3_pulse_X2_room
set_option maxRecDepth 20000 in
theorem ggX3_pulse_X0_clearAll : GoodIn wsX3_pulse wsX0_clearAll := goodIn_r _ [50, 51, 180, 181, 182] (by decide +kernel) (by decide +kernel)
set_option maxRecDepth 20000 in
theorem gX3_pulse_X0_clearAll : GoodIn wsX3_pulse (wsV RX3 125 RX0 yX0_clearAll wsX0_clearAll) := goodIn_app (goodIn_of _ (by decide +kernel)) ggX3_pulse_X0_clearAll
set_option maxRecDepth 20000 in
theorem ggX3_pulse_X3_readPulse : GoodIn wsX3_pulse wsX3_readPulse := goodIn_r _ [55, 56, 2, 57, 58, 59, 7, 60, 61, 62, 63, 64, 65, 66, 67, 68, 69, 70, 71, 72, 73, 74, 75, 76, 77, 34, 22, 78, 79, 80, 81, 82, 83, 84, 85, 86, 87, 88, 89, 90, 91, 92, 93, 94, 95, 96, 97, 98, 99, 100, 101, 102, 18, 19, 20, 21, 23, 24, 25, 26, 27, 28, 29, 103, 104, 105, 106, 107, 108, 109, 110, 111, 112, 113, 114, 115, 116, 117, 118, 119, 120, 121, 122, 123, 43, 124, 125, 45, 126, 127, 128, 129, 41, 42, 44, 130, 131, 132, 133, 134, 135, 136, 137, 138, 139, 140, 141, 142, 143, 144, 145, 168, 169, 170, 171, 172, 173, 174, 175, 176, 177, 178, 179, 156, 157, 158, 159, 160, 161, 162, 163, 164, 165, 166, 167] (by decide +kernel) (by decide +kernel)
set_option maxRecDepth 20000 in
theorem gX3_pulse_X3_readPulse : GoodIn wsX3_pulse (wsV RX3 128 RX3 yX3_readPulse wsX3_readPulse) := goodIn_app (goodIn_of _ (by decide +kernel)) ggX3_pulse_X3_readPulse
set_option maxRecDepth 20000 in
theorem ggX3_pulse_X3_tellBurnt : GoodIn wsX3_pulse wsX3_tellBurnt := goodIn_r _ [149, 3, 150, 151, 152, 49, 153, 51, 154, 155, 156, 157, 158, 159, 160, 161, 162, 180, 181, 182] (by decide +kernel) (by decide +kernel)
set_option maxRecDepth 20000 in
theorem gX3_pulse_X3_tellBurnt : GoodIn wsX3_pulse (wsV RX3 131 RX3 yX3_tellBurnt wsX3_tellBurnt) := goodIn_app (goodIn_of _ (by decide +kernel)) ggX3_pulse_X3_tellBurnt
theorem dX3_pulse_0 : decode cX3_pulse 0 = .ok (.iload_n 1, 1) := by decide +kernel
theorem dX3_pulse_1 : decode cX3_pulse 1 = .ok (.invokestatic 103, 3) := by decide +kernel
theorem dX3_pulse_4 : decode cX3_pulse 4 = .ok (.ifCond .eq 13, 3) := by decide +kernel
theorem dX3_pulse_7 : decode cX3_pulse 7 = .ok (.iload_n 2, 1) := by decide +kernel
theorem dX3_pulse_8 : decode cX3_pulse 8 = .ok (.iconst 1, 1) := by decide +kernel
theorem dX3_pulse_9 : decode cX3_pulse 9 = .ok (.bipush 50, 2) := by decide +kernel
theorem dX3_pulse_11 : decode cX3_pulse 11 = .ok (.invokestatic 47, 3) := by decide +kernel
theorem dX3_pulse_14 : decode cX3_pulse 14 = .ok (.ifCond .ne 6, 3) := by decide +kernel
theorem dX3_pulse_17 : decode cX3_pulse 17 = .ok (.bipush (-2), 2) := by decide +kernel
theorem dX3_pulse_19 : decode cX3_pulse 19 = .ok (.ireturn, 1) := by decide +kernel
theorem dX3_pulse_20 : decode cX3_pulse 20 = .ok (.aload_n 0, 1) := by decide +kernel
theorem dX3_pulse_21 : decode cX3_pulse 21 = .ok (.invokevirtual 95, 3) := by decide +kernel
theorem dX3_pulse_24 : decode cX3_pulse 24 = .ok (.istore_n 3, 1) := by decide +kernel
theorem dX3_pulse_25 : decode cX3_pulse 25 = .ok (.aload_n 0, 1) := by decide +kernel
theorem dX3_pulse_26 : decode cX3_pulse 26 = .ok (.iload_n 3, 1) := by decide +kernel
theorem dX3_pulse_27 : decode cX3_pulse 27 = .ok (.invokevirtual 58, 3) := by decide +kernel
theorem dX3_pulse_30 : decode cX3_pulse 30 = .ok (.astore 4, 2) := by decide +kernel
theorem dX3_pulse_32 : decode cX3_pulse 32 = .ok (.aload_n 0, 1) := by decide +kernel
theorem dX3_pulse_33 : decode cX3_pulse 33 = .ok (.getfield 35, 3) := by decide +kernel
theorem dX3_pulse_36 : decode cX3_pulse 36 = .ok (.ifCond .eq 8, 3) := by decide +kernel
theorem dX3_pulse_39 : decode cX3_pulse 39 = .ok (.aload 4, 2) := by decide +kernel
theorem dX3_pulse_41 : decode cX3_pulse 41 = .ok (.ifnonnull 6, 3) := by decide +kernel
theorem dX3_pulse_44 : decode cX3_pulse 44 = .ok (.bipush (-3), 2) := by decide +kernel
theorem dX3_pulse_46 : decode cX3_pulse 46 = .ok (.ireturn, 1) := by decide +kernel
theorem dX3_pulse_47 : decode cX3_pulse 47 = .ok (.aload_n 0, 1) := by decide +kernel
theorem dX3_pulse_48 : decode cX3_pulse 48 = .ok (.getfield 24, 3) := by decide +kernel
theorem dX3_pulse_51 : decode cX3_pulse 51 = .ok (.invokevirtual 122, 3) := by decide +kernel
theorem dX3_pulse_54 : decode cX3_pulse 54 = .ok (.iconst 1, 1) := by decide +kernel
theorem dX3_pulse_55 : decode cX3_pulse 55 = .ok (.if_icmp .ge 6, 3) := by decide +kernel
theorem dX3_pulse_58 : decode cX3_pulse 58 = .ok (.bipush (-4), 2) := by decide +kernel
theorem dX3_pulse_60 : decode cX3_pulse 60 = .ok (.ireturn, 1) := by decide +kernel
theorem dX3_pulse_61 : decode cX3_pulse 61 = .ok (.aload_n 0, 1) := by decide +kernel
theorem dX3_pulse_62 : decode cX3_pulse 62 = .ok (.getfield 31, 3) := by decide +kernel
theorem dX3_pulse_65 : decode cX3_pulse 65 = .ok (.invokevirtual 125, 3) := by decide +kernel
theorem dX3_pulse_68 : decode cX3_pulse 68 = .ok (.aload_n 0, 1) := by decide +kernel
theorem dX3_pulse_69 : decode cX3_pulse 69 = .ok (.aload 4, 2) := by decide +kernel
theorem dX3_pulse_71 : decode cX3_pulse 71 = .ok (.iload_n 1, 1) := by decide +kernel
theorem dX3_pulse_72 : decode cX3_pulse 72 = .ok (.iload_n 2, 1) := by decide +kernel
theorem dX3_pulse_73 : decode cX3_pulse 73 = .ok (.invokevirtual 128, 3) := by decide +kernel
theorem dX3_pulse_76 : decode cX3_pulse 76 = .ok (.istore 5, 2) := by decide +kernel
theorem dX3_pulse_78 : decode cX3_pulse 78 = .ok (.iload 5, 2) := by decide +kernel
theorem dX3_pulse_80 : decode cX3_pulse 80 = .ok (.ifCond .le 10, 3) := by decide +kernel
theorem dX3_pulse_83 : decode cX3_pulse 83 = .ok (.aload_n 0, 1) := by decide +kernel
theorem dX3_pulse_84 : decode cX3_pulse 84 = .ok (.iload_n 3, 1) := by decide +kernel
theorem dX3_pulse_85 : decode cX3_pulse 85 = .ok (.iload 5, 2) := by decide +kernel
theorem dX3_pulse_87 : decode cX3_pulse 87 = .ok (.invokevirtual 131, 3) := by decide +kernel
theorem dX3_pulse_90 : decode cX3_pulse 90 = .ok (.aload_n 0, 1) := by decide +kernel
theorem dX3_pulse_91 : decode cX3_pulse 91 = .ok (.getfield 24, 3) := by decide +kernel
theorem dX3_pulse_94 : decode cX3_pulse 94 = .ok (.getfield 134, 3) := by decide +kernel
theorem dX3_pulse_97 : decode cX3_pulse 97 = .ok (.ireturn, 1) := by decide +kernel
set_option maxRecDepth 20000 in
theorem ggX3_rest_X3_within : GoodIn wsX3_rest wsX3_within := goodIn_r _ [11] (by decide +kernel) (by decide +kernel)
set_option maxRecDepth 20000 in
theorem gX3_rest_X3_within : GoodIn wsX3_rest (va_wsS RX3 47 yX3_within wsX3_within) := goodIn_app (goodIn_of _ (by decide +kernel)) ggX3_rest_X3_within
set_option maxRecDepth 20000 in
theorem ggX3_rest_X3_coolAll : GoodIn wsX3_rest wsX3_coolAll := goodIn_r _ [15, 1, 16, 17, 18, 19, 20, 21, 22, 23, 24, 25, 26, 27, 28, 29, 30, 31, 32, 33, 34, 35, 36, 37, 38, 39, 40] (by decide +kernel) (by decide +kernel)
set_option maxRecDepth 20000 in
theorem gX3_rest_X3_coolAll : GoodIn wsX3_rest (wsV RX3 137 RX3 yX3_coolAll wsX3_coolAll) := goodIn_app (goodIn_of _ (by decide +kernel)) ggX3_rest_X3_coolAll
theorem dX3_rest_0 : decode cX3_rest 0 = .ok (.iload_n 1, 1) := by decide +kernel
theorem dX3_rest_1 : decode cX3_rest 1 = .ok (.iconst 0, 1) := by decide +kernel
theorem dX3_rest_2 : decode cX3_rest 2 = .ok (.bipush 100, 2) := by decide +kernel
theorem dX3_rest_4 : decode cX3_rest 4 = .ok (.invokestatic 47, 3) := by decide +kernel
theorem dX3_rest_7 : decode cX3_rest 7 = .ok (.ifCond .ne 6, 3) := by decide +kernel
theorem dX3_rest_10 : decode cX3_rest 10 = .ok (.bipush (-2), 2) := by decide +kernel
theorem dX3_rest_12 : decode cX3_rest 12 = .ok (.ireturn, 1) := by decide +kernel
theorem dX3_rest_13 : decode cX3_rest 13 = .ok (.aload_n 0, 1) := by decide +kernel
theorem dX3_rest_14 : decode cX3_rest 14 = .ok (.iload_n 1, 1) := by decide +kernel
theorem dX3_rest_15 : decode cX3_rest 15 = .ok (.invokevirtual 137, 3) := by decide +kernel
theorem dX3_rest_18 : decode cX3_rest 18 = .ok (.iconst 0, 1) := by decide +kernel
theorem dX3_rest_19 : decode cX3_rest 19 = .ok (.istore_n 2, 1) := by decide +kernel
theorem dX3_rest_20 : decode cX3_rest 20 = .ok (.iconst 0, 1) := by decide +kernel
theorem dX3_rest_21 : decode cX3_rest 21 = .ok (.istore_n 3, 1) := by decide +kernel
theorem dX3_rest_22 : decode cX3_rest 22 = .ok (.iload_n 3, 1) := by decide +kernel
theorem dX3_rest_23 : decode cX3_rest 23 = .ok (.aload_n 0, 1) := by decide +kernel
theorem dX3_rest_24 : decode cX3_rest 24 = .ok (.getfield 13, 3) := by decide +kernel
theorem dX3_rest_27 : decode cX3_rest 27 = .ok (.arraylength, 1) := by decide +kernel
theorem dX3_rest_28 : decode cX3_rest 28 = .ok (.if_icmp .ge 35, 3) := by decide +kernel
theorem dX3_rest_31 : decode cX3_rest 31 = .ok (.aload_n 0, 1) := by decide +kernel
theorem dX3_rest_32 : decode cX3_rest 32 = .ok (.getfield 13, 3) := by decide +kernel
theorem dX3_rest_35 : decode cX3_rest 35 = .ok (.iload_n 3, 1) := by decide +kernel
theorem dX3_rest_36 : decode cX3_rest 36 = .ok (.aaload, 1) := by decide +kernel
theorem dX3_rest_37 : decode cX3_rest 37 = .ok (.getfield 51, 3) := by decide +kernel
theorem dX3_rest_40 : decode cX3_rest 40 = .ok (.ifCond .eq 17, 3) := by decide +kernel
theorem dX3_rest_43 : decode cX3_rest 43 = .ok (.iload_n 2, 1) := by decide +kernel
theorem dX3_rest_44 : decode cX3_rest 44 = .ok (.aload_n 0, 1) := by decide +kernel
theorem dX3_rest_45 : decode cX3_rest 45 = .ok (.getfield 13, 3) := by decide +kernel
theorem dX3_rest_48 : decode cX3_rest 48 = .ok (.iload_n 3, 1) := by decide +kernel
theorem dX3_rest_49 : decode cX3_rest 49 = .ok (.aaload, 1) := by decide +kernel
theorem dX3_rest_50 : decode cX3_rest 50 = .ok (.getfield 83, 3) := by decide +kernel
theorem dX3_rest_53 : decode cX3_rest 53 = .ok (.invokestatic 141, 3) := by decide +kernel
theorem dX3_rest_56 : decode cX3_rest 56 = .ok (.istore_n 2, 1) := by decide +kernel
theorem dX3_rest_57 : decode cX3_rest 57 = .ok (.iinc 3 1, 3) := by decide +kernel
theorem dX3_rest_60 : decode cX3_rest 60 = .ok (.goto (-38), 3) := by decide +kernel
theorem dX3_rest_63 : decode cX3_rest 63 = .ok (.iload_n 2, 1) := by decide +kernel
theorem dX3_rest_64 : decode cX3_rest 64 = .ok (.ireturn, 1) := by decide +kernel
set_option maxRecDepth 20000 in
theorem ggX3_sweep_X3_isVolts : GoodIn wsX3_sweep wsX3_isVolts := goodIn_r _ [11, 12, 13, 10, 14] (by decide +kernel) (by decide +kernel)
set_option maxRecDepth 20000 in
theorem gX3_sweep_X3_isVolts : GoodIn wsX3_sweep (va_wsS RX3 103 yX3_isVolts wsX3_isVolts) := goodIn_app (goodIn_of _ (by decide +kernel)) ggX3_sweep_X3_isVolts
set_option maxRecDepth 20000 in
theorem ggX3_sweep_X3_within : GoodIn wsX3_sweep wsX3_within := goodIn_r _ [14] (by decide +kernel) (by decide +kernel)
set_option maxRecDepth 20000 in
theorem gX3_sweep_X3_within : GoodIn wsX3_sweep (va_wsS RX3 47 yX3_within wsX3_within) := goodIn_app (goodIn_of _ (by decide +kernel)) ggX3_sweep_X3_within
set_option maxRecDepth 20000 in
theorem ggX3_sweep_X3_inHand : GoodIn wsX3_sweep wsX3_inHand := goodIn_r _ [18, 19, 20, 21, 22, 23, 10, 24, 25, 26, 27, 28, 29, 30, 31, 32, 33, 34, 35, 36, 37, 38, 163, 164, 165, 166, 167, 168, 169, 170, 171, 172, 173, 174, 175, 176, 177, 178, 179, 180, 181] (by decide +kernel) (by decide +kernel)
set_option maxRecDepth 20000 in
theorem gX3_sweep_X3_inHand : GoodIn wsX3_sweep (wsV RX3 95 RX3 yX3_inHand wsX3_inHand) := goodIn_app (goodIn_of _ (by decide +kernel)) ggX3_sweep_X3_inHand
set_option maxRecDepth 20000 in
theorem ggX3_sweep_X3_partAt : GoodIn wsX3_sweep wsX3_partAt := goodIn_r _ [42, 19, 20, 12, 13, 10, 14, 163, 164, 165, 166, 167, 168, 169, 170, 171, 172, 173, 174, 175, 176, 177, 178, 179, 180, 181] (by decide +kernel) (by decide +kernel)
set_option maxRecDepth 20000 in
theorem gX3_sweep_X3_partAt : GoodIn wsX3_sweep (wsV RX3 58 RX3 yX3_partAt wsX3_partAt) := goodIn_app (goodIn_of _ (by decide +kernel)) ggX3_sweep_X3_partAt
set_option maxRecDepth 20000 in
theorem ggX3_sweep_X2_room : GoodIn wsX3_sweep wsX2_room := goodIn_r _ [47, 48, 182, 183, 184, 185, 186] (by decide +kernel) (by decide +kernel)
set_option maxRecDepth 20000 in
theorem gX3_sweep_X2_room : GoodIn wsX3_sweep (wsV RX3 122 RX2 yX2_room wsX2_room) := goodIn_app (goodIn_of _ (by decide +kernel)) ggX3_sweep_X2_room
set_option maxRecDepth 20000 in
theorem ggX3_sweep_X0_clearAll : GoodIn wsX3_sweep wsX0_clearAll := goodIn_r _ [53, 54, 187, 188, 189] (by decide +kernel) (by decide +kernel)
set_option maxRecDepth 20000 in
theorem gX3_sweep_X0_clearAll : GoodIn wsX3_sweep (wsV RX3 125 RX0 yX0_clearAll wsX0_clearAll) := goodIn_app (goodIn_of _ (by decide +kernel)) ggX3_sweep_X0_clearAll
set_option maxRecDepth 20000 in
theorem ggX3_sweep_X3_readPulse : GoodIn wsX3_sweep wsX3_readPulse := goodIn_r _ [58, 59, 6, 60, 61, 62, 10, 63, 2, 3, 4, 5, 64, 65, 66, 67, 68, 69, 70, 71, 72, 73, 74, 75, 76, 37, 25, 77, 78, 79, 80, 81, 82, 83, 84, 85, 86, 87, 88, 89, 90, 91, 92, 93, 94, 95, 96, 97, 98, 99, 100, 101, 21, 22, 23, 24, 26, 27, 28, 29, 30, 31, 32, 102, 103, 104, 105, 106, 107, 108, 109, 110, 111, 112, 113, 114, 115, 116, 117, 118, 119, 120, 121, 122, 46, 123, 124, 48, 125, 126, 127, 128, 44, 45, 47, 129, 130, 131, 132, 133, 134, 135, 136, 137, 138, 139, 140, 141, 142, 143, 144, 170, 171, 172, 173, 174, 175, 176, 177, 178, 179, 180, 181, 163, 164, 165, 166, 167, 168, 169, 182, 183, 184, 185, 186] (by decide +kernel) (by decide +kernel)
set_option maxRecDepth 20000 in
theorem gX3_sweep_X3_readPulse : GoodIn wsX3_sweep (wsV RX3 128 RX3 yX3_readPulse wsX3_readPulse) := goodIn_app (goodIn_of _ (by decide +kernel)) ggX3_sweep_X3_readPulse
set_option maxRecDepth 20000 in
theorem ggX3_sweep_X0_put : GoodIn wsX3_sweep wsX0_put := goodIn_r _ [148, 54, 149, 150, 187, 188, 189] (by decide +kernel) (by decide +kernel)
set_option maxRecDepth 20000 in
theorem gX3_sweep_X0_put : GoodIn wsX3_sweep (wsV RX3 150 RX0 yX0_put wsX0_put) := goodIn_app (goodIn_of _ (by decide +kernel)) ggX3_sweep_X0_put
set_option maxRecDepth 20000 in
theorem ggX3_sweep_X3_tellBurnt : GoodIn wsX3_sweep wsX3_tellBurnt := goodIn_r _ [154, 7, 145, 146, 147, 52, 148, 54, 149, 150, 163, 164, 165, 166, 167, 168, 169, 187, 188, 189] (by decide +kernel) (by decide +kernel)
set_option maxRecDepth 20000 in
theorem gX3_sweep_X3_tellBurnt : GoodIn wsX3_sweep (wsV RX3 131 RX3 yX3_tellBurnt wsX3_tellBurnt) := goodIn_app (goodIn_of _ (by decide +kernel)) ggX3_sweep_X3_tellBurnt
set_option maxRecDepth 20000 in
theorem ggX3_sweep_X3_coolAll : GoodIn wsX3_sweep wsX3_coolAll := goodIn_r _ [158, 19, 159, 160, 161, 80, 162, 83, 163, 164, 165, 166, 167, 168, 169, 170, 171, 172, 173, 174, 175, 176, 177, 178, 179, 180, 181] (by decide +kernel) (by decide +kernel)
set_option maxRecDepth 20000 in
theorem gX3_sweep_X3_coolAll : GoodIn wsX3_sweep (wsV RX3 137 RX3 yX3_coolAll wsX3_coolAll) := goodIn_app (goodIn_of _ (by decide +kernel)) ggX3_sweep_X3_coolAll
theorem dX3_sweep_0 : decode cX3_sweep 0 = .ok (.iload_n 1, 1) := by decide +kernel
theorem dX3_sweep_1 : decode cX3_sweep 1 = .ok (.invokestatic 103, 3) := by decide +kernel
theorem dX3_sweep_4 : decode cX3_sweep 4 = .ok (.ifCond .eq 53, 3) := by decide +kernel
theorem dX3_sweep_7 : decode cX3_sweep 7 = .ok (.iload_n 2, 1) := by decide +kernel
theorem dX3_sweep_8 : decode cX3_sweep 8 = .ok (.invokestatic 103, 3) := by decide +kernel
theorem dX3_sweep_11 : decode cX3_sweep 11 = .ok (.ifCond .eq 46, 3) := by decide +kernel
theorem dX3_sweep_14 : decode cX3_sweep 14 = .ok (.iload_n 3, 1) := by decide +kernel
theorem dX3_sweep_15 : decode cX3_sweep 15 = .ok (.iconst 1, 1) := by decide +kernel
theorem dX3_sweep_16 : decode cX3_sweep 16 = .ok (.sipush 1000, 3) := by decide +kernel
theorem dX3_sweep_19 : decode cX3_sweep 19 = .ok (.invokestatic 47, 3) := by decide +kernel
theorem dX3_sweep_22 : decode cX3_sweep 22 = .ok (.ifCond .eq 35, 3) := by decide +kernel
theorem dX3_sweep_25 : decode cX3_sweep 25 = .ok (.iload 4, 2) := by decide +kernel
theorem dX3_sweep_27 : decode cX3_sweep 27 = .ok (.iconst 1, 1) := by decide +kernel
theorem dX3_sweep_28 : decode cX3_sweep 28 = .ok (.bipush 50, 2) := by decide +kernel
theorem dX3_sweep_30 : decode cX3_sweep 30 = .ok (.invokestatic 47, 3) := by decide +kernel
theorem dX3_sweep_33 : decode cX3_sweep 33 = .ok (.ifCond .eq 24, 3) := by decide +kernel
theorem dX3_sweep_36 : decode cX3_sweep 36 = .ok (.iload 6, 2) := by decide +kernel
theorem dX3_sweep_38 : decode cX3_sweep 38 = .ok (.iconst 0, 1) := by decide +kernel
theorem dX3_sweep_39 : decode cX3_sweep 39 = .ok (.iconst 1, 1) := by decide +kernel
theorem dX3_sweep_40 : decode cX3_sweep 40 = .ok (.invokestatic 47, 3) := by decide +kernel
theorem dX3_sweep_43 : decode cX3_sweep 43 = .ok (.ifCond .eq 14, 3) := by decide +kernel
theorem dX3_sweep_46 : decode cX3_sweep 46 = .ok (.iload 5, 2) := by decide +kernel
theorem dX3_sweep_48 : decode cX3_sweep 48 = .ok (.iconst 0, 1) := by decide +kernel
theorem dX3_sweep_49 : decode cX3_sweep 49 = .ok (.bipush 100, 2) := by decide +kernel
theorem dX3_sweep_51 : decode cX3_sweep 51 = .ok (.invokestatic 47, 3) := by decide +kernel
theorem dX3_sweep_54 : decode cX3_sweep 54 = .ok (.ifCond .ne 6, 3) := by decide +kernel
theorem dX3_sweep_57 : decode cX3_sweep 57 = .ok (.bipush (-2), 2) := by decide +kernel
theorem dX3_sweep_59 : decode cX3_sweep 59 = .ok (.ireturn, 1) := by decide +kernel
theorem dX3_sweep_60 : decode cX3_sweep 60 = .ok (.aload_n 0, 1) := by decide +kernel
theorem dX3_sweep_61 : decode cX3_sweep 61 = .ok (.invokevirtual 95, 3) := by decide +kernel
theorem dX3_sweep_64 : decode cX3_sweep 64 = .ok (.istore 7, 2) := by decide +kernel
theorem dX3_sweep_66 : decode cX3_sweep 66 = .ok (.aload_n 0, 1) := by decide +kernel
theorem dX3_sweep_67 : decode cX3_sweep 67 = .ok (.iload 7, 2) := by decide +kernel
theorem dX3_sweep_69 : decode cX3_sweep 69 = .ok (.invokevirtual 58, 3) := by decide +kernel
theorem dX3_sweep_72 : decode cX3_sweep 72 = .ok (.astore 8, 2) := by decide +kernel
theorem dX3_sweep_74 : decode cX3_sweep 74 = .ok (.aload_n 0, 1) := by decide +kernel
theorem dX3_sweep_75 : decode cX3_sweep 75 = .ok (.getfield 35, 3) := by decide +kernel
theorem dX3_sweep_78 : decode cX3_sweep 78 = .ok (.ifCond .eq 8, 3) := by decide +kernel
theorem dX3_sweep_81 : decode cX3_sweep 81 = .ok (.aload 8, 2) := by decide +kernel
theorem dX3_sweep_83 : decode cX3_sweep 83 = .ok (.ifnonnull 6, 3) := by decide +kernel
theorem dX3_sweep_86 : decode cX3_sweep 86 = .ok (.bipush (-3), 2) := by decide +kernel
theorem dX3_sweep_88 : decode cX3_sweep 88 = .ok (.ireturn, 1) := by decide +kernel
theorem dX3_sweep_89 : decode cX3_sweep 89 = .ok (.iload_n 2, 1) := by decide +kernel
theorem dX3_sweep_90 : decode cX3_sweep 90 = .ok (.iload_n 1, 1) := by decide +kernel
theorem dX3_sweep_91 : decode cX3_sweep 91 = .ok (.isub, 1) := by decide +kernel
theorem dX3_sweep_92 : decode cX3_sweep 92 = .ok (.invokestatic 147, 3) := by decide +kernel
theorem dX3_sweep_95 : decode cX3_sweep 95 = .ok (.iload_n 3, 1) := by decide +kernel
theorem dX3_sweep_96 : decode cX3_sweep 96 = .ok (.idiv, 1) := by decide +kernel
theorem dX3_sweep_97 : decode cX3_sweep 97 = .ok (.istore 9, 2) := by decide +kernel
theorem dX3_sweep_99 : decode cX3_sweep 99 = .ok (.iload 6, 2) := by decide +kernel
theorem dX3_sweep_101 : decode cX3_sweep 101 = .ok (.iconst 1, 1) := by decide +kernel
theorem dX3_sweep_102 : decode cX3_sweep 102 = .ok (.if_icmp .ne 12, 3) := by decide +kernel
theorem dX3_sweep_105 : decode cX3_sweep 105 = .ok (.iconst 2, 1) := by decide +kernel
theorem dX3_sweep_106 : decode cX3_sweep 106 = .ok (.iload 9, 2) := by decide +kernel
theorem dX3_sweep_108 : decode cX3_sweep 108 = .ok (.imul, 1) := by decide +kernel
theorem dX3_sweep_109 : decode cX3_sweep 109 = .ok (.iconst 1, 1) := by decide +kernel
theorem dX3_sweep_110 : decode cX3_sweep 110 = .ok (.iadd, 1) := by decide +kernel
theorem dX3_sweep_111 : decode cX3_sweep 111 = .ok (.goto 7, 3) := by decide +kernel
theorem dX3_sweep_114 : decode cX3_sweep 114 = .ok (.iload 9, 2) := by decide +kernel
theorem dX3_sweep_116 : decode cX3_sweep 116 = .ok (.iconst 1, 1) := by decide +kernel
theorem dX3_sweep_117 : decode cX3_sweep 117 = .ok (.iadd, 1) := by decide +kernel
theorem dX3_sweep_118 : decode cX3_sweep 118 = .ok (.istore 10, 2) := by decide +kernel
theorem dX3_sweep_120 : decode cX3_sweep 120 = .ok (.iload 10, 2) := by decide +kernel
theorem dX3_sweep_122 : decode cX3_sweep 122 = .ok (.aload_n 0, 1) := by decide +kernel
theorem dX3_sweep_123 : decode cX3_sweep 123 = .ok (.getfield 24, 3) := by decide +kernel
theorem dX3_sweep_126 : decode cX3_sweep 126 = .ok (.invokevirtual 122, 3) := by decide +kernel
theorem dX3_sweep_129 : decode cX3_sweep 129 = .ok (.if_icmp .le 6, 3) := by decide +kernel
theorem dX3_sweep_132 : decode cX3_sweep 132 = .ok (.bipush (-4), 2) := by decide +kernel
theorem dX3_sweep_134 : decode cX3_sweep 134 = .ok (.ireturn, 1) := by decide +kernel
theorem dX3_sweep_135 : decode cX3_sweep 135 = .ok (.aload_n 0, 1) := by decide +kernel
theorem dX3_sweep_136 : decode cX3_sweep 136 = .ok (.getfield 31, 3) := by decide +kernel
theorem dX3_sweep_139 : decode cX3_sweep 139 = .ok (.invokevirtual 125, 3) := by decide +kernel
theorem dX3_sweep_142 : decode cX3_sweep 142 = .ok (.iload_n 2, 1) := by decide +kernel
theorem dX3_sweep_143 : decode cX3_sweep 143 = .ok (.iload_n 1, 1) := by decide +kernel
theorem dX3_sweep_144 : decode cX3_sweep 144 = .ok (.if_icmp .ge 8, 3) := by decide +kernel
theorem dX3_sweep_147 : decode cX3_sweep 147 = .ok (.iload_n 3, 1) := by decide +kernel
theorem dX3_sweep_148 : decode cX3_sweep 148 = .ok (.ineg, 1) := by decide +kernel
theorem dX3_sweep_149 : decode cX3_sweep 149 = .ok (.goto 4, 3) := by decide +kernel
theorem dX3_sweep_152 : decode cX3_sweep 152 = .ok (.iload_n 3, 1) := by decide +kernel
theorem dX3_sweep_153 : decode cX3_sweep 153 = .ok (.istore 11, 2) := by decide +kernel
theorem dX3_sweep_155 : decode cX3_sweep 155 = .ok (.iconst 0, 1) := by decide +kernel
theorem dX3_sweep_156 : decode cX3_sweep 156 = .ok (.istore 12, 2) := by decide +kernel
theorem dX3_sweep_158 : decode cX3_sweep 158 = .ok (.iload 12, 2) := by decide +kernel
theorem dX3_sweep_160 : decode cX3_sweep 160 = .ok (.iload 10, 2) := by decide +kernel
theorem dX3_sweep_162 : decode cX3_sweep 162 = .ok (.if_icmp .ge 84, 3) := by decide +kernel
theorem dX3_sweep_165 : decode cX3_sweep 165 = .ok (.iload 12, 2) := by decide +kernel
theorem dX3_sweep_167 : decode cX3_sweep 167 = .ok (.iload 9, 2) := by decide +kernel
theorem dX3_sweep_169 : decode cX3_sweep 169 = .ok (.if_icmp .gt 8, 3) := by decide +kernel
theorem dX3_sweep_172 : decode cX3_sweep 172 = .ok (.iload 12, 2) := by decide +kernel
theorem dX3_sweep_174 : decode cX3_sweep 174 = .ok (.goto 10, 3) := by decide +kernel
theorem dX3_sweep_177 : decode cX3_sweep 177 = .ok (.iconst 2, 1) := by decide +kernel
theorem dX3_sweep_178 : decode cX3_sweep 178 = .ok (.iload 9, 2) := by decide +kernel
theorem dX3_sweep_180 : decode cX3_sweep 180 = .ok (.imul, 1) := by decide +kernel
theorem dX3_sweep_181 : decode cX3_sweep 181 = .ok (.iload 12, 2) := by decide +kernel
theorem dX3_sweep_183 : decode cX3_sweep 183 = .ok (.isub, 1) := by decide +kernel
theorem dX3_sweep_184 : decode cX3_sweep 184 = .ok (.istore 13, 2) := by decide +kernel
theorem dX3_sweep_186 : decode cX3_sweep 186 = .ok (.aload_n 0, 1) := by decide +kernel
theorem dX3_sweep_187 : decode cX3_sweep 187 = .ok (.aload 8, 2) := by decide +kernel
theorem dX3_sweep_189 : decode cX3_sweep 189 = .ok (.iload_n 1, 1) := by decide +kernel
theorem dX3_sweep_190 : decode cX3_sweep 190 = .ok (.iload 13, 2) := by decide +kernel
theorem dX3_sweep_192 : decode cX3_sweep 192 = .ok (.iload 11, 2) := by decide +kernel
theorem dX3_sweep_194 : decode cX3_sweep 194 = .ok (.imul, 1) := by decide +kernel
theorem dX3_sweep_195 : decode cX3_sweep 195 = .ok (.iadd, 1) := by decide +kernel
theorem dX3_sweep_196 : decode cX3_sweep 196 = .ok (.iload 4, 2) := by decide +kernel
theorem dX3_sweep_198 : decode cX3_sweep 198 = .ok (.invokevirtual 128, 3) := by decide +kernel
theorem dX3_sweep_201 : decode cX3_sweep 201 = .ok (.istore 14, 2) := by decide +kernel
theorem dX3_sweep_203 : decode cX3_sweep 203 = .ok (.iload 14, 2) := by decide +kernel
theorem dX3_sweep_205 : decode cX3_sweep 205 = .ok (.ifCond .le 29, 3) := by decide +kernel
theorem dX3_sweep_208 : decode cX3_sweep 208 = .ok (.aload_n 0, 1) := by decide +kernel
theorem dX3_sweep_209 : decode cX3_sweep 209 = .ok (.getfield 31, 3) := by decide +kernel
theorem dX3_sweep_212 : decode cX3_sweep 212 = .ok (.iconst 1, 1) := by decide +kernel
theorem dX3_sweep_213 : decode cX3_sweep 213 = .ok (.iload 12, 2) := by decide +kernel
theorem dX3_sweep_215 : decode cX3_sweep 215 = .ok (.invokevirtual 150, 3) := by decide +kernel
theorem dX3_sweep_218 : decode cX3_sweep 218 = .ok (.aload_n 0, 1) := by decide +kernel
theorem dX3_sweep_219 : decode cX3_sweep 219 = .ok (.iload 7, 2) := by decide +kernel
theorem dX3_sweep_221 : decode cX3_sweep 221 = .ok (.iload 14, 2) := by decide +kernel
theorem dX3_sweep_223 : decode cX3_sweep 223 = .ok (.invokevirtual 131, 3) := by decide +kernel
theorem dX3_sweep_226 : decode cX3_sweep 226 = .ok (.bipush (-100), 2) := by decide +kernel
theorem dX3_sweep_228 : decode cX3_sweep 228 = .ok (.iload 12, 2) := by decide +kernel
theorem dX3_sweep_230 : decode cX3_sweep 230 = .ok (.iconst 1, 1) := by decide +kernel
theorem dX3_sweep_231 : decode cX3_sweep 231 = .ok (.iadd, 1) := by decide +kernel
theorem dX3_sweep_232 : decode cX3_sweep 232 = .ok (.isub, 1) := by decide +kernel
theorem dX3_sweep_233 : decode cX3_sweep 233 = .ok (.ireturn, 1) := by decide +kernel
theorem dX3_sweep_234 : decode cX3_sweep 234 = .ok (.aload_n 0, 1) := by decide +kernel
theorem dX3_sweep_235 : decode cX3_sweep 235 = .ok (.iload 5, 2) := by decide +kernel
theorem dX3_sweep_237 : decode cX3_sweep 237 = .ok (.invokevirtual 137, 3) := by decide +kernel
theorem dX3_sweep_240 : decode cX3_sweep 240 = .ok (.iinc 12 1, 3) := by decide +kernel
theorem dX3_sweep_243 : decode cX3_sweep 243 = .ok (.goto (-85), 3) := by decide +kernel
theorem dX3_sweep_246 : decode cX3_sweep 246 = .ok (.iload 10, 2) := by decide +kernel
theorem dX3_sweep_248 : decode cX3_sweep 248 = .ok (.ireturn, 1) := by decide +kernel
set_option maxRecDepth 20000 in
theorem ggX3_why_X3_within : GoodIn wsX3_why wsX3_within := goodIn_r _ [8] (by decide +kernel) (by decide +kernel)
set_option maxRecDepth 20000 in
theorem gX3_why_X3_within : GoodIn wsX3_why (va_wsS RX3 47 yX3_within wsX3_within) := goodIn_app (goodIn_of _ (by decide +kernel)) ggX3_why_X3_within
theorem dX3_why_0 : decode cX3_why 0 = .ok (.iload_n 1, 1) := by decide +kernel
theorem dX3_why_1 : decode cX3_why 1 = .ok (.iconst 0, 1) := by decide +kernel
theorem dX3_why_2 : decode cX3_why 2 = .ok (.iconst 2, 1) := by decide +kernel
theorem dX3_why_3 : decode cX3_why 3 = .ok (.invokestatic 47, 3) := by decide +kernel
theorem dX3_why_6 : decode cX3_why 6 = .ok (.ifCond .eq 12, 3) := by decide +kernel
theorem dX3_why_9 : decode cX3_why 9 = .ok (.iload_n 2, 1) := by decide +kernel
theorem dX3_why_10 : decode cX3_why 10 = .ok (.iconst 0, 1) := by decide +kernel
theorem dX3_why_11 : decode cX3_why 11 = .ok (.iconst 1, 1) := by decide +kernel
theorem dX3_why_12 : decode cX3_why 12 = .ok (.invokestatic 47, 3) := by decide +kernel
theorem dX3_why_15 : decode cX3_why 15 = .ok (.ifCond .ne 6, 3) := by decide +kernel
theorem dX3_why_18 : decode cX3_why 18 = .ok (.bipush (-2), 2) := by decide +kernel
theorem dX3_why_20 : decode cX3_why 20 = .ok (.ireturn, 1) := by decide +kernel
theorem dX3_why_21 : decode cX3_why 21 = .ok (.iload_n 1, 1) := by decide +kernel
theorem dX3_why_22 : decode cX3_why 22 = .ok (.aload_n 0, 1) := by decide +kernel
theorem dX3_why_23 : decode cX3_why 23 = .ok (.getfield 31, 3) := by decide +kernel
theorem dX3_why_26 : decode cX3_why 26 = .ok (.getfield 153, 3) := by decide +kernel
theorem dX3_why_29 : decode cX3_why 29 = .ok (.if_icmp .lt 6, 3) := by decide +kernel
theorem dX3_why_32 : decode cX3_why 32 = .ok (.bipush (-9), 2) := by decide +kernel
theorem dX3_why_34 : decode cX3_why 34 = .ok (.ireturn, 1) := by decide +kernel
theorem dX3_why_35 : decode cX3_why 35 = .ok (.iload_n 2, 1) := by decide +kernel
theorem dX3_why_36 : decode cX3_why 36 = .ok (.ifCond .ne 15, 3) := by decide +kernel
theorem dX3_why_39 : decode cX3_why 39 = .ok (.aload_n 0, 1) := by decide +kernel
theorem dX3_why_40 : decode cX3_why 40 = .ok (.getfield 31, 3) := by decide +kernel
theorem dX3_why_43 : decode cX3_why 43 = .ok (.getfield 154, 3) := by decide +kernel
theorem dX3_why_46 : decode cX3_why 46 = .ok (.iload_n 1, 1) := by decide +kernel
theorem dX3_why_47 : decode cX3_why 47 = .ok (.iaload, 1) := by decide +kernel
theorem dX3_why_48 : decode cX3_why 48 = .ok (.goto 12, 3) := by decide +kernel
theorem dX3_why_51 : decode cX3_why 51 = .ok (.aload_n 0, 1) := by decide +kernel
theorem dX3_why_52 : decode cX3_why 52 = .ok (.getfield 31, 3) := by decide +kernel
theorem dX3_why_55 : decode cX3_why 55 = .ok (.getfield 157, 3) := by decide +kernel
theorem dX3_why_58 : decode cX3_why 58 = .ok (.iload_n 1, 1) := by decide +kernel
theorem dX3_why_59 : decode cX3_why 59 = .ok (.iaload, 1) := by decide +kernel
theorem dX3_why_60 : decode cX3_why 60 = .ok (.ireturn, 1) := by decide +kernel
set_option maxRecDepth 20000 in
theorem ggX3_reading_X2_has : GoodIn wsX3_reading wsX2_has := goodIn_r _ [11, 12, 20, 21, 22, 23, 24] (by decide +kernel) (by decide +kernel)
set_option maxRecDepth 20000 in
theorem gX3_reading_X2_has : GoodIn wsX3_reading (wsV RX3 160 RX2 yX2_has wsX2_has) := goodIn_app (goodIn_of _ (by decide +kernel)) ggX3_reading_X2_has
theorem dX3_reading_0 : decode cX3_reading 0 = .ok (.aload_n 0, 1) := by decide +kernel
theorem dX3_reading_1 : decode cX3_reading 1 = .ok (.getfield 24, 3) := by decide +kernel
theorem dX3_reading_4 : decode cX3_reading 4 = .ok (.iload_n 1, 1) := by decide +kernel
theorem dX3_reading_5 : decode cX3_reading 5 = .ok (.invokevirtual 160, 3) := by decide +kernel
theorem dX3_reading_8 : decode cX3_reading 8 = .ok (.ifCond .ne 5, 3) := by decide +kernel
theorem dX3_reading_11 : decode cX3_reading 11 = .ok (.iconst (-1), 1) := by decide +kernel
theorem dX3_reading_12 : decode cX3_reading 12 = .ok (.ireturn, 1) := by decide +kernel
theorem dX3_reading_13 : decode cX3_reading 13 = .ok (.iload_n 2, 1) := by decide +kernel
theorem dX3_reading_14 : decode cX3_reading 14 = .ok (.tableswitch 81 0 3 #[30, 44, 58, 71], 30) := by decide +kernel
theorem dX3_reading_44 : decode cX3_reading 44 = .ok (.aload_n 0, 1) := by decide +kernel
theorem dX3_reading_45 : decode cX3_reading 45 = .ok (.getfield 24, 3) := by decide +kernel
theorem dX3_reading_48 : decode cX3_reading 48 = .ok (.getfield 163, 3) := by decide +kernel
theorem dX3_reading_51 : decode cX3_reading 51 = .ok (.iload_n 1, 1) := by decide +kernel
theorem dX3_reading_52 : decode cX3_reading 52 = .ok (.iaload, 1) := by decide +kernel
theorem dX3_reading_53 : decode cX3_reading 53 = .ok (.sipush 10000, 3) := by decide +kernel
theorem dX3_reading_56 : decode cX3_reading 56 = .ok (.iadd, 1) := by decide +kernel
theorem dX3_reading_57 : decode cX3_reading 57 = .ok (.ireturn, 1) := by decide +kernel
theorem dX3_reading_58 : decode cX3_reading 58 = .ok (.aload_n 0, 1) := by decide +kernel
theorem dX3_reading_59 : decode cX3_reading 59 = .ok (.getfield 24, 3) := by decide +kernel
theorem dX3_reading_62 : decode cX3_reading 62 = .ok (.getfield 166, 3) := by decide +kernel
theorem dX3_reading_65 : decode cX3_reading 65 = .ok (.iload_n 1, 1) := by decide +kernel
theorem dX3_reading_66 : decode cX3_reading 66 = .ok (.iaload, 1) := by decide +kernel
theorem dX3_reading_67 : decode cX3_reading 67 = .ok (.sipush 10000, 3) := by decide +kernel
theorem dX3_reading_70 : decode cX3_reading 70 = .ok (.iadd, 1) := by decide +kernel
theorem dX3_reading_71 : decode cX3_reading 71 = .ok (.ireturn, 1) := by decide +kernel
theorem dX3_reading_72 : decode cX3_reading 72 = .ok (.aload_n 0, 1) := by decide +kernel
theorem dX3_reading_73 : decode cX3_reading 73 = .ok (.getfield 24, 3) := by decide +kernel
theorem dX3_reading_76 : decode cX3_reading 76 = .ok (.getfield 169, 3) := by decide +kernel
theorem dX3_reading_79 : decode cX3_reading 79 = .ok (.iload_n 1, 1) := by decide +kernel
theorem dX3_reading_80 : decode cX3_reading 80 = .ok (.iaload, 1) := by decide +kernel
theorem dX3_reading_81 : decode cX3_reading 81 = .ok (.ldc 110, 2) := by decide +kernel
theorem dX3_reading_83 : decode cX3_reading 83 = .ok (.iadd, 1) := by decide +kernel
theorem dX3_reading_84 : decode cX3_reading 84 = .ok (.ireturn, 1) := by decide +kernel
theorem dX3_reading_85 : decode cX3_reading 85 = .ok (.aload_n 0, 1) := by decide +kernel
theorem dX3_reading_86 : decode cX3_reading 86 = .ok (.getfield 24, 3) := by decide +kernel
theorem dX3_reading_89 : decode cX3_reading 89 = .ok (.getfield 172, 3) := by decide +kernel
theorem dX3_reading_92 : decode cX3_reading 92 = .ok (.iload_n 1, 1) := by decide +kernel
theorem dX3_reading_93 : decode cX3_reading 93 = .ok (.iaload, 1) := by decide +kernel
theorem dX3_reading_94 : decode cX3_reading 94 = .ok (.ireturn, 1) := by decide +kernel
theorem dX3_reading_95 : decode cX3_reading 95 = .ok (.bipush (-2), 2) := by decide +kernel
theorem dX3_reading_97 : decode cX3_reading 97 = .ok (.ireturn, 1) := by decide +kernel
theorem dX3_clear_0 : decode cX3_clear 0 = .ok (.aload_n 0, 1) := by decide +kernel
theorem dX3_clear_1 : decode cX3_clear 1 = .ok (.getfield 24, 3) := by decide +kernel
theorem dX3_clear_4 : decode cX3_clear 4 = .ok (.getfield 134, 3) := by decide +kernel
theorem dX3_clear_7 : decode cX3_clear 7 = .ok (.istore_n 1, 1) := by decide +kernel
theorem dX3_clear_8 : decode cX3_clear 8 = .ok (.aload_n 0, 1) := by decide +kernel
theorem dX3_clear_9 : decode cX3_clear 9 = .ok (.getfield 24, 3) := by decide +kernel
theorem dX3_clear_12 : decode cX3_clear 12 = .ok (.iconst 0, 1) := by decide +kernel
theorem dX3_clear_13 : decode cX3_clear 13 = .ok (.putfield 134, 3) := by decide +kernel
theorem dX3_clear_16 : decode cX3_clear 16 = .ok (.iload_n 1, 1) := by decide +kernel
theorem dX3_clear_17 : decode cX3_clear 17 = .ok (.ireturn, 1) := by decide +kernel
set_option maxRecDepth 20000 in
theorem ggX3_knee_X2_has : GoodIn wsX3_knee wsX2_has := goodIn_r _ [6, 7, 25, 26, 27, 28, 29] (by decide +kernel) (by decide +kernel)
set_option maxRecDepth 20000 in
theorem gX3_knee_X2_has : GoodIn wsX3_knee (wsV RX3 160 RX2 yX2_has wsX2_has) := goodIn_app (goodIn_of _ (by decide +kernel)) ggX3_knee_X2_has
set_option maxRecDepth 20000 in
theorem ggX3_knee_X2_kneePoint : GoodIn wsX3_knee wsX2_kneePoint := goodIn_r _ [11, 12, 13, 14, 15, 16, 17, 25, 26, 27, 28, 29] (by decide +kernel) (by decide +kernel)
set_option maxRecDepth 20000 in
theorem gX3_knee_X2_kneePoint : GoodIn wsX3_knee (wsV RX3 175 RX2 yX2_kneePoint wsX2_kneePoint) := goodIn_app (goodIn_of _ (by decide +kernel)) ggX3_knee_X2_kneePoint
theorem dX3_knee_0 : decode cX3_knee 0 = .ok (.aload_n 0, 1) := by decide +kernel
theorem dX3_knee_1 : decode cX3_knee 1 = .ok (.getfield 24, 3) := by decide +kernel
theorem dX3_knee_4 : decode cX3_knee 4 = .ok (.iload_n 1, 1) := by decide +kernel
theorem dX3_knee_5 : decode cX3_knee 5 = .ok (.invokevirtual 160, 3) := by decide +kernel
theorem dX3_knee_8 : decode cX3_knee 8 = .ok (.ifCond .eq 14, 3) := by decide +kernel
theorem dX3_knee_11 : decode cX3_knee 11 = .ok (.aload_n 0, 1) := by decide +kernel
theorem dX3_knee_12 : decode cX3_knee 12 = .ok (.getfield 24, 3) := by decide +kernel
theorem dX3_knee_15 : decode cX3_knee 15 = .ok (.iload_n 2, 1) := by decide +kernel
theorem dX3_knee_16 : decode cX3_knee 16 = .ok (.invokevirtual 160, 3) := by decide +kernel
theorem dX3_knee_19 : decode cX3_knee 19 = .ok (.ifCond .ne 5, 3) := by decide +kernel
theorem dX3_knee_22 : decode cX3_knee 22 = .ok (.iconst (-1), 1) := by decide +kernel
theorem dX3_knee_23 : decode cX3_knee 23 = .ok (.ireturn, 1) := by decide +kernel
theorem dX3_knee_24 : decode cX3_knee 24 = .ok (.iload_n 1, 1) := by decide +kernel
theorem dX3_knee_25 : decode cX3_knee 25 = .ok (.iload_n 2, 1) := by decide +kernel
theorem dX3_knee_26 : decode cX3_knee 26 = .ok (.if_icmp .le 8, 3) := by decide +kernel
theorem dX3_knee_29 : decode cX3_knee 29 = .ok (.bipush (-2), 2) := by decide +kernel
theorem dX3_knee_31 : decode cX3_knee 31 = .ok (.goto 12, 3) := by decide +kernel
theorem dX3_knee_34 : decode cX3_knee 34 = .ok (.aload_n 0, 1) := by decide +kernel
theorem dX3_knee_35 : decode cX3_knee 35 = .ok (.getfield 24, 3) := by decide +kernel
theorem dX3_knee_38 : decode cX3_knee 38 = .ok (.iload_n 1, 1) := by decide +kernel
theorem dX3_knee_39 : decode cX3_knee 39 = .ok (.iload_n 2, 1) := by decide +kernel
theorem dX3_knee_40 : decode cX3_knee 40 = .ok (.invokevirtual 175, 3) := by decide +kernel
theorem dX3_knee_43 : decode cX3_knee 43 = .ok (.ireturn, 1) := by decide +kernel
set_option maxRecDepth 20000 in
theorem ggX3_fit_X2_has : GoodIn wsX3_fit wsX2_has := goodIn_r _ [7, 8, 43, 44, 45, 46, 47] (by decide +kernel) (by decide +kernel)
set_option maxRecDepth 20000 in
theorem gX3_fit_X2_has : GoodIn wsX3_fit (wsV RX3 160 RX2 yX2_has wsX2_has) := goodIn_app (goodIn_of _ (by decide +kernel)) ggX3_fit_X2_has
set_option maxRecDepth 20000 in
theorem ggX3_fit_X3_within : GoodIn wsX3_fit wsX3_within := goodIn_r _ [12] (by decide +kernel) (by decide +kernel)
set_option maxRecDepth 20000 in
theorem gX3_fit_X3_within : GoodIn wsX3_fit (va_wsS RX3 47 yX3_within wsX3_within) := goodIn_app (goodIn_of _ (by decide +kernel)) ggX3_fit_X3_within
set_option maxRecDepth 20000 in
theorem ggX3_fit_X2_lineFitted : GoodIn wsX3_fit wsX2_lineFitted := goodIn_r _ [16, 17, 18, 19, 20, 21, 6, 22, 23, 24, 25, 26, 27, 28, 29, 30, 31, 32, 33, 34, 35, 43, 44, 45, 46, 47] (by decide +kernel) (by decide +kernel)
set_option maxRecDepth 20000 in
theorem gX3_fit_X2_lineFitted : GoodIn wsX3_fit (wsV RX3 180 RX2 yX2_lineFitted wsX2_lineFitted) := goodIn_app (goodIn_of _ (by decide +kernel)) ggX3_fit_X2_lineFitted
theorem dX3_fit_0 : decode cX3_fit 0 = .ok (.aload_n 0, 1) := by decide +kernel
theorem dX3_fit_1 : decode cX3_fit 1 = .ok (.getfield 24, 3) := by decide +kernel
theorem dX3_fit_4 : decode cX3_fit 4 = .ok (.iload_n 1, 1) := by decide +kernel
theorem dX3_fit_5 : decode cX3_fit 5 = .ok (.invokevirtual 160, 3) := by decide +kernel
theorem dX3_fit_8 : decode cX3_fit 8 = .ok (.ifCond .eq 28, 3) := by decide +kernel
theorem dX3_fit_11 : decode cX3_fit 11 = .ok (.aload_n 0, 1) := by decide +kernel
theorem dX3_fit_12 : decode cX3_fit 12 = .ok (.getfield 24, 3) := by decide +kernel
theorem dX3_fit_15 : decode cX3_fit 15 = .ok (.iload_n 2, 1) := by decide +kernel
theorem dX3_fit_16 : decode cX3_fit 16 = .ok (.invokevirtual 160, 3) := by decide +kernel
theorem dX3_fit_19 : decode cX3_fit 19 = .ok (.ifCond .eq 17, 3) := by decide +kernel
theorem dX3_fit_22 : decode cX3_fit 22 = .ok (.iload_n 1, 1) := by decide +kernel
theorem dX3_fit_23 : decode cX3_fit 23 = .ok (.iload_n 2, 1) := by decide +kernel
theorem dX3_fit_24 : decode cX3_fit 24 = .ok (.if_icmp .gt 12, 3) := by decide +kernel
theorem dX3_fit_27 : decode cX3_fit 27 = .ok (.iload_n 3, 1) := by decide +kernel
theorem dX3_fit_28 : decode cX3_fit 28 = .ok (.iconst 0, 1) := by decide +kernel
theorem dX3_fit_29 : decode cX3_fit 29 = .ok (.iconst 5, 1) := by decide +kernel
theorem dX3_fit_30 : decode cX3_fit 30 = .ok (.invokestatic 47, 3) := by decide +kernel
theorem dX3_fit_33 : decode cX3_fit 33 = .ok (.ifCond .ne 7, 3) := by decide +kernel
theorem dX3_fit_36 : decode cX3_fit 36 = .ok (.ldc2_w 178, 3) := by decide +kernel
theorem dX3_fit_39 : decode cX3_fit 39 = .ok (.lreturn, 1) := by decide +kernel
theorem dX3_fit_40 : decode cX3_fit 40 = .ok (.aload_n 0, 1) := by decide +kernel
theorem dX3_fit_41 : decode cX3_fit 41 = .ok (.getfield 24, 3) := by decide +kernel
theorem dX3_fit_44 : decode cX3_fit 44 = .ok (.iload_n 1, 1) := by decide +kernel
theorem dX3_fit_45 : decode cX3_fit 45 = .ok (.iload_n 2, 1) := by decide +kernel
theorem dX3_fit_46 : decode cX3_fit 46 = .ok (.iload_n 3, 1) := by decide +kernel
theorem dX3_fit_47 : decode cX3_fit 47 = .ok (.invokevirtual 180, 3) := by decide +kernel
theorem dX3_fit_50 : decode cX3_fit 50 = .ok (.lreturn, 1) := by decide +kernel
set_option maxRecDepth 20000 in
theorem ggX3_gap_X2_has : GoodIn wsX3_gap wsX2_has := goodIn_r _ [6, 7, 28, 29, 30, 31, 32] (by decide +kernel) (by decide +kernel)
set_option maxRecDepth 20000 in
theorem gX3_gap_X2_has : GoodIn wsX3_gap (wsV RX3 160 RX2 yX2_has wsX2_has) := goodIn_app (goodIn_of _ (by decide +kernel)) ggX3_gap_X2_has
set_option maxRecDepth 20000 in
theorem ggX3_gap_X2_greatestGap : GoodIn wsX3_gap wsX2_greatestGap := goodIn_r _ [11, 12, 13, 14, 15, 16, 17, 18, 19, 20, 28, 29, 30, 31, 32] (by decide +kernel) (by decide +kernel)
set_option maxRecDepth 20000 in
theorem gX3_gap_X2_greatestGap : GoodIn wsX3_gap (wsV RX3 184 RX2 yX2_greatestGap wsX2_greatestGap) := goodIn_app (goodIn_of _ (by decide +kernel)) ggX3_gap_X2_greatestGap
theorem dX3_gap_0 : decode cX3_gap 0 = .ok (.aload_n 0, 1) := by decide +kernel
theorem dX3_gap_1 : decode cX3_gap 1 = .ok (.getfield 24, 3) := by decide +kernel
theorem dX3_gap_4 : decode cX3_gap 4 = .ok (.iload_n 1, 1) := by decide +kernel
theorem dX3_gap_5 : decode cX3_gap 5 = .ok (.invokevirtual 160, 3) := by decide +kernel
theorem dX3_gap_8 : decode cX3_gap 8 = .ok (.ifCond .eq 14, 3) := by decide +kernel
theorem dX3_gap_11 : decode cX3_gap 11 = .ok (.aload_n 0, 1) := by decide +kernel
theorem dX3_gap_12 : decode cX3_gap 12 = .ok (.getfield 24, 3) := by decide +kernel
theorem dX3_gap_15 : decode cX3_gap 15 = .ok (.iload_n 2, 1) := by decide +kernel
theorem dX3_gap_16 : decode cX3_gap 16 = .ok (.invokevirtual 160, 3) := by decide +kernel
theorem dX3_gap_19 : decode cX3_gap 19 = .ok (.ifCond .ne 5, 3) := by decide +kernel
theorem dX3_gap_22 : decode cX3_gap 22 = .ok (.iconst (-1), 1) := by decide +kernel
theorem dX3_gap_23 : decode cX3_gap 23 = .ok (.ireturn, 1) := by decide +kernel
theorem dX3_gap_24 : decode cX3_gap 24 = .ok (.iload_n 1, 1) := by decide +kernel
theorem dX3_gap_25 : decode cX3_gap 25 = .ok (.iload_n 2, 1) := by decide +kernel
theorem dX3_gap_26 : decode cX3_gap 26 = .ok (.if_icmp .le 8, 3) := by decide +kernel
theorem dX3_gap_29 : decode cX3_gap 29 = .ok (.bipush (-2), 2) := by decide +kernel
theorem dX3_gap_31 : decode cX3_gap 31 = .ok (.goto 12, 3) := by decide +kernel
theorem dX3_gap_34 : decode cX3_gap 34 = .ok (.aload_n 0, 1) := by decide +kernel
theorem dX3_gap_35 : decode cX3_gap 35 = .ok (.getfield 24, 3) := by decide +kernel
theorem dX3_gap_38 : decode cX3_gap 38 = .ok (.iload_n 1, 1) := by decide +kernel
theorem dX3_gap_39 : decode cX3_gap 39 = .ok (.iload_n 2, 1) := by decide +kernel
theorem dX3_gap_40 : decode cX3_gap 40 = .ok (.invokevirtual 184, 3) := by decide +kernel
theorem dX3_gap_43 : decode cX3_gap 43 = .ok (.ireturn, 1) := by decide +kernel
set_option maxRecDepth 20000 in
theorem ggX3_many_X3_partsThere : GoodIn wsX3_many wsX3_partsThere := goodIn_r _ [7, 8, 9, 10, 30, 31, 32, 33, 34, 35, 36, 42, 43, 44, 45, 46, 47, 48, 49, 50, 51, 52, 53] (by decide +kernel) (by decide +kernel)
set_option maxRecDepth 20000 in
theorem gX3_many_X3_partsThere : GoodIn wsX3_many (wsV RX3 187 RX3 yX3_partsThere wsX3_partsThere) := goodIn_app (goodIn_of _ (by decide +kernel)) ggX3_many_X3_partsThere
set_option maxRecDepth 20000 in
theorem ggX3_many_X3_closedRelays : GoodIn wsX3_many wsX3_closedRelays := goodIn_r _ [14, 15, 16, 17, 18, 19, 20, 21, 22, 30, 31, 32, 33, 34, 35, 36] (by decide +kernel) (by decide +kernel)
set_option maxRecDepth 20000 in
theorem gX3_many_X3_closedRelays : GoodIn wsX3_many (wsV RX3 191 RX3 yX3_closedRelays wsX3_closedRelays) := goodIn_app (goodIn_of _ (by decide +kernel)) ggX3_many_X3_closedRelays
set_option maxRecDepth 20000 in
theorem ggX3_many_X2_withRule : GoodIn wsX3_many wsX2_withRule := goodIn_r _ [27, 28, 29, 37, 38, 39, 40, 41] (by decide +kernel) (by decide +kernel)
set_option maxRecDepth 20000 in
theorem gX3_many_X2_withRule : GoodIn wsX3_many (wsV RX3 194 RX2 yX2_withRule wsX2_withRule) := goodIn_app (goodIn_of _ (by decide +kernel)) ggX3_many_X2_withRule
theorem dX3_many_0 : decode cX3_many 0 = .ok (.iload_n 1, 1) := by decide +kernel
theorem dX3_many_1 : decode cX3_many 1 = .ok (.tableswitch 82 0 5 #[39, 45, 53, 58, 64, 73], 39) := by decide +kernel
theorem dX3_many_40 : decode cX3_many 40 = .ok (.aload_n 0, 1) := by decide +kernel
theorem dX3_many_41 : decode cX3_many 41 = .ok (.iconst 0, 1) := by decide +kernel
theorem dX3_many_42 : decode cX3_many 42 = .ok (.invokevirtual 187, 3) := by decide +kernel
theorem dX3_many_45 : decode cX3_many 45 = .ok (.ireturn, 1) := by decide +kernel
theorem dX3_many_46 : decode cX3_many 46 = .ok (.aload_n 0, 1) := by decide +kernel
theorem dX3_many_47 : decode cX3_many 47 = .ok (.getfield 24, 3) := by decide +kernel
theorem dX3_many_50 : decode cX3_many 50 = .ok (.getfield 134, 3) := by decide +kernel
theorem dX3_many_53 : decode cX3_many 53 = .ok (.ireturn, 1) := by decide +kernel
theorem dX3_many_54 : decode cX3_many 54 = .ok (.aload_n 0, 1) := by decide +kernel
theorem dX3_many_55 : decode cX3_many 55 = .ok (.invokevirtual 191, 3) := by decide +kernel
theorem dX3_many_58 : decode cX3_many 58 = .ok (.ireturn, 1) := by decide +kernel
theorem dX3_many_59 : decode cX3_many 59 = .ok (.aload_n 0, 1) := by decide +kernel
theorem dX3_many_60 : decode cX3_many 60 = .ok (.iconst 1, 1) := by decide +kernel
theorem dX3_many_61 : decode cX3_many 61 = .ok (.invokevirtual 187, 3) := by decide +kernel
theorem dX3_many_64 : decode cX3_many 64 = .ok (.ireturn, 1) := by decide +kernel
theorem dX3_many_65 : decode cX3_many 65 = .ok (.aload_n 0, 1) := by decide +kernel
theorem dX3_many_66 : decode cX3_many 66 = .ok (.getfield 24, 3) := by decide +kernel
theorem dX3_many_69 : decode cX3_many 69 = .ok (.iconst 1, 1) := by decide +kernel
theorem dX3_many_70 : decode cX3_many 70 = .ok (.invokevirtual 194, 3) := by decide +kernel
theorem dX3_many_73 : decode cX3_many 73 = .ok (.ireturn, 1) := by decide +kernel
theorem dX3_many_74 : decode cX3_many 74 = .ok (.aload_n 0, 1) := by decide +kernel
theorem dX3_many_75 : decode cX3_many 75 = .ok (.getfield 24, 3) := by decide +kernel
theorem dX3_many_78 : decode cX3_many 78 = .ok (.iconst 2, 1) := by decide +kernel
theorem dX3_many_79 : decode cX3_many 79 = .ok (.invokevirtual 194, 3) := by decide +kernel
theorem dX3_many_82 : decode cX3_many 82 = .ok (.ireturn, 1) := by decide +kernel
theorem dX3_many_83 : decode cX3_many 83 = .ok (.bipush (-2), 2) := by decide +kernel
theorem dX3_many_85 : decode cX3_many 85 = .ok (.ireturn, 1) := by decide +kernel
theorem dX3_within_0 : decode cX3_within 0 = .ok (.iload_n 0, 1) := by decide +kernel
theorem dX3_within_1 : decode cX3_within 1 = .ok (.iload_n 1, 1) := by decide +kernel
theorem dX3_within_2 : decode cX3_within 2 = .ok (.if_icmp .lt 12, 3) := by decide +kernel
theorem dX3_within_5 : decode cX3_within 5 = .ok (.iload_n 0, 1) := by decide +kernel
theorem dX3_within_6 : decode cX3_within 6 = .ok (.iload_n 2, 1) := by decide +kernel
theorem dX3_within_7 : decode cX3_within 7 = .ok (.if_icmp .gt 7, 3) := by decide +kernel
theorem dX3_within_10 : decode cX3_within 10 = .ok (.iconst 1, 1) := by decide +kernel
theorem dX3_within_11 : decode cX3_within 11 = .ok (.goto 4, 3) := by decide +kernel
theorem dX3_within_14 : decode cX3_within 14 = .ok (.iconst 0, 1) := by decide +kernel
theorem dX3_within_15 : decode cX3_within 15 = .ok (.ireturn, 1) := by decide +kernel
set_option maxRecDepth 20000 in
theorem ggX3_isVolts_X3_within : GoodIn wsX3_isVolts wsX3_within := goodIn_r _ [4] (by decide +kernel) (by decide +kernel)
set_option maxRecDepth 20000 in
theorem gX3_isVolts_X3_within : GoodIn wsX3_isVolts (va_wsS RX3 47 yX3_within wsX3_within) := goodIn_app (goodIn_of _ (by decide +kernel)) ggX3_isVolts_X3_within
theorem dX3_isVolts_0 : decode cX3_isVolts 0 = .ok (.iload_n 0, 1) := by decide +kernel
theorem dX3_isVolts_1 : decode cX3_isVolts 1 = .ok (.sipush (-3000), 3) := by decide +kernel
theorem dX3_isVolts_4 : decode cX3_isVolts 4 = .ok (.sipush 3000, 3) := by decide +kernel
theorem dX3_isVolts_7 : decode cX3_isVolts 7 = .ok (.invokestatic 47, 3) := by decide +kernel
theorem dX3_isVolts_10 : decode cX3_isVolts 10 = .ok (.ireturn, 1) := by decide +kernel
set_option maxRecDepth 20000 in
theorem ggX3_partAt_X3_within : GoodIn wsX3_partAt wsX3_within := goodIn_r _ [6] (by decide +kernel) (by decide +kernel)
set_option maxRecDepth 20000 in
theorem gX3_partAt_X3_within : GoodIn wsX3_partAt (va_wsS RX3 47 yX3_within wsX3_within) := goodIn_app (goodIn_of _ (by decide +kernel)) ggX3_partAt_X3_within
theorem dX3_partAt_0 : decode cX3_partAt 0 = .ok (.iload_n 1, 1) := by decide +kernel
theorem dX3_partAt_1 : decode cX3_partAt 1 = .ok (.iconst 0, 1) := by decide +kernel
theorem dX3_partAt_2 : decode cX3_partAt 2 = .ok (.iconst 3, 1) := by decide +kernel
theorem dX3_partAt_3 : decode cX3_partAt 3 = .ok (.invokestatic 47, 3) := by decide +kernel
theorem dX3_partAt_6 : decode cX3_partAt 6 = .ok (.ifCond .eq 24, 3) := by decide +kernel
theorem dX3_partAt_9 : decode cX3_partAt 9 = .ok (.aload_n 0, 1) := by decide +kernel
theorem dX3_partAt_10 : decode cX3_partAt 10 = .ok (.getfield 13, 3) := by decide +kernel
theorem dX3_partAt_13 : decode cX3_partAt 13 = .ok (.iload_n 1, 1) := by decide +kernel
theorem dX3_partAt_14 : decode cX3_partAt 14 = .ok (.aaload, 1) := by decide +kernel
theorem dX3_partAt_15 : decode cX3_partAt 15 = .ok (.getfield 51, 3) := by decide +kernel
theorem dX3_partAt_18 : decode cX3_partAt 18 = .ok (.ifCond .eq 12, 3) := by decide +kernel
theorem dX3_partAt_21 : decode cX3_partAt 21 = .ok (.aload_n 0, 1) := by decide +kernel
theorem dX3_partAt_22 : decode cX3_partAt 22 = .ok (.getfield 13, 3) := by decide +kernel
theorem dX3_partAt_25 : decode cX3_partAt 25 = .ok (.iload_n 1, 1) := by decide +kernel
theorem dX3_partAt_26 : decode cX3_partAt 26 = .ok (.aaload, 1) := by decide +kernel
theorem dX3_partAt_27 : decode cX3_partAt 27 = .ok (.goto 4, 3) := by decide +kernel
theorem dX3_partAt_30 : decode cX3_partAt 30 = .ok (.aconst_null, 1) := by decide +kernel
theorem dX3_partAt_31 : decode cX3_partAt 31 = .ok (.areturn, 1) := by decide +kernel
theorem dX3_wouldShort_0 : decode cX3_wouldShort 0 = .ok (.iload_n 1, 1) := by decide +kernel
theorem dX3_wouldShort_1 : decode cX3_wouldShort 1 = .ok (.ifCond .ne 14, 3) := by decide +kernel
theorem dX3_wouldShort_4 : decode cX3_wouldShort 4 = .ok (.aload_n 0, 1) := by decide +kernel
theorem dX3_wouldShort_5 : decode cX3_wouldShort 5 = .ok (.getfield 17, 3) := by decide +kernel
theorem dX3_wouldShort_8 : decode cX3_wouldShort 8 = .ok (.iconst 1, 1) := by decide +kernel
theorem dX3_wouldShort_9 : decode cX3_wouldShort 9 = .ok (.iaload, 1) := by decide +kernel
theorem dX3_wouldShort_10 : decode cX3_wouldShort 10 = .ok (.iload_n 2, 1) := by decide +kernel
theorem dX3_wouldShort_11 : decode cX3_wouldShort 11 = .ok (.iand, 1) := by decide +kernel
theorem dX3_wouldShort_12 : decode cX3_wouldShort 12 = .ok (.ifCond .ne 19, 3) := by decide +kernel
theorem dX3_wouldShort_15 : decode cX3_wouldShort 15 = .ok (.iload_n 1, 1) := by decide +kernel
theorem dX3_wouldShort_16 : decode cX3_wouldShort 16 = .ok (.iconst 1, 1) := by decide +kernel
theorem dX3_wouldShort_17 : decode cX3_wouldShort 17 = .ok (.if_icmp .ne 18, 3) := by decide +kernel
theorem dX3_wouldShort_20 : decode cX3_wouldShort 20 = .ok (.aload_n 0, 1) := by decide +kernel
theorem dX3_wouldShort_21 : decode cX3_wouldShort 21 = .ok (.getfield 17, 3) := by decide +kernel
theorem dX3_wouldShort_24 : decode cX3_wouldShort 24 = .ok (.iconst 0, 1) := by decide +kernel
theorem dX3_wouldShort_25 : decode cX3_wouldShort 25 = .ok (.iaload, 1) := by decide +kernel
theorem dX3_wouldShort_26 : decode cX3_wouldShort 26 = .ok (.iload_n 2, 1) := by decide +kernel
theorem dX3_wouldShort_27 : decode cX3_wouldShort 27 = .ok (.iand, 1) := by decide +kernel
theorem dX3_wouldShort_28 : decode cX3_wouldShort 28 = .ok (.ifCond .eq 7, 3) := by decide +kernel
theorem dX3_wouldShort_31 : decode cX3_wouldShort 31 = .ok (.iconst 1, 1) := by decide +kernel
theorem dX3_wouldShort_32 : decode cX3_wouldShort 32 = .ok (.goto 4, 3) := by decide +kernel
theorem dX3_wouldShort_35 : decode cX3_wouldShort 35 = .ok (.iconst 0, 1) := by decide +kernel
theorem dX3_wouldShort_36 : decode cX3_wouldShort 36 = .ok (.ireturn, 1) := by decide +kernel
set_option maxRecDepth 20000 in
theorem ggX3_highAndLowAtOnePinEach_J6_bitCount_0f7a4 : GoodIn wsX3_highAndLowAtOnePinEach wsJ6_bitCount_0f7a4 := goodIn_r _ [5, 6, 7, 8] (by decide +kernel) (by decide +kernel)
set_option maxRecDepth 20000 in
theorem gX3_highAndLowAtOnePinEach_J6_bitCount_0f7a4 : GoodIn wsX3_highAndLowAtOnePinEach (va_wsS RX3 197 yJ6_bitCount_0f7a4 wsJ6_bitCount_0f7a4) := goodIn_app (goodIn_of _ (by decide +kernel)) ggX3_highAndLowAtOnePinEach_J6_bitCount_0f7a4
theorem dX3_highAndLowAtOnePinEach_0 : decode cX3_highAndLowAtOnePinEach 0 = .ok (.aload_n 0, 1) := by decide +kernel
theorem dX3_highAndLowAtOnePinEach_1 : decode cX3_highAndLowAtOnePinEach 1 = .ok (.getfield 17, 3) := by decide +kernel
theorem dX3_highAndLowAtOnePinEach_4 : decode cX3_highAndLowAtOnePinEach 4 = .ok (.iconst 0, 1) := by decide +kernel
theorem dX3_highAndLowAtOnePinEach_5 : decode cX3_highAndLowAtOnePinEach 5 = .ok (.iaload, 1) := by decide +kernel
theorem dX3_highAndLowAtOnePinEach_6 : decode cX3_highAndLowAtOnePinEach 6 = .ok (.invokestatic 197, 3) := by decide +kernel
theorem dX3_highAndLowAtOnePinEach_9 : decode cX3_highAndLowAtOnePinEach 9 = .ok (.iconst 1, 1) := by decide +kernel
theorem dX3_highAndLowAtOnePinEach_10 : decode cX3_highAndLowAtOnePinEach 10 = .ok (.if_icmp .ne 20, 3) := by decide +kernel
theorem dX3_highAndLowAtOnePinEach_13 : decode cX3_highAndLowAtOnePinEach 13 = .ok (.aload_n 0, 1) := by decide +kernel
theorem dX3_highAndLowAtOnePinEach_14 : decode cX3_highAndLowAtOnePinEach 14 = .ok (.getfield 17, 3) := by decide +kernel
theorem dX3_highAndLowAtOnePinEach_17 : decode cX3_highAndLowAtOnePinEach 17 = .ok (.iconst 1, 1) := by decide +kernel
theorem dX3_highAndLowAtOnePinEach_18 : decode cX3_highAndLowAtOnePinEach 18 = .ok (.iaload, 1) := by decide +kernel
theorem dX3_highAndLowAtOnePinEach_19 : decode cX3_highAndLowAtOnePinEach 19 = .ok (.invokestatic 197, 3) := by decide +kernel
theorem dX3_highAndLowAtOnePinEach_22 : decode cX3_highAndLowAtOnePinEach 22 = .ok (.iconst 1, 1) := by decide +kernel
theorem dX3_highAndLowAtOnePinEach_23 : decode cX3_highAndLowAtOnePinEach 23 = .ok (.if_icmp .ne 7, 3) := by decide +kernel
theorem dX3_highAndLowAtOnePinEach_26 : decode cX3_highAndLowAtOnePinEach 26 = .ok (.iconst 1, 1) := by decide +kernel
theorem dX3_highAndLowAtOnePinEach_27 : decode cX3_highAndLowAtOnePinEach 27 = .ok (.goto 4, 3) := by decide +kernel
theorem dX3_highAndLowAtOnePinEach_30 : decode cX3_highAndLowAtOnePinEach 30 = .ok (.iconst 0, 1) := by decide +kernel
theorem dX3_highAndLowAtOnePinEach_31 : decode cX3_highAndLowAtOnePinEach 31 = .ok (.ireturn, 1) := by decide +kernel
set_option maxRecDepth 20000 in
theorem ggX3_inHand_X3_highAndLowAtOnePinEach : GoodIn wsX3_inHand wsX3_highAndLowAtOnePinEach := goodIn_r _ [7, 8, 9, 10, 11, 12, 13, 14, 15, 22, 23, 24, 25, 26, 27, 28] (by decide +kernel) (by decide +kernel)
set_option maxRecDepth 20000 in
theorem gX3_inHand_X3_highAndLowAtOnePinEach : GoodIn wsX3_inHand (wsV RX3 202 RX3 yX3_highAndLowAtOnePinEach wsX3_highAndLowAtOnePinEach) := goodIn_app (goodIn_of _ (by decide +kernel)) ggX3_inHand_X3_highAndLowAtOnePinEach
set_option maxRecDepth 20000 in
theorem ggX3_inHand_X3_joinsHighAndLow : GoodIn wsX3_inHand wsX3_joinsHighAndLow := goodIn_r _ [19, 20, 21, 8, 29, 30, 31, 32, 33, 34, 35, 36, 37, 38, 39, 40, 22, 23, 24, 25, 26, 27, 28] (by decide +kernel) (by decide +kernel)
set_option maxRecDepth 20000 in
theorem gX3_inHand_X3_joinsHighAndLow : GoodIn wsX3_inHand (wsV RX3 205 RX3 yX3_joinsHighAndLow wsX3_joinsHighAndLow) := goodIn_app (goodIn_of _ (by decide +kernel)) ggX3_inHand_X3_joinsHighAndLow
theorem dX3_inHand_0 : decode cX3_inHand 0 = .ok (.aload_n 0, 1) := by decide +kernel
theorem dX3_inHand_1 : decode cX3_inHand 1 = .ok (.invokevirtual 202, 3) := by decide +kernel
theorem dX3_inHand_4 : decode cX3_inHand 4 = .ok (.ifCond .ne 6, 3) := by decide +kernel
theorem dX3_inHand_7 : decode cX3_inHand 7 = .ok (.bipush (-9), 2) := by decide +kernel
theorem dX3_inHand_9 : decode cX3_inHand 9 = .ok (.ireturn, 1) := by decide +kernel
theorem dX3_inHand_10 : decode cX3_inHand 10 = .ok (.iconst 0, 1) := by decide +kernel
theorem dX3_inHand_11 : decode cX3_inHand 11 = .ok (.istore_n 1, 1) := by decide +kernel
theorem dX3_inHand_12 : decode cX3_inHand 12 = .ok (.iload_n 1, 1) := by decide +kernel
theorem dX3_inHand_13 : decode cX3_inHand 13 = .ok (.aload_n 0, 1) := by decide +kernel
theorem dX3_inHand_14 : decode cX3_inHand 14 = .ok (.getfield 13, 3) := by decide +kernel
theorem dX3_inHand_17 : decode cX3_inHand 17 = .ok (.arraylength, 1) := by decide +kernel
theorem dX3_inHand_18 : decode cX3_inHand 18 = .ok (.if_icmp .ge 36, 3) := by decide +kernel
theorem dX3_inHand_21 : decode cX3_inHand 21 = .ok (.aload_n 0, 1) := by decide +kernel
theorem dX3_inHand_22 : decode cX3_inHand 22 = .ok (.getfield 13, 3) := by decide +kernel
theorem dX3_inHand_25 : decode cX3_inHand 25 = .ok (.iload_n 1, 1) := by decide +kernel
theorem dX3_inHand_26 : decode cX3_inHand 26 = .ok (.aaload, 1) := by decide +kernel
theorem dX3_inHand_27 : decode cX3_inHand 27 = .ok (.getfield 51, 3) := by decide +kernel
theorem dX3_inHand_30 : decode cX3_inHand 30 = .ok (.ifCond .eq 18, 3) := by decide +kernel
theorem dX3_inHand_33 : decode cX3_inHand 33 = .ok (.aload_n 0, 1) := by decide +kernel
theorem dX3_inHand_34 : decode cX3_inHand 34 = .ok (.aload_n 0, 1) := by decide +kernel
theorem dX3_inHand_35 : decode cX3_inHand 35 = .ok (.getfield 13, 3) := by decide +kernel
theorem dX3_inHand_38 : decode cX3_inHand 38 = .ok (.iload_n 1, 1) := by decide +kernel
theorem dX3_inHand_39 : decode cX3_inHand 39 = .ok (.aaload, 1) := by decide +kernel
theorem dX3_inHand_40 : decode cX3_inHand 40 = .ok (.invokevirtual 205, 3) := by decide +kernel
theorem dX3_inHand_43 : decode cX3_inHand 43 = .ok (.ifCond .eq 5, 3) := by decide +kernel
theorem dX3_inHand_46 : decode cX3_inHand 46 = .ok (.iload_n 1, 1) := by decide +kernel
theorem dX3_inHand_47 : decode cX3_inHand 47 = .ok (.ireturn, 1) := by decide +kernel
theorem dX3_inHand_48 : decode cX3_inHand 48 = .ok (.iinc 1 1, 3) := by decide +kernel
theorem dX3_inHand_51 : decode cX3_inHand 51 = .ok (.goto (-39), 3) := by decide +kernel
theorem dX3_inHand_54 : decode cX3_inHand 54 = .ok (.bipush (-9), 2) := by decide +kernel
theorem dX3_inHand_56 : decode cX3_inHand 56 = .ok (.ireturn, 1) := by decide +kernel
theorem dX3_joinsHighAndLow_0 : decode cX3_joinsHighAndLow 0 = .ok (.iconst 1, 1) := by decide +kernel
theorem dX3_joinsHighAndLow_1 : decode cX3_joinsHighAndLow 1 = .ok (.aload_n 1, 1) := by decide +kernel
theorem dX3_joinsHighAndLow_2 : decode cX3_joinsHighAndLow 2 = .ok (.getfield 74, 3) := by decide +kernel
theorem dX3_joinsHighAndLow_5 : decode cX3_joinsHighAndLow 5 = .ok (.ishl, 1) := by decide +kernel
theorem dX3_joinsHighAndLow_6 : decode cX3_joinsHighAndLow 6 = .ok (.istore_n 2, 1) := by decide +kernel
theorem dX3_joinsHighAndLow_7 : decode cX3_joinsHighAndLow 7 = .ok (.iconst 1, 1) := by decide +kernel
theorem dX3_joinsHighAndLow_8 : decode cX3_joinsHighAndLow 8 = .ok (.aload_n 1, 1) := by decide +kernel
theorem dX3_joinsHighAndLow_9 : decode cX3_joinsHighAndLow 9 = .ok (.getfield 77, 3) := by decide +kernel
theorem dX3_joinsHighAndLow_12 : decode cX3_joinsHighAndLow 12 = .ok (.ishl, 1) := by decide +kernel
theorem dX3_joinsHighAndLow_13 : decode cX3_joinsHighAndLow 13 = .ok (.istore_n 3, 1) := by decide +kernel
theorem dX3_joinsHighAndLow_14 : decode cX3_joinsHighAndLow 14 = .ok (.iload_n 2, 1) := by decide +kernel
theorem dX3_joinsHighAndLow_15 : decode cX3_joinsHighAndLow 15 = .ok (.aload_n 0, 1) := by decide +kernel
theorem dX3_joinsHighAndLow_16 : decode cX3_joinsHighAndLow 16 = .ok (.getfield 17, 3) := by decide +kernel
theorem dX3_joinsHighAndLow_19 : decode cX3_joinsHighAndLow 19 = .ok (.iconst 0, 1) := by decide +kernel
theorem dX3_joinsHighAndLow_20 : decode cX3_joinsHighAndLow 20 = .ok (.iaload, 1) := by decide +kernel
theorem dX3_joinsHighAndLow_21 : decode cX3_joinsHighAndLow 21 = .ok (.if_icmp .ne 13, 3) := by decide +kernel
theorem dX3_joinsHighAndLow_24 : decode cX3_joinsHighAndLow 24 = .ok (.iload_n 3, 1) := by decide +kernel
theorem dX3_joinsHighAndLow_25 : decode cX3_joinsHighAndLow 25 = .ok (.aload_n 0, 1) := by decide +kernel
theorem dX3_joinsHighAndLow_26 : decode cX3_joinsHighAndLow 26 = .ok (.getfield 17, 3) := by decide +kernel
theorem dX3_joinsHighAndLow_29 : decode cX3_joinsHighAndLow 29 = .ok (.iconst 1, 1) := by decide +kernel
theorem dX3_joinsHighAndLow_30 : decode cX3_joinsHighAndLow 30 = .ok (.iaload, 1) := by decide +kernel
theorem dX3_joinsHighAndLow_31 : decode cX3_joinsHighAndLow 31 = .ok (.if_icmp .eq 23, 3) := by decide +kernel
theorem dX3_joinsHighAndLow_34 : decode cX3_joinsHighAndLow 34 = .ok (.iload_n 2, 1) := by decide +kernel
theorem dX3_joinsHighAndLow_35 : decode cX3_joinsHighAndLow 35 = .ok (.aload_n 0, 1) := by decide +kernel
theorem dX3_joinsHighAndLow_36 : decode cX3_joinsHighAndLow 36 = .ok (.getfield 17, 3) := by decide +kernel
theorem dX3_joinsHighAndLow_39 : decode cX3_joinsHighAndLow 39 = .ok (.iconst 1, 1) := by decide +kernel
theorem dX3_joinsHighAndLow_40 : decode cX3_joinsHighAndLow 40 = .ok (.iaload, 1) := by decide +kernel
theorem dX3_joinsHighAndLow_41 : decode cX3_joinsHighAndLow 41 = .ok (.if_icmp .ne 17, 3) := by decide +kernel
theorem dX3_joinsHighAndLow_44 : decode cX3_joinsHighAndLow 44 = .ok (.iload_n 3, 1) := by decide +kernel
theorem dX3_joinsHighAndLow_45 : decode cX3_joinsHighAndLow 45 = .ok (.aload_n 0, 1) := by decide +kernel
theorem dX3_joinsHighAndLow_46 : decode cX3_joinsHighAndLow 46 = .ok (.getfield 17, 3) := by decide +kernel
theorem dX3_joinsHighAndLow_49 : decode cX3_joinsHighAndLow 49 = .ok (.iconst 0, 1) := by decide +kernel
theorem dX3_joinsHighAndLow_50 : decode cX3_joinsHighAndLow 50 = .ok (.iaload, 1) := by decide +kernel
theorem dX3_joinsHighAndLow_51 : decode cX3_joinsHighAndLow 51 = .ok (.if_icmp .ne 7, 3) := by decide +kernel
theorem dX3_joinsHighAndLow_54 : decode cX3_joinsHighAndLow 54 = .ok (.iconst 1, 1) := by decide +kernel
theorem dX3_joinsHighAndLow_55 : decode cX3_joinsHighAndLow 55 = .ok (.goto 4, 3) := by decide +kernel
theorem dX3_joinsHighAndLow_58 : decode cX3_joinsHighAndLow 58 = .ok (.iconst 0, 1) := by decide +kernel
theorem dX3_joinsHighAndLow_59 : decode cX3_joinsHighAndLow 59 = .ok (.ireturn, 1) := by decide +kernel
set_option maxRecDepth 20000 in
theorem ggX3_fourWires_X3_highAndLowAtOnePinEach : GoodIn wsX3_fourWires wsX3_highAndLowAtOnePinEach := goodIn_r _ [6, 1, 7, 8, 9, 10, 11, 12, 13, 14, 15, 16, 17, 18, 19, 20] (by decide +kernel) (by decide +kernel)
set_option maxRecDepth 20000 in
theorem gX3_fourWires_X3_highAndLowAtOnePinEach : GoodIn wsX3_fourWires (wsV RX3 202 RX3 yX3_highAndLowAtOnePinEach wsX3_highAndLowAtOnePinEach) := goodIn_app (goodIn_of _ (by decide +kernel)) ggX3_fourWires_X3_highAndLowAtOnePinEach
theorem dX3_fourWires_0 : decode cX3_fourWires 0 = .ok (.aload_n 0, 1) := by decide +kernel
theorem dX3_fourWires_1 : decode cX3_fourWires 1 = .ok (.invokevirtual 202, 3) := by decide +kernel
theorem dX3_fourWires_4 : decode cX3_fourWires 4 = .ok (.ifCond .eq 37, 3) := by decide +kernel
theorem dX3_fourWires_7 : decode cX3_fourWires 7 = .ok (.aload_n 0, 1) := by decide +kernel
theorem dX3_fourWires_8 : decode cX3_fourWires 8 = .ok (.getfield 17, 3) := by decide +kernel
theorem dX3_fourWires_11 : decode cX3_fourWires 11 = .ok (.iconst 2, 1) := by decide +kernel
theorem dX3_fourWires_12 : decode cX3_fourWires 12 = .ok (.iaload, 1) := by decide +kernel
theorem dX3_fourWires_13 : decode cX3_fourWires 13 = .ok (.aload_n 0, 1) := by decide +kernel
theorem dX3_fourWires_14 : decode cX3_fourWires 14 = .ok (.getfield 17, 3) := by decide +kernel
theorem dX3_fourWires_17 : decode cX3_fourWires 17 = .ok (.iconst 0, 1) := by decide +kernel
theorem dX3_fourWires_18 : decode cX3_fourWires 18 = .ok (.iaload, 1) := by decide +kernel
theorem dX3_fourWires_19 : decode cX3_fourWires 19 = .ok (.if_icmp .ne 22, 3) := by decide +kernel
theorem dX3_fourWires_22 : decode cX3_fourWires 22 = .ok (.aload_n 0, 1) := by decide +kernel
theorem dX3_fourWires_23 : decode cX3_fourWires 23 = .ok (.getfield 17, 3) := by decide +kernel
theorem dX3_fourWires_26 : decode cX3_fourWires 26 = .ok (.iconst 3, 1) := by decide +kernel
theorem dX3_fourWires_27 : decode cX3_fourWires 27 = .ok (.iaload, 1) := by decide +kernel
theorem dX3_fourWires_28 : decode cX3_fourWires 28 = .ok (.aload_n 0, 1) := by decide +kernel
theorem dX3_fourWires_29 : decode cX3_fourWires 29 = .ok (.getfield 17, 3) := by decide +kernel
theorem dX3_fourWires_32 : decode cX3_fourWires 32 = .ok (.iconst 1, 1) := by decide +kernel
theorem dX3_fourWires_33 : decode cX3_fourWires 33 = .ok (.iaload, 1) := by decide +kernel
theorem dX3_fourWires_34 : decode cX3_fourWires 34 = .ok (.if_icmp .ne 7, 3) := by decide +kernel
theorem dX3_fourWires_37 : decode cX3_fourWires 37 = .ok (.iconst 1, 1) := by decide +kernel
theorem dX3_fourWires_38 : decode cX3_fourWires 38 = .ok (.goto 4, 3) := by decide +kernel
theorem dX3_fourWires_41 : decode cX3_fourWires 41 = .ok (.iconst 0, 1) := by decide +kernel
theorem dX3_fourWires_42 : decode cX3_fourWires 42 = .ok (.ireturn, 1) := by decide +kernel
set_option maxRecDepth 20000 in
theorem ggX3_closedRelays_J6_bitCount_0f7a4 : GoodIn wsX3_closedRelays wsJ6_bitCount_0f7a4 := goodIn_r _ [5, 6, 7, 8] (by decide +kernel) (by decide +kernel)
set_option maxRecDepth 20000 in
theorem gX3_closedRelays_J6_bitCount_0f7a4 : GoodIn wsX3_closedRelays (va_wsS RX3 197 yJ6_bitCount_0f7a4 wsJ6_bitCount_0f7a4) := goodIn_app (goodIn_of _ (by decide +kernel)) ggX3_closedRelays_J6_bitCount_0f7a4
theorem dX3_closedRelays_0 : decode cX3_closedRelays 0 = .ok (.iconst 0, 1) := by decide +kernel
theorem dX3_closedRelays_1 : decode cX3_closedRelays 1 = .ok (.istore_n 1, 1) := by decide +kernel
theorem dX3_closedRelays_2 : decode cX3_closedRelays 2 = .ok (.iconst 0, 1) := by decide +kernel
theorem dX3_closedRelays_3 : decode cX3_closedRelays 3 = .ok (.istore_n 2, 1) := by decide +kernel
theorem dX3_closedRelays_4 : decode cX3_closedRelays 4 = .ok (.iload_n 2, 1) := by decide +kernel
theorem dX3_closedRelays_5 : decode cX3_closedRelays 5 = .ok (.aload_n 0, 1) := by decide +kernel
theorem dX3_closedRelays_6 : decode cX3_closedRelays 6 = .ok (.getfield 17, 3) := by decide +kernel
theorem dX3_closedRelays_9 : decode cX3_closedRelays 9 = .ok (.arraylength, 1) := by decide +kernel
theorem dX3_closedRelays_10 : decode cX3_closedRelays 10 = .ok (.if_icmp .ge 21, 3) := by decide +kernel
theorem dX3_closedRelays_13 : decode cX3_closedRelays 13 = .ok (.iload_n 1, 1) := by decide +kernel
theorem dX3_closedRelays_14 : decode cX3_closedRelays 14 = .ok (.aload_n 0, 1) := by decide +kernel
theorem dX3_closedRelays_15 : decode cX3_closedRelays 15 = .ok (.getfield 17, 3) := by decide +kernel
theorem dX3_closedRelays_18 : decode cX3_closedRelays 18 = .ok (.iload_n 2, 1) := by decide +kernel
theorem dX3_closedRelays_19 : decode cX3_closedRelays 19 = .ok (.iaload, 1) := by decide +kernel
theorem dX3_closedRelays_20 : decode cX3_closedRelays 20 = .ok (.invokestatic 197, 3) := by decide +kernel
theorem dX3_closedRelays_23 : decode cX3_closedRelays 23 = .ok (.iadd, 1) := by decide +kernel
theorem dX3_closedRelays_24 : decode cX3_closedRelays 24 = .ok (.istore_n 1, 1) := by decide +kernel
theorem dX3_closedRelays_25 : decode cX3_closedRelays 25 = .ok (.iinc 2 1, 3) := by decide +kernel
theorem dX3_closedRelays_28 : decode cX3_closedRelays 28 = .ok (.goto (-24), 3) := by decide +kernel
theorem dX3_closedRelays_31 : decode cX3_closedRelays 31 = .ok (.iload_n 1, 1) := by decide +kernel
theorem dX3_closedRelays_32 : decode cX3_closedRelays 32 = .ok (.ireturn, 1) := by decide +kernel
theorem dX3_partsThere_0 : decode cX3_partsThere 0 = .ok (.iconst 0, 1) := by decide +kernel
theorem dX3_partsThere_1 : decode cX3_partsThere 1 = .ok (.istore_n 2, 1) := by decide +kernel
theorem dX3_partsThere_2 : decode cX3_partsThere 2 = .ok (.iconst 0, 1) := by decide +kernel
theorem dX3_partsThere_3 : decode cX3_partsThere 3 = .ok (.istore_n 3, 1) := by decide +kernel
theorem dX3_partsThere_4 : decode cX3_partsThere 4 = .ok (.iload_n 3, 1) := by decide +kernel
theorem dX3_partsThere_5 : decode cX3_partsThere 5 = .ok (.aload_n 0, 1) := by decide +kernel
theorem dX3_partsThere_6 : decode cX3_partsThere 6 = .ok (.getfield 13, 3) := by decide +kernel
theorem dX3_partsThere_9 : decode cX3_partsThere 9 = .ok (.arraylength, 1) := by decide +kernel
theorem dX3_partsThere_10 : decode cX3_partsThere 10 = .ok (.if_icmp .ge 40, 3) := by decide +kernel
theorem dX3_partsThere_13 : decode cX3_partsThere 13 = .ok (.aload_n 0, 1) := by decide +kernel
theorem dX3_partsThere_14 : decode cX3_partsThere 14 = .ok (.getfield 13, 3) := by decide +kernel
theorem dX3_partsThere_17 : decode cX3_partsThere 17 = .ok (.iload_n 3, 1) := by decide +kernel
theorem dX3_partsThere_18 : decode cX3_partsThere 18 = .ok (.aaload, 1) := by decide +kernel
theorem dX3_partsThere_19 : decode cX3_partsThere 19 = .ok (.getfield 51, 3) := by decide +kernel
theorem dX3_partsThere_22 : decode cX3_partsThere 22 = .ok (.ifCond .eq 22, 3) := by decide +kernel
theorem dX3_partsThere_25 : decode cX3_partsThere 25 = .ok (.aload_n 0, 1) := by decide +kernel
theorem dX3_partsThere_26 : decode cX3_partsThere 26 = .ok (.getfield 13, 3) := by decide +kernel
theorem dX3_partsThere_29 : decode cX3_partsThere 29 = .ok (.iload_n 3, 1) := by decide +kernel
theorem dX3_partsThere_30 : decode cX3_partsThere 30 = .ok (.aaload, 1) := by decide +kernel
theorem dX3_partsThere_31 : decode cX3_partsThere 31 = .ok (.getfield 86, 3) := by decide +kernel
theorem dX3_partsThere_34 : decode cX3_partsThere 34 = .ok (.ifCond .ne 7, 3) := by decide +kernel
theorem dX3_partsThere_37 : decode cX3_partsThere 37 = .ok (.iload_n 1, 1) := by decide +kernel
theorem dX3_partsThere_38 : decode cX3_partsThere 38 = .ok (.ifCond .ne 6, 3) := by decide +kernel
theorem dX3_partsThere_41 : decode cX3_partsThere 41 = .ok (.iinc 2 1, 3) := by decide +kernel
theorem dX3_partsThere_44 : decode cX3_partsThere 44 = .ok (.iinc 3 1, 3) := by decide +kernel
theorem dX3_partsThere_47 : decode cX3_partsThere 47 = .ok (.goto (-43), 3) := by decide +kernel
theorem dX3_partsThere_50 : decode cX3_partsThere 50 = .ok (.iload_n 2, 1) := by decide +kernel
theorem dX3_partsThere_51 : decode cX3_partsThere 51 = .ok (.ireturn, 1) := by decide +kernel
theorem dX3_owned_0 : decode cX3_owned 0 = .ok (.iconst 1, 1) := by decide +kernel
theorem dX3_owned_1 : decode cX3_owned 1 = .ok (.aload_n 1, 1) := by decide +kernel
theorem dX3_owned_2 : decode cX3_owned 2 = .ok (.getfield 74, 3) := by decide +kernel
theorem dX3_owned_5 : decode cX3_owned 5 = .ok (.ishl, 1) := by decide +kernel
theorem dX3_owned_6 : decode cX3_owned 6 = .ok (.aload_n 0, 1) := by decide +kernel
theorem dX3_owned_7 : decode cX3_owned 7 = .ok (.getfield 17, 3) := by decide +kernel
theorem dX3_owned_10 : decode cX3_owned 10 = .ok (.iconst 0, 1) := by decide +kernel
theorem dX3_owned_11 : decode cX3_owned 11 = .ok (.iaload, 1) := by decide +kernel
theorem dX3_owned_12 : decode cX3_owned 12 = .ok (.if_icmp .ne 7, 3) := by decide +kernel
theorem dX3_owned_15 : decode cX3_owned 15 = .ok (.iload_n 2, 1) := by decide +kernel
theorem dX3_owned_16 : decode cX3_owned 16 = .ok (.goto 5, 3) := by decide +kernel
theorem dX3_owned_19 : decode cX3_owned 19 = .ok (.iload_n 2, 1) := by decide +kernel
theorem dX3_owned_20 : decode cX3_owned 20 = .ok (.ineg, 1) := by decide +kernel
theorem dX3_owned_21 : decode cX3_owned 21 = .ok (.ireturn, 1) := by decide +kernel
set_option maxRecDepth 20000 in
theorem ggX3_ampsAt_X3_owned : GoodIn wsX3_ampsAt wsX3_owned := goodIn_r _ [5, 6, 7, 29, 30, 31, 32, 33, 34, 35, 36, 37, 38, 39, 40, 41, 42, 43, 44, 45, 46, 47] (by decide +kernel) (by decide +kernel)
set_option maxRecDepth 20000 in
theorem gX3_ampsAt_X3_owned : GoodIn wsX3_ampsAt (wsV RX3 209 RX3 yX3_owned wsX3_owned) := goodIn_app (goodIn_of _ (by decide +kernel)) ggX3_ampsAt_X3_owned
set_option maxRecDepth 20000 in
theorem ggX3_ampsAt_X1_ownAmps : GoodIn wsX3_ampsAt wsX1_ownAmps := goodIn_r _ [12, 13, 14, 15, 16, 17, 18, 11, 19, 20, 21, 22, 23, 24, 25, 26, 27, 28, 29, 30, 31, 32, 33, 34, 35, 36, 37, 38, 39, 40] (by decide +kernel) (by decide +kernel)
set_option maxRecDepth 20000 in
theorem gX3_ampsAt_X1_ownAmps : GoodIn wsX3_ampsAt (wsV RX3 107 RX1 yX1_ownAmps wsX1_ownAmps) := goodIn_app (goodIn_of _ (by decide +kernel)) ggX3_ampsAt_X1_ownAmps
theorem dX3_ampsAt_0 : decode cX3_ampsAt 0 = .ok (.aload_n 0, 1) := by decide +kernel
theorem dX3_ampsAt_1 : decode cX3_ampsAt 1 = .ok (.aload_n 1, 1) := by decide +kernel
theorem dX3_ampsAt_2 : decode cX3_ampsAt 2 = .ok (.aload_n 1, 1) := by decide +kernel
theorem dX3_ampsAt_3 : decode cX3_ampsAt 3 = .ok (.aload_n 0, 1) := by decide +kernel
theorem dX3_ampsAt_4 : decode cX3_ampsAt 4 = .ok (.aload_n 1, 1) := by decide +kernel
theorem dX3_ampsAt_5 : decode cX3_ampsAt 5 = .ok (.iload_n 2, 1) := by decide +kernel
theorem dX3_ampsAt_6 : decode cX3_ampsAt 6 = .ok (.invokevirtual 209, 3) := by decide +kernel
theorem dX3_ampsAt_9 : decode cX3_ampsAt 9 = .ok (.invokevirtual 107, 3) := by decide +kernel
theorem dX3_ampsAt_12 : decode cX3_ampsAt 12 = .ok (.invokevirtual 209, 3) := by decide +kernel
theorem dX3_ampsAt_15 : decode cX3_ampsAt 15 = .ok (.ireturn, 1) := by decide +kernel
set_option maxRecDepth 20000 in
theorem ggX3_drop_J9_floorDiv_7cf53 : GoodIn wsX3_drop wsJ9_floorDiv_7cf53 := goodIn_r _ [5] (by decide +kernel) (by decide +kernel)
set_option maxRecDepth 20000 in
theorem gX3_drop_J9_floorDiv_7cf53 : GoodIn wsX3_drop (va_wsS RX3 212 yJ9_floorDiv_7cf53 wsJ9_floorDiv_7cf53) := goodIn_app (goodIn_of _ (by decide +kernel)) ggX3_drop_J9_floorDiv_7cf53
theorem dX3_drop_0 : decode cX3_drop 0 = .ok (.iload_n 1, 1) := by decide +kernel
theorem dX3_drop_1 : decode cX3_drop 1 = .ok (.aload_n 0, 1) := by decide +kernel
theorem dX3_drop_2 : decode cX3_drop 2 = .ok (.getfield 43, 3) := by decide +kernel
theorem dX3_drop_5 : decode cX3_drop 5 = .ok (.imul, 1) := by decide +kernel
theorem dX3_drop_6 : decode cX3_drop 6 = .ok (.sipush 1000, 3) := by decide +kernel
theorem dX3_drop_9 : decode cX3_drop 9 = .ok (.invokestatic 212, 3) := by decide +kernel
theorem dX3_drop_12 : decode cX3_drop 12 = .ok (.ireturn, 1) := by decide +kernel
set_option maxRecDepth 20000 in
theorem ggX3_aboveLimit_X3_ampsAt : GoodIn wsX3_aboveLimit wsX3_ampsAt := goodIn_r _ [10, 11, 12, 13, 9, 14, 15, 16, 17, 18, 19, 20, 21, 22, 23, 24, 25, 26, 27, 28, 29, 30, 31, 32, 33, 34, 35, 36, 37, 45, 46, 47, 48, 49, 50, 51, 52, 53, 54, 55, 56, 38, 39, 40, 41, 42, 43, 44] (by decide +kernel) (by decide +kernel)
set_option maxRecDepth 20000 in
theorem gX3_aboveLimit_X3_ampsAt : GoodIn wsX3_aboveLimit (wsV RX3 115 RX3 yX3_ampsAt wsX3_ampsAt) := goodIn_app (goodIn_of _ (by decide +kernel)) ggX3_aboveLimit_X3_ampsAt
theorem dX3_aboveLimit_0 : decode cX3_aboveLimit 0 = .ok (.aload_n 0, 1) := by decide +kernel
theorem dX3_aboveLimit_1 : decode cX3_aboveLimit 1 = .ok (.aload_n 1, 1) := by decide +kernel
theorem dX3_aboveLimit_2 : decode cX3_aboveLimit 2 = .ok (.iload_n 2, 1) := by decide +kernel
theorem dX3_aboveLimit_3 : decode cX3_aboveLimit 3 = .ok (.invokevirtual 115, 3) := by decide +kernel
theorem dX3_aboveLimit_6 : decode cX3_aboveLimit 6 = .ok (.invokestatic 147, 3) := by decide +kernel
theorem dX3_aboveLimit_9 : decode cX3_aboveLimit 9 = .ok (.aload_n 0, 1) := by decide +kernel
theorem dX3_aboveLimit_10 : decode cX3_aboveLimit 10 = .ok (.getfield 39, 3) := by decide +kernel
theorem dX3_aboveLimit_13 : decode cX3_aboveLimit 13 = .ok (.if_icmp .le 7, 3) := by decide +kernel
theorem dX3_aboveLimit_16 : decode cX3_aboveLimit 16 = .ok (.iconst 1, 1) := by decide +kernel
theorem dX3_aboveLimit_17 : decode cX3_aboveLimit 17 = .ok (.goto 4, 3) := by decide +kernel
theorem dX3_aboveLimit_20 : decode cX3_aboveLimit 20 = .ok (.iconst 0, 1) := by decide +kernel
theorem dX3_aboveLimit_21 : decode cX3_aboveLimit 21 = .ok (.ireturn, 1) := by decide +kernel
set_option maxRecDepth 20000 in
theorem ggX3_allowed_X3_ampsAt : GoodIn wsX3_allowed wsX3_ampsAt := goodIn_r _ [10, 11, 12, 13, 9, 14, 15, 16, 17, 18, 19, 20, 21, 22, 23, 24, 25, 26, 27, 28, 29, 30, 31, 32, 33, 34, 35, 36, 37, 66, 67, 68, 69, 70, 71, 72, 73, 74, 75, 76, 77, 59, 60, 61, 62, 63, 64, 65] (by decide +kernel) (by decide +kernel)
set_option maxRecDepth 20000 in
theorem gX3_allowed_X3_ampsAt : GoodIn wsX3_allowed (wsV RX3 115 RX3 yX3_ampsAt wsX3_ampsAt) := goodIn_app (goodIn_of _ (by decide +kernel)) ggX3_allowed_X3_ampsAt
set_option maxRecDepth 20000 in
theorem ggX3_allowed_X3_fourWires : GoodIn wsX3_allowed wsX3_fourWires := goodIn_r _ [41, 16, 42, 43, 44, 9, 45, 46, 47, 48, 49, 50, 51, 52, 59, 60, 61, 62, 63, 64, 65] (by decide +kernel) (by decide +kernel)
set_option maxRecDepth 20000 in
theorem gX3_allowed_X3_fourWires : GoodIn wsX3_allowed (wsV RX3 99 RX3 yX3_fourWires wsX3_fourWires) := goodIn_app (goodIn_of _ (by decide +kernel)) ggX3_allowed_X3_fourWires
set_option maxRecDepth 20000 in
theorem ggX3_allowed_X3_drop : GoodIn wsX3_allowed wsX3_drop := goodIn_r _ [56, 57, 58, 35, 36, 37, 59, 60, 61, 62, 63, 64, 65] (by decide +kernel) (by decide +kernel)
set_option maxRecDepth 20000 in
theorem gX3_allowed_X3_drop : GoodIn wsX3_allowed (wsV RX3 215 RX3 yX3_drop wsX3_drop) := goodIn_app (goodIn_of _ (by decide +kernel)) ggX3_allowed_X3_drop
theorem dX3_allowed_0 : decode cX3_allowed 0 = .ok (.aload_n 0, 1) := by decide +kernel
theorem dX3_allowed_1 : decode cX3_allowed 1 = .ok (.aload_n 1, 1) := by decide +kernel
theorem dX3_allowed_2 : decode cX3_allowed 2 = .ok (.iload_n 2, 1) := by decide +kernel
theorem dX3_allowed_3 : decode cX3_allowed 3 = .ok (.invokevirtual 115, 3) := by decide +kernel
theorem dX3_allowed_6 : decode cX3_allowed 6 = .ok (.istore 4, 2) := by decide +kernel
theorem dX3_allowed_8 : decode cX3_allowed 8 = .ok (.iload 4, 2) := by decide +kernel
theorem dX3_allowed_10 : decode cX3_allowed 10 = .ok (.invokestatic 147, 3) := by decide +kernel
theorem dX3_allowed_13 : decode cX3_allowed 13 = .ok (.aload_n 0, 1) := by decide +kernel
theorem dX3_allowed_14 : decode cX3_allowed 14 = .ok (.getfield 39, 3) := by decide +kernel
theorem dX3_allowed_17 : decode cX3_allowed 17 = .ok (.if_icmp .le 5, 3) := by decide +kernel
theorem dX3_allowed_20 : decode cX3_allowed 20 = .ok (.iconst 0, 1) := by decide +kernel
theorem dX3_allowed_21 : decode cX3_allowed 21 = .ok (.ireturn, 1) := by decide +kernel
theorem dX3_allowed_22 : decode cX3_allowed 22 = .ok (.aload_n 0, 1) := by decide +kernel
theorem dX3_allowed_23 : decode cX3_allowed 23 = .ok (.invokevirtual 99, 3) := by decide +kernel
theorem dX3_allowed_26 : decode cX3_allowed 26 = .ok (.ifCond .ne 21, 3) := by decide +kernel
theorem dX3_allowed_29 : decode cX3_allowed 29 = .ok (.iload_n 2, 1) := by decide +kernel
theorem dX3_allowed_30 : decode cX3_allowed 30 = .ok (.aload_n 0, 1) := by decide +kernel
theorem dX3_allowed_31 : decode cX3_allowed 31 = .ok (.iload 4, 2) := by decide +kernel
theorem dX3_allowed_33 : decode cX3_allowed 33 = .ok (.invokevirtual 215, 3) := by decide +kernel
theorem dX3_allowed_36 : decode cX3_allowed 36 = .ok (.iadd, 1) := by decide +kernel
theorem dX3_allowed_37 : decode cX3_allowed 37 = .ok (.invokestatic 147, 3) := by decide +kernel
theorem dX3_allowed_40 : decode cX3_allowed 40 = .ok (.iload_n 3, 1) := by decide +kernel
theorem dX3_allowed_41 : decode cX3_allowed 41 = .ok (.invokestatic 147, 3) := by decide +kernel
theorem dX3_allowed_44 : decode cX3_allowed 44 = .ok (.if_icmp .gt 7, 3) := by decide +kernel
theorem dX3_allowed_47 : decode cX3_allowed 47 = .ok (.iconst 1, 1) := by decide +kernel
theorem dX3_allowed_48 : decode cX3_allowed 48 = .ok (.goto 4, 3) := by decide +kernel
theorem dX3_allowed_51 : decode cX3_allowed 51 = .ok (.iconst 0, 1) := by decide +kernel
theorem dX3_allowed_52 : decode cX3_allowed 52 = .ok (.ireturn, 1) := by decide +kernel
set_option maxRecDepth 20000 in
theorem ggX3_farthest_X3_allowed : GoodIn wsX3_farthest wsX3_allowed := goodIn_r _ [9, 1, 2, 3, 4, 10, 11, 12, 13, 8, 14, 15, 16, 17, 18, 19, 20, 21, 22, 23, 24, 25, 26, 27, 28, 29, 30, 31, 32, 33, 34, 35, 36, 37, 38, 39, 40, 41, 42, 43, 44, 45, 46, 47, 48, 49, 50, 51, 52, 53, 54, 55, 56, 57, 58, 59, 60, 61, 62, 63, 64, 65, 66, 67, 68, 69, 70, 71, 72, 73, 74, 75, 76, 77, 78, 79, 80, 81] (by decide +kernel) (by decide +kernel)
set_option maxRecDepth 20000 in
theorem gX3_farthest_X3_allowed : GoodIn wsX3_farthest (wsV RX3 218 RX3 yX3_allowed wsX3_allowed) := goodIn_app (goodIn_of _ (by decide +kernel)) ggX3_farthest_X3_allowed
theorem dX3_farthest_0 : decode cX3_farthest 0 = .ok (.iload_n 2, 1) := by decide +kernel
theorem dX3_farthest_1 : decode cX3_farthest 1 = .ok (.ifCond .ge 7, 3) := by decide +kernel
theorem dX3_farthest_4 : decode cX3_farthest 4 = .ok (.iconst (-1), 1) := by decide +kernel
theorem dX3_farthest_5 : decode cX3_farthest 5 = .ok (.goto 4, 3) := by decide +kernel
theorem dX3_farthest_8 : decode cX3_farthest 8 = .ok (.iconst 1, 1) := by decide +kernel
theorem dX3_farthest_9 : decode cX3_farthest 9 = .ok (.istore_n 3, 1) := by decide +kernel
theorem dX3_farthest_10 : decode cX3_farthest 10 = .ok (.iconst 0, 1) := by decide +kernel
theorem dX3_farthest_11 : decode cX3_farthest 11 = .ok (.istore 4, 2) := by decide +kernel
theorem dX3_farthest_13 : decode cX3_farthest 13 = .ok (.iload_n 2, 1) := by decide +kernel
theorem dX3_farthest_14 : decode cX3_farthest 14 = .ok (.invokestatic 147, 3) := by decide +kernel
theorem dX3_farthest_17 : decode cX3_farthest 17 = .ok (.istore 5, 2) := by decide +kernel
theorem dX3_farthest_19 : decode cX3_farthest 19 = .ok (.iconst 0, 1) := by decide +kernel
theorem dX3_farthest_20 : decode cX3_farthest 20 = .ok (.istore 6, 2) := by decide +kernel
theorem dX3_farthest_22 : decode cX3_farthest 22 = .ok (.iload 6, 2) := by decide +kernel
theorem dX3_farthest_24 : decode cX3_farthest 24 = .ok (.bipush 32, 2) := by decide +kernel
theorem dX3_farthest_26 : decode cX3_farthest 26 = .ok (.if_icmp .ge 53, 3) := by decide +kernel
theorem dX3_farthest_29 : decode cX3_farthest 29 = .ok (.iload 4, 2) := by decide +kernel
theorem dX3_farthest_31 : decode cX3_farthest 31 = .ok (.iload 5, 2) := by decide +kernel
theorem dX3_farthest_33 : decode cX3_farthest 33 = .ok (.if_icmp .ge 46, 3) := by decide +kernel
theorem dX3_farthest_36 : decode cX3_farthest 36 = .ok (.iload 4, 2) := by decide +kernel
theorem dX3_farthest_38 : decode cX3_farthest 38 = .ok (.iload 5, 2) := by decide +kernel
theorem dX3_farthest_40 : decode cX3_farthest 40 = .ok (.iadd, 1) := by decide +kernel
theorem dX3_farthest_41 : decode cX3_farthest 41 = .ok (.iconst 1, 1) := by decide +kernel
theorem dX3_farthest_42 : decode cX3_farthest 42 = .ok (.iadd, 1) := by decide +kernel
theorem dX3_farthest_43 : decode cX3_farthest 43 = .ok (.iconst 2, 1) := by decide +kernel
theorem dX3_farthest_44 : decode cX3_farthest 44 = .ok (.idiv, 1) := by decide +kernel
theorem dX3_farthest_45 : decode cX3_farthest 45 = .ok (.istore 7, 2) := by decide +kernel
theorem dX3_farthest_47 : decode cX3_farthest 47 = .ok (.aload_n 0, 1) := by decide +kernel
theorem dX3_farthest_48 : decode cX3_farthest 48 = .ok (.aload_n 1, 1) := by decide +kernel
theorem dX3_farthest_49 : decode cX3_farthest 49 = .ok (.iload_n 3, 1) := by decide +kernel
theorem dX3_farthest_50 : decode cX3_farthest 50 = .ok (.iload 7, 2) := by decide +kernel
theorem dX3_farthest_52 : decode cX3_farthest 52 = .ok (.imul, 1) := by decide +kernel
theorem dX3_farthest_53 : decode cX3_farthest 53 = .ok (.iload_n 2, 1) := by decide +kernel
theorem dX3_farthest_54 : decode cX3_farthest 54 = .ok (.invokevirtual 218, 3) := by decide +kernel
theorem dX3_farthest_57 : decode cX3_farthest 57 = .ok (.ifCond .eq 10, 3) := by decide +kernel
theorem dX3_farthest_60 : decode cX3_farthest 60 = .ok (.iload 7, 2) := by decide +kernel
theorem dX3_farthest_62 : decode cX3_farthest 62 = .ok (.istore 4, 2) := by decide +kernel
theorem dX3_farthest_64 : decode cX3_farthest 64 = .ok (.goto 9, 3) := by decide +kernel
theorem dX3_farthest_67 : decode cX3_farthest 67 = .ok (.iload 7, 2) := by decide +kernel
theorem dX3_farthest_69 : decode cX3_farthest 69 = .ok (.iconst 1, 1) := by decide +kernel
theorem dX3_farthest_70 : decode cX3_farthest 70 = .ok (.isub, 1) := by decide +kernel
theorem dX3_farthest_71 : decode cX3_farthest 71 = .ok (.istore 5, 2) := by decide +kernel
theorem dX3_farthest_73 : decode cX3_farthest 73 = .ok (.iinc 6 1, 3) := by decide +kernel
theorem dX3_farthest_76 : decode cX3_farthest 76 = .ok (.goto (-54), 3) := by decide +kernel
theorem dX3_farthest_79 : decode cX3_farthest 79 = .ok (.iload_n 3, 1) := by decide +kernel
theorem dX3_farthest_80 : decode cX3_farthest 80 = .ok (.iload 4, 2) := by decide +kernel
theorem dX3_farthest_82 : decode cX3_farthest 82 = .ok (.imul, 1) := by decide +kernel
theorem dX3_farthest_83 : decode cX3_farthest 83 = .ok (.ireturn, 1) := by decide +kernel
set_option maxRecDepth 20000 in
theorem ggX3_ruleAt_X3_aboveLimit : GoodIn wsX3_ruleAt wsX3_aboveLimit := goodIn_r _ [5, 6, 7, 8, 9, 10, 11, 12, 13, 4, 14, 15, 16, 17, 18, 19, 20, 21, 22, 23, 24, 25, 26, 27, 28, 29, 30, 31, 32, 33, 34, 35, 36, 37, 38, 39, 40, 41, 42, 43, 44, 45, 46, 47, 48, 49, 50, 51, 52, 53, 54, 55, 56, 57, 58, 59, 60] (by decide +kernel) (by decide +kernel)
set_option maxRecDepth 20000 in
theorem gX3_ruleAt_X3_aboveLimit : GoodIn wsX3_ruleAt (wsV RX3 222 RX3 yX3_aboveLimit wsX3_aboveLimit) := goodIn_app (goodIn_of _ (by decide +kernel)) ggX3_ruleAt_X3_aboveLimit
theorem dX3_ruleAt_0 : decode cX3_ruleAt 0 = .ok (.iload_n 2, 1) := by decide +kernel
theorem dX3_ruleAt_1 : decode cX3_ruleAt 1 = .ok (.iload_n 3, 1) := by decide +kernel
theorem dX3_ruleAt_2 : decode cX3_ruleAt 2 = .ok (.if_icmp .ne 5, 3) := by decide +kernel
theorem dX3_ruleAt_5 : decode cX3_ruleAt 5 = .ok (.iconst 0, 1) := by decide +kernel
theorem dX3_ruleAt_6 : decode cX3_ruleAt 6 = .ok (.ireturn, 1) := by decide +kernel
theorem dX3_ruleAt_7 : decode cX3_ruleAt 7 = .ok (.iload_n 3, 1) := by decide +kernel
theorem dX3_ruleAt_8 : decode cX3_ruleAt 8 = .ok (.ifCond .ge 9, 3) := by decide +kernel
theorem dX3_ruleAt_11 : decode cX3_ruleAt 11 = .ok (.iload_n 2, 1) := by decide +kernel
theorem dX3_ruleAt_12 : decode cX3_ruleAt 12 = .ok (.iconst 1, 1) := by decide +kernel
theorem dX3_ruleAt_13 : decode cX3_ruleAt 13 = .ok (.isub, 1) := by decide +kernel
theorem dX3_ruleAt_14 : decode cX3_ruleAt 14 = .ok (.goto 6, 3) := by decide +kernel
theorem dX3_ruleAt_17 : decode cX3_ruleAt 17 = .ok (.iload_n 2, 1) := by decide +kernel
theorem dX3_ruleAt_18 : decode cX3_ruleAt 18 = .ok (.iconst 1, 1) := by decide +kernel
theorem dX3_ruleAt_19 : decode cX3_ruleAt 19 = .ok (.iadd, 1) := by decide +kernel
theorem dX3_ruleAt_20 : decode cX3_ruleAt 20 = .ok (.istore 4, 2) := by decide +kernel
theorem dX3_ruleAt_22 : decode cX3_ruleAt 22 = .ok (.aload_n 0, 1) := by decide +kernel
theorem dX3_ruleAt_23 : decode cX3_ruleAt 23 = .ok (.aload_n 1, 1) := by decide +kernel
theorem dX3_ruleAt_24 : decode cX3_ruleAt 24 = .ok (.iload 4, 2) := by decide +kernel
theorem dX3_ruleAt_26 : decode cX3_ruleAt 26 = .ok (.invokevirtual 222, 3) := by decide +kernel
theorem dX3_ruleAt_29 : decode cX3_ruleAt 29 = .ok (.ifCond .eq 7, 3) := by decide +kernel
theorem dX3_ruleAt_32 : decode cX3_ruleAt 32 = .ok (.iconst 1, 1) := by decide +kernel
theorem dX3_ruleAt_33 : decode cX3_ruleAt 33 = .ok (.goto 4, 3) := by decide +kernel
theorem dX3_ruleAt_36 : decode cX3_ruleAt 36 = .ok (.iconst 2, 1) := by decide +kernel
theorem dX3_ruleAt_37 : decode cX3_ruleAt 37 = .ok (.ireturn, 1) := by decide +kernel
set_option maxRecDepth 20000 in
theorem ggX3_readPulse_X3_farthest : GoodIn wsX3_readPulse wsX3_farthest := goodIn_r _ [7, 8, 9, 10, 11, 12, 13, 14, 6, 15, 16, 17, 18, 19, 20, 21, 22, 23, 24, 25, 26, 27, 28, 29, 30, 31, 32, 33, 34, 35, 36, 37, 38, 39, 40, 41, 42, 43, 44, 45, 46, 47, 48, 49, 50, 51, 52, 53, 54, 55, 56, 57, 58, 59, 60, 61, 62, 63, 64, 65, 66, 67, 68, 123, 124, 125, 126, 127, 128, 129, 111, 112, 113, 114, 115, 116, 117, 118, 119, 120, 121, 122] (by decide +kernel) (by decide +kernel)
set_option maxRecDepth 20000 in
theorem gX3_readPulse_X3_farthest : GoodIn wsX3_readPulse (wsV RX3 111 RX3 yX3_farthest wsX3_farthest) := goodIn_app (goodIn_of _ (by decide +kernel)) ggX3_readPulse_X3_farthest
set_option maxRecDepth 20000 in
theorem ggX3_readPulse_X3_owned : GoodIn wsX3_readPulse wsX3_owned := goodIn_r _ [24, 25, 26, 111, 112, 113, 114, 115, 116, 117, 118, 119, 120, 121, 122, 123, 124, 125, 126, 127, 128, 129] (by decide +kernel) (by decide +kernel)
set_option maxRecDepth 20000 in
theorem gX3_readPulse_X3_owned : GoodIn wsX3_readPulse (wsV RX3 209 RX3 yX3_owned wsX3_owned) := goodIn_app (goodIn_of _ (by decide +kernel)) ggX3_readPulse_X3_owned
set_option maxRecDepth 20000 in
theorem ggX3_readPulse_X1_snapsOpenAt : GoodIn wsX3_readPulse wsX1_snapsOpenAt := goodIn_r _ [72, 39, 40, 34, 43, 111, 112, 113, 114, 115, 116, 117, 118, 119, 120, 121, 122] (by decide +kernel) (by decide +kernel)
set_option maxRecDepth 20000 in
theorem gX3_readPulse_X1_snapsOpenAt : GoodIn wsX3_readPulse (wsV RX3 226 RX1 yX1_snapsOpenAt wsX1_snapsOpenAt) := goodIn_app (goodIn_of _ (by decide +kernel)) ggX3_readPulse_X1_snapsOpenAt
set_option maxRecDepth 20000 in
theorem ggX3_readPulse_X3_ampsAt : GoodIn wsX3_readPulse wsX3_ampsAt := goodIn_r _ [20, 21, 22, 23, 6, 24, 25, 26, 27, 28, 29, 30, 31, 32, 33, 34, 35, 36, 37, 38, 39, 40, 41, 42, 43, 44, 45, 46, 47, 111, 112, 113, 114, 115, 116, 117, 118, 119, 120, 121, 122, 123, 124, 125, 126, 127, 128, 129] (by decide +kernel) (by decide +kernel)
set_option maxRecDepth 20000 in
theorem gX3_readPulse_X3_ampsAt : GoodIn wsX3_readPulse (wsV RX3 115 RX3 yX3_ampsAt wsX3_ampsAt) := goodIn_app (goodIn_of _ (by decide +kernel)) ggX3_readPulse_X3_ampsAt
set_option maxRecDepth 20000 in
theorem ggX3_readPulse_X3_fourWires : GoodIn wsX3_readPulse wsX3_fourWires := goodIn_r _ [51, 26, 52, 53, 54, 6, 55, 56, 57, 58, 59, 60, 61, 62, 123, 124, 125, 126, 127, 128, 129] (by decide +kernel) (by decide +kernel)
set_option maxRecDepth 20000 in
theorem gX3_readPulse_X3_fourWires : GoodIn wsX3_readPulse (wsV RX3 99 RX3 yX3_fourWires wsX3_fourWires) := goodIn_app (goodIn_of _ (by decide +kernel)) ggX3_readPulse_X3_fourWires
set_option maxRecDepth 20000 in
theorem ggX3_readPulse_X3_drop : GoodIn wsX3_readPulse wsX3_drop := goodIn_r _ [66, 67, 68, 45, 46, 47, 123, 124, 125, 126, 127, 128, 129] (by decide +kernel) (by decide +kernel)
set_option maxRecDepth 20000 in
theorem gX3_readPulse_X3_drop : GoodIn wsX3_readPulse (wsV RX3 215 RX3 yX3_drop wsX3_drop) := goodIn_app (goodIn_of _ (by decide +kernel)) ggX3_readPulse_X3_drop
set_option maxRecDepth 20000 in
theorem ggX3_readPulse_X3_ruleAt : GoodIn wsX3_readPulse wsX3_ruleAt := goodIn_r _ [76, 77, 78, 79, 6, 80, 8, 9, 10, 11, 16, 17, 18, 19, 20, 21, 22, 23, 24, 25, 26, 27, 28, 29, 30, 31, 32, 33, 34, 35, 36, 37, 38, 39, 40, 41, 42, 43, 44, 45, 46, 47, 123, 124, 125, 126, 127, 128, 129, 111, 112, 113, 114, 115, 116, 117, 118, 119, 120, 121, 122] (by decide +kernel) (by decide +kernel)
set_option maxRecDepth 20000 in
theorem gX3_readPulse_X3_ruleAt : GoodIn wsX3_readPulse (wsV RX3 118 RX3 yX3_ruleAt wsX3_ruleAt) := goodIn_app (goodIn_of _ (by decide +kernel)) ggX3_readPulse_X3_ruleAt
set_option maxRecDepth 20000 in
theorem ggX3_readPulse_X2_add : GoodIn wsX3_readPulse wsX2_add := goodIn_r _ [85, 86, 87, 88, 89, 90, 91, 92, 93, 84, 94, 130, 131, 132, 133, 134] (by decide +kernel) (by decide +kernel)
set_option maxRecDepth 20000 in
theorem gX3_readPulse_X2_add : GoodIn wsX3_readPulse (wsV RX3 229 RX2 yX2_add wsX2_add) := goodIn_app (goodIn_of _ (by decide +kernel)) ggX3_readPulse_X2_add
set_option maxRecDepth 20000 in
theorem ggX3_readPulse_X1_warm : GoodIn wsX3_readPulse wsX1_warm := goodIn_r _ [98, 99, 100, 10, 101, 33, 102, 103, 104, 105, 34, 111, 112, 113, 114, 115, 116, 117, 118, 119, 120, 121, 122] (by decide +kernel) (by decide +kernel)
set_option maxRecDepth 20000 in
theorem gX3_readPulse_X1_warm : GoodIn wsX3_readPulse (wsV RX3 233 RX1 yX1_warm wsX1_warm) := goodIn_app (goodIn_of _ (by decide +kernel)) ggX3_readPulse_X1_warm
set_option maxRecDepth 20000 in
theorem ggX3_readPulse_X1_shutBelow : GoodIn wsX3_readPulse wsX1_shutBelow := goodIn_r _ [109, 39, 40, 110, 111, 112, 113, 114, 115, 116, 117, 118, 119, 120, 121, 122] (by decide +kernel) (by decide +kernel)
set_option maxRecDepth 20000 in
theorem gX3_readPulse_X1_shutBelow : GoodIn wsX3_readPulse (wsV RX3 237 RX1 yX1_shutBelow wsX1_shutBelow) := goodIn_app (goodIn_of _ (by decide +kernel)) ggX3_readPulse_X1_shutBelow
theorem dX3_readPulse_0 : decode cX3_readPulse 0 = .ok (.aload_n 0, 1) := by decide +kernel
theorem dX3_readPulse_1 : decode cX3_readPulse 1 = .ok (.aload_n 1, 1) := by decide +kernel
theorem dX3_readPulse_2 : decode cX3_readPulse 2 = .ok (.iload_n 2, 1) := by decide +kernel
theorem dX3_readPulse_3 : decode cX3_readPulse 3 = .ok (.invokevirtual 111, 3) := by decide +kernel
theorem dX3_readPulse_6 : decode cX3_readPulse 6 = .ok (.istore 4, 2) := by decide +kernel
theorem dX3_readPulse_8 : decode cX3_readPulse 8 = .ok (.aload_n 1, 1) := by decide +kernel
theorem dX3_readPulse_9 : decode cX3_readPulse 9 = .ok (.aload_n 0, 1) := by decide +kernel
theorem dX3_readPulse_10 : decode cX3_readPulse 10 = .ok (.aload_n 1, 1) := by decide +kernel
theorem dX3_readPulse_11 : decode cX3_readPulse 11 = .ok (.iload 4, 2) := by decide +kernel
theorem dX3_readPulse_13 : decode cX3_readPulse 13 = .ok (.invokevirtual 209, 3) := by decide +kernel
theorem dX3_readPulse_16 : decode cX3_readPulse 16 = .ok (.invokevirtual 226, 3) := by decide +kernel
theorem dX3_readPulse_19 : decode cX3_readPulse 19 = .ok (.ifCond .eq 16, 3) := by decide +kernel
theorem dX3_readPulse_22 : decode cX3_readPulse 22 = .ok (.aload_n 1, 1) := by decide +kernel
theorem dX3_readPulse_23 : decode cX3_readPulse 23 = .ok (.iconst 1, 1) := by decide +kernel
theorem dX3_readPulse_24 : decode cX3_readPulse 24 = .ok (.putfield 89, 3) := by decide +kernel
theorem dX3_readPulse_27 : decode cX3_readPulse 27 = .ok (.aload_n 0, 1) := by decide +kernel
theorem dX3_readPulse_28 : decode cX3_readPulse 28 = .ok (.aload_n 1, 1) := by decide +kernel
theorem dX3_readPulse_29 : decode cX3_readPulse 29 = .ok (.iload_n 2, 1) := by decide +kernel
theorem dX3_readPulse_30 : decode cX3_readPulse 30 = .ok (.invokevirtual 111, 3) := by decide +kernel
theorem dX3_readPulse_33 : decode cX3_readPulse 33 = .ok (.istore 4, 2) := by decide +kernel
theorem dX3_readPulse_35 : decode cX3_readPulse 35 = .ok (.aload_n 0, 1) := by decide +kernel
theorem dX3_readPulse_36 : decode cX3_readPulse 36 = .ok (.aload_n 1, 1) := by decide +kernel
theorem dX3_readPulse_37 : decode cX3_readPulse 37 = .ok (.iload 4, 2) := by decide +kernel
theorem dX3_readPulse_39 : decode cX3_readPulse 39 = .ok (.invokevirtual 115, 3) := by decide +kernel
theorem dX3_readPulse_42 : decode cX3_readPulse 42 = .ok (.istore 5, 2) := by decide +kernel
theorem dX3_readPulse_44 : decode cX3_readPulse 44 = .ok (.aload_n 0, 1) := by decide +kernel
theorem dX3_readPulse_45 : decode cX3_readPulse 45 = .ok (.invokevirtual 99, 3) := by decide +kernel
theorem dX3_readPulse_48 : decode cX3_readPulse 48 = .ok (.ifCond .eq 8, 3) := by decide +kernel
theorem dX3_readPulse_51 : decode cX3_readPulse 51 = .ok (.iload 4, 2) := by decide +kernel
theorem dX3_readPulse_53 : decode cX3_readPulse 53 = .ok (.goto 12, 3) := by decide +kernel
theorem dX3_readPulse_56 : decode cX3_readPulse 56 = .ok (.iload 4, 2) := by decide +kernel
theorem dX3_readPulse_58 : decode cX3_readPulse 58 = .ok (.aload_n 0, 1) := by decide +kernel
theorem dX3_readPulse_59 : decode cX3_readPulse 59 = .ok (.iload 5, 2) := by decide +kernel
theorem dX3_readPulse_61 : decode cX3_readPulse 61 = .ok (.invokevirtual 215, 3) := by decide +kernel
theorem dX3_readPulse_64 : decode cX3_readPulse 64 = .ok (.iadd, 1) := by decide +kernel
theorem dX3_readPulse_65 : decode cX3_readPulse 65 = .ok (.istore 6, 2) := by decide +kernel
theorem dX3_readPulse_67 : decode cX3_readPulse 67 = .ok (.aload_n 0, 1) := by decide +kernel
theorem dX3_readPulse_68 : decode cX3_readPulse 68 = .ok (.getfield 24, 3) := by decide +kernel
theorem dX3_readPulse_71 : decode cX3_readPulse 71 = .ok (.iload_n 2, 1) := by decide +kernel
theorem dX3_readPulse_72 : decode cX3_readPulse 72 = .ok (.iload 6, 2) := by decide +kernel
theorem dX3_readPulse_74 : decode cX3_readPulse 74 = .ok (.iload 5, 2) := by decide +kernel
theorem dX3_readPulse_76 : decode cX3_readPulse 76 = .ok (.aload_n 0, 1) := by decide +kernel
theorem dX3_readPulse_77 : decode cX3_readPulse 77 = .ok (.aload_n 1, 1) := by decide +kernel
theorem dX3_readPulse_78 : decode cX3_readPulse 78 = .ok (.iload 4, 2) := by decide +kernel
theorem dX3_readPulse_80 : decode cX3_readPulse 80 = .ok (.iload_n 2, 1) := by decide +kernel
theorem dX3_readPulse_81 : decode cX3_readPulse 81 = .ok (.invokevirtual 118, 3) := by decide +kernel
theorem dX3_readPulse_84 : decode cX3_readPulse 84 = .ok (.invokevirtual 229, 3) := by decide +kernel
theorem dX3_readPulse_87 : decode cX3_readPulse 87 = .ok (.aload_n 1, 1) := by decide +kernel
theorem dX3_readPulse_88 : decode cX3_readPulse 88 = .ok (.iload 4, 2) := by decide +kernel
theorem dX3_readPulse_90 : decode cX3_readPulse 90 = .ok (.iload 5, 2) := by decide +kernel
theorem dX3_readPulse_92 : decode cX3_readPulse 92 = .ok (.iload_n 3, 1) := by decide +kernel
theorem dX3_readPulse_93 : decode cX3_readPulse 93 = .ok (.invokevirtual 233, 3) := by decide +kernel
theorem dX3_readPulse_96 : decode cX3_readPulse 96 = .ok (.istore 7, 2) := by decide +kernel
theorem dX3_readPulse_98 : decode cX3_readPulse 98 = .ok (.aload_n 1, 1) := by decide +kernel
theorem dX3_readPulse_99 : decode cX3_readPulse 99 = .ok (.aload_n 0, 1) := by decide +kernel
theorem dX3_readPulse_100 : decode cX3_readPulse 100 = .ok (.aload_n 1, 1) := by decide +kernel
theorem dX3_readPulse_101 : decode cX3_readPulse 101 = .ok (.iload 5, 2) := by decide +kernel
theorem dX3_readPulse_103 : decode cX3_readPulse 103 = .ok (.invokevirtual 209, 3) := by decide +kernel
theorem dX3_readPulse_106 : decode cX3_readPulse 106 = .ok (.invokevirtual 237, 3) := by decide +kernel
theorem dX3_readPulse_109 : decode cX3_readPulse 109 = .ok (.iload 7, 2) := by decide +kernel
theorem dX3_readPulse_111 : decode cX3_readPulse 111 = .ok (.ireturn, 1) := by decide +kernel
set_option maxRecDepth 20000 in
theorem ggX3_tellBurnt_X0_put : GoodIn wsX3_tellBurnt wsX0_put := goodIn_r _ [6, 7, 8, 9, 17, 18, 19] (by decide +kernel) (by decide +kernel)
set_option maxRecDepth 20000 in
theorem gX3_tellBurnt_X0_put : GoodIn wsX3_tellBurnt (wsV RX3 150 RX0 yX0_put wsX0_put) := goodIn_app (goodIn_of _ (by decide +kernel)) ggX3_tellBurnt_X0_put
theorem dX3_tellBurnt_0 : decode cX3_tellBurnt 0 = .ok (.aload_n 0, 1) := by decide +kernel
theorem dX3_tellBurnt_1 : decode cX3_tellBurnt 1 = .ok (.getfield 31, 3) := by decide +kernel
theorem dX3_tellBurnt_4 : decode cX3_tellBurnt 4 = .ok (.iconst 2, 1) := by decide +kernel
theorem dX3_tellBurnt_5 : decode cX3_tellBurnt 5 = .ok (.iload_n 1, 1) := by decide +kernel
theorem dX3_tellBurnt_6 : decode cX3_tellBurnt 6 = .ok (.invokevirtual 150, 3) := by decide +kernel
theorem dX3_tellBurnt_9 : decode cX3_tellBurnt 9 = .ok (.aload_n 0, 1) := by decide +kernel
theorem dX3_tellBurnt_10 : decode cX3_tellBurnt 10 = .ok (.getfield 31, 3) := by decide +kernel
theorem dX3_tellBurnt_13 : decode cX3_tellBurnt 13 = .ok (.iconst 3, 1) := by decide +kernel
theorem dX3_tellBurnt_14 : decode cX3_tellBurnt 14 = .ok (.iload_n 2, 1) := by decide +kernel
theorem dX3_tellBurnt_15 : decode cX3_tellBurnt 15 = .ok (.invokevirtual 150, 3) := by decide +kernel
theorem dX3_tellBurnt_18 : decode cX3_tellBurnt 18 = .ok (.return_, 1) := by decide +kernel
set_option maxRecDepth 20000 in
theorem ggX3_coolAll_X1_cool : GoodIn wsX3_coolAll wsX1_cool := goodIn_r _ [6, 7, 15, 16, 17, 18, 19, 20, 21, 22, 23, 24, 25, 26] (by decide +kernel) (by decide +kernel)
set_option maxRecDepth 20000 in
theorem gX3_coolAll_X1_cool : GoodIn wsX3_coolAll (wsV RX3 240 RX1 yX1_cool wsX1_cool) := goodIn_app (goodIn_of _ (by decide +kernel)) ggX3_coolAll_X1_cool
theorem dX3_coolAll_0 : decode cX3_coolAll 0 = .ok (.iconst 0, 1) := by decide +kernel
theorem dX3_coolAll_1 : decode cX3_coolAll 1 = .ok (.istore_n 2, 1) := by decide +kernel
theorem dX3_coolAll_2 : decode cX3_coolAll 2 = .ok (.iload_n 2, 1) := by decide +kernel
theorem dX3_coolAll_3 : decode cX3_coolAll 3 = .ok (.aload_n 0, 1) := by decide +kernel
theorem dX3_coolAll_4 : decode cX3_coolAll 4 = .ok (.getfield 13, 3) := by decide +kernel
theorem dX3_coolAll_7 : decode cX3_coolAll 7 = .ok (.arraylength, 1) := by decide +kernel
theorem dX3_coolAll_8 : decode cX3_coolAll 8 = .ok (.if_icmp .ge 19, 3) := by decide +kernel
theorem dX3_coolAll_11 : decode cX3_coolAll 11 = .ok (.aload_n 0, 1) := by decide +kernel
theorem dX3_coolAll_12 : decode cX3_coolAll 12 = .ok (.getfield 13, 3) := by decide +kernel
theorem dX3_coolAll_15 : decode cX3_coolAll 15 = .ok (.iload_n 2, 1) := by decide +kernel
theorem dX3_coolAll_16 : decode cX3_coolAll 16 = .ok (.aaload, 1) := by decide +kernel
theorem dX3_coolAll_17 : decode cX3_coolAll 17 = .ok (.iload_n 1, 1) := by decide +kernel
theorem dX3_coolAll_18 : decode cX3_coolAll 18 = .ok (.invokevirtual 240, 3) := by decide +kernel
theorem dX3_coolAll_21 : decode cX3_coolAll 21 = .ok (.iinc 2 1, 3) := by decide +kernel
theorem dX3_coolAll_24 : decode cX3_coolAll 24 = .ok (.goto (-22), 3) := by decide +kernel
theorem dX3_coolAll_27 : decode cX3_coolAll 27 = .ok (.return_, 1) := by decide +kernel
theorem dX4_init_0 : decode cX4_init 0 = .ok (.aload_n 0, 1) := by decide +kernel
theorem dX4_init_1 : decode cX4_init 1 = .ok (.invokespecial 1, 3) := by decide +kernel
theorem dX4_init_4 : decode cX4_init 4 = .ok (.aload_n 0, 1) := by decide +kernel
theorem dX4_init_5 : decode cX4_init 5 = .ok (.iconst 4, 1) := by decide +kernel
theorem dX4_init_6 : decode cX4_init 6 = .ok (.newarray .boolean, 2) := by decide +kernel
theorem dX4_init_8 : decode cX4_init 8 = .ok (.putfield 7, 3) := by decide +kernel
theorem dX4_init_11 : decode cX4_init 11 = .ok (.aload_n 0, 1) := by decide +kernel
theorem dX4_init_12 : decode cX4_init 12 = .ok (.iconst 4, 1) := by decide +kernel
theorem dX4_init_13 : decode cX4_init 13 = .ok (.newarray .int, 2) := by decide +kernel
theorem dX4_init_15 : decode cX4_init 15 = .ok (.putfield 13, 3) := by decide +kernel
theorem dX4_init_18 : decode cX4_init 18 = .ok (.aload_n 0, 1) := by decide +kernel
theorem dX4_init_19 : decode cX4_init 19 = .ok (.iconst 4, 1) := by decide +kernel
theorem dX4_init_20 : decode cX4_init 20 = .ok (.newarray .int, 2) := by decide +kernel
theorem dX4_init_22 : decode cX4_init 22 = .ok (.putfield 17, 3) := by decide +kernel
theorem dX4_init_25 : decode cX4_init 25 = .ok (.aload_n 0, 1) := by decide +kernel
theorem dX4_init_26 : decode cX4_init 26 = .ok (.iconst 4, 1) := by decide +kernel
theorem dX4_init_27 : decode cX4_init 27 = .ok (.newarray .int, 2) := by decide +kernel
theorem dX4_init_29 : decode cX4_init 29 = .ok (.putfield 20, 3) := by decide +kernel
theorem dX4_init_32 : decode cX4_init 32 = .ok (.aload_n 0, 1) := by decide +kernel
theorem dX4_init_33 : decode cX4_init 33 = .ok (.bipush 20, 2) := by decide +kernel
theorem dX4_init_35 : decode cX4_init 35 = .ok (.newarray .int, 2) := by decide +kernel
theorem dX4_init_37 : decode cX4_init 37 = .ok (.putfield 23, 3) := by decide +kernel
theorem dX4_init_40 : decode cX4_init 40 = .ok (.aload_n 0, 1) := by decide +kernel
theorem dX4_init_41 : decode cX4_init 41 = .ok (.iconst 5, 1) := by decide +kernel
theorem dX4_init_42 : decode cX4_init 42 = .ok (.newarray .int, 2) := by decide +kernel
theorem dX4_init_44 : decode cX4_init 44 = .ok (.dup, 1) := by decide +kernel
theorem dX4_init_45 : decode cX4_init 45 = .ok (.iconst 0, 1) := by decide +kernel
theorem dX4_init_46 : decode cX4_init 46 = .ok (.iconst 1, 1) := by decide +kernel
theorem dX4_init_47 : decode cX4_init 47 = .ok (.iastore, 1) := by decide +kernel
theorem dX4_init_48 : decode cX4_init 48 = .ok (.dup, 1) := by decide +kernel
theorem dX4_init_49 : decode cX4_init 49 = .ok (.iconst 1, 1) := by decide +kernel
theorem dX4_init_50 : decode cX4_init 50 = .ok (.iconst 1, 1) := by decide +kernel
theorem dX4_init_51 : decode cX4_init 51 = .ok (.iastore, 1) := by decide +kernel
theorem dX4_init_52 : decode cX4_init 52 = .ok (.dup, 1) := by decide +kernel
theorem dX4_init_53 : decode cX4_init 53 = .ok (.iconst 2, 1) := by decide +kernel
theorem dX4_init_54 : decode cX4_init 54 = .ok (.iconst 0, 1) := by decide +kernel
theorem dX4_init_55 : decode cX4_init 55 = .ok (.iastore, 1) := by decide +kernel
theorem dX4_init_56 : decode cX4_init 56 = .ok (.dup, 1) := by decide +kernel
theorem dX4_init_57 : decode cX4_init 57 = .ok (.iconst 3, 1) := by decide +kernel
theorem dX4_init_58 : decode cX4_init 58 = .ok (.iconst 0, 1) := by decide +kernel
theorem dX4_init_59 : decode cX4_init 59 = .ok (.iastore, 1) := by decide +kernel
theorem dX4_init_60 : decode cX4_init 60 = .ok (.dup, 1) := by decide +kernel
theorem dX4_init_61 : decode cX4_init 61 = .ok (.iconst 4, 1) := by decide +kernel
theorem dX4_init_62 : decode cX4_init 62 = .ok (.iconst 0, 1) := by decide +kernel
theorem dX4_init_63 : decode cX4_init 63 = .ok (.iastore, 1) := by decide +kernel
theorem dX4_init_64 : decode cX4_init 64 = .ok (.putfield 26, 3) := by decide +kernel
theorem dX4_init_67 : decode cX4_init 67 = .ok (.aload_n 0, 1) := by decide +kernel
theorem dX4_init_68 : decode cX4_init 68 = .ok (.iconst 5, 1) := by decide +kernel
theorem dX4_init_69 : decode cX4_init 69 = .ok (.newarray .int, 2) := by decide +kernel
theorem dX4_init_71 : decode cX4_init 71 = .ok (.dup, 1) := by decide +kernel
theorem dX4_init_72 : decode cX4_init 72 = .ok (.iconst 0, 1) := by decide +kernel
theorem dX4_init_73 : decode cX4_init 73 = .ok (.sipush 5000, 3) := by decide +kernel
theorem dX4_init_76 : decode cX4_init 76 = .ok (.iastore, 1) := by decide +kernel
theorem dX4_init_77 : decode cX4_init 77 = .ok (.dup, 1) := by decide +kernel
theorem dX4_init_78 : decode cX4_init 78 = .ok (.iconst 1, 1) := by decide +kernel
theorem dX4_init_79 : decode cX4_init 79 = .ok (.sipush 2000, 3) := by decide +kernel
theorem dX4_init_82 : decode cX4_init 82 = .ok (.iastore, 1) := by decide +kernel
theorem dX4_init_83 : decode cX4_init 83 = .ok (.dup, 1) := by decide +kernel
theorem dX4_init_84 : decode cX4_init 84 = .ok (.iconst 2, 1) := by decide +kernel
theorem dX4_init_85 : decode cX4_init 85 = .ok (.sipush 2000, 3) := by decide +kernel
theorem dX4_init_88 : decode cX4_init 88 = .ok (.iastore, 1) := by decide +kernel
theorem dX4_init_89 : decode cX4_init 89 = .ok (.dup, 1) := by decide +kernel
theorem dX4_init_90 : decode cX4_init 90 = .ok (.iconst 3, 1) := by decide +kernel
theorem dX4_init_91 : decode cX4_init 91 = .ok (.sipush 5000, 3) := by decide +kernel
theorem dX4_init_94 : decode cX4_init 94 = .ok (.iastore, 1) := by decide +kernel
theorem dX4_init_95 : decode cX4_init 95 = .ok (.dup, 1) := by decide +kernel
theorem dX4_init_96 : decode cX4_init 96 = .ok (.iconst 4, 1) := by decide +kernel
theorem dX4_init_97 : decode cX4_init 97 = .ok (.iconst 5, 1) := by decide +kernel
theorem dX4_init_98 : decode cX4_init 98 = .ok (.iastore, 1) := by decide +kernel
theorem dX4_init_99 : decode cX4_init 99 = .ok (.putfield 29, 3) := by decide +kernel
theorem dX4_init_102 : decode cX4_init 102 = .ok (.aload_n 0, 1) := by decide +kernel
theorem dX4_init_103 : decode cX4_init 103 = .ok (.iconst 4, 1) := by decide +kernel
theorem dX4_init_104 : decode cX4_init 104 = .ok (.newarray .int, 2) := by decide +kernel
theorem dX4_init_106 : decode cX4_init 106 = .ok (.putfield 32, 3) := by decide +kernel
theorem dX4_init_109 : decode cX4_init 109 = .ok (.aload_n 0, 1) := by decide +kernel
theorem dX4_init_110 : decode cX4_init 110 = .ok (.iconst 4, 1) := by decide +kernel
theorem dX4_init_111 : decode cX4_init 111 = .ok (.newarray .boolean, 2) := by decide +kernel
theorem dX4_init_113 : decode cX4_init 113 = .ok (.putfield 35, 3) := by decide +kernel
theorem dX4_init_116 : decode cX4_init 116 = .ok (.aload_n 0, 1) := by decide +kernel
theorem dX4_init_117 : decode cX4_init 117 = .ok (.iconst 4, 1) := by decide +kernel
theorem dX4_init_118 : decode cX4_init 118 = .ok (.newarray .boolean, 2) := by decide +kernel
theorem dX4_init_120 : decode cX4_init 120 = .ok (.putfield 38, 3) := by decide +kernel
theorem dX4_init_123 : decode cX4_init 123 = .ok (.aload_n 0, 1) := by decide +kernel
theorem dX4_init_124 : decode cX4_init 124 = .ok (.iconst 4, 1) := by decide +kernel
theorem dX4_init_125 : decode cX4_init 125 = .ok (.newarray .int, 2) := by decide +kernel
theorem dX4_init_127 : decode cX4_init 127 = .ok (.putfield 41, 3) := by decide +kernel
theorem dX4_init_130 : decode cX4_init 130 = .ok (.aload_n 0, 1) := by decide +kernel
theorem dX4_init_131 : decode cX4_init 131 = .ok (.sipush 1000, 3) := by decide +kernel
theorem dX4_init_134 : decode cX4_init 134 = .ok (.putfield 44, 3) := by decide +kernel
theorem dX4_init_137 : decode cX4_init 137 = .ok (.aload_n 0, 1) := by decide +kernel
theorem dX4_init_138 : decode cX4_init 138 = .ok (.bipush 60, 2) := by decide +kernel
theorem dX4_init_140 : decode cX4_init 140 = .ok (.newarray .int, 2) := by decide +kernel
theorem dX4_init_142 : decode cX4_init 142 = .ok (.putfield 48, 3) := by decide +kernel
theorem dX4_init_145 : decode cX4_init 145 = .ok (.aload_n 0, 1) := by decide +kernel
theorem dX4_init_146 : decode cX4_init 146 = .ok (.bipush 60, 2) := by decide +kernel
theorem dX4_init_148 : decode cX4_init 148 = .ok (.newarray .int, 2) := by decide +kernel
theorem dX4_init_150 : decode cX4_init 150 = .ok (.putfield 51, 3) := by decide +kernel
theorem dX4_init_153 : decode cX4_init 153 = .ok (.aload_n 0, 1) := by decide +kernel
theorem dX4_init_154 : decode cX4_init 154 = .ok (.bipush 60, 2) := by decide +kernel
theorem dX4_init_156 : decode cX4_init 156 = .ok (.newarray .int, 2) := by decide +kernel
theorem dX4_init_158 : decode cX4_init 158 = .ok (.putfield 54, 3) := by decide +kernel
theorem dX4_init_161 : decode cX4_init 161 = .ok (.aload_n 0, 1) := by decide +kernel
theorem dX4_init_162 : decode cX4_init 162 = .ok (.bipush 60, 2) := by decide +kernel
theorem dX4_init_164 : decode cX4_init 164 = .ok (.newarray .int, 2) := by decide +kernel
theorem dX4_init_166 : decode cX4_init 166 = .ok (.putfield 57, 3) := by decide +kernel
theorem dX4_init_169 : decode cX4_init 169 = .ok (.aload_n 0, 1) := by decide +kernel
theorem dX4_init_170 : decode cX4_init 170 = .ok (.iconst 3, 1) := by decide +kernel
theorem dX4_init_171 : decode cX4_init 171 = .ok (.newarray .int, 2) := by decide +kernel
theorem dX4_init_173 : decode cX4_init 173 = .ok (.putfield 60, 3) := by decide +kernel
theorem dX4_init_176 : decode cX4_init 176 = .ok (.aload_n 0, 1) := by decide +kernel
theorem dX4_init_177 : decode cX4_init 177 = .ok (.iconst 3, 1) := by decide +kernel
theorem dX4_init_178 : decode cX4_init 178 = .ok (.newarray .int, 2) := by decide +kernel
theorem dX4_init_180 : decode cX4_init 180 = .ok (.putfield 63, 3) := by decide +kernel
theorem dX4_init_183 : decode cX4_init 183 = .ok (.return_, 1) := by decide +kernel
theorem dX4_within_0 : decode cX4_within 0 = .ok (.iload_n 0, 1) := by decide +kernel
theorem dX4_within_1 : decode cX4_within 1 = .ok (.iload_n 1, 1) := by decide +kernel
theorem dX4_within_2 : decode cX4_within 2 = .ok (.if_icmp .lt 12, 3) := by decide +kernel
theorem dX4_within_5 : decode cX4_within 5 = .ok (.iload_n 0, 1) := by decide +kernel
theorem dX4_within_6 : decode cX4_within 6 = .ok (.iload_n 2, 1) := by decide +kernel
theorem dX4_within_7 : decode cX4_within 7 = .ok (.if_icmp .gt 7, 3) := by decide +kernel
theorem dX4_within_10 : decode cX4_within 10 = .ok (.iconst 1, 1) := by decide +kernel
theorem dX4_within_11 : decode cX4_within 11 = .ok (.goto 4, 3) := by decide +kernel
theorem dX4_within_14 : decode cX4_within 14 = .ok (.iconst 0, 1) := by decide +kernel
theorem dX4_within_15 : decode cX4_within 15 = .ok (.ireturn, 1) := by decide +kernel
theorem dX4_size_0 : decode cX4_size 0 = .ok (.iload_n 0, 1) := by decide +kernel
theorem dX4_size_1 : decode cX4_size 1 = .ok (.ifCond .ge 8, 3) := by decide +kernel
theorem dX4_size_4 : decode cX4_size 4 = .ok (.iload_n 0, 1) := by decide +kernel
theorem dX4_size_5 : decode cX4_size 5 = .ok (.ineg, 1) := by decide +kernel
theorem dX4_size_6 : decode cX4_size 6 = .ok (.goto 4, 3) := by decide +kernel
theorem dX4_size_9 : decode cX4_size 9 = .ok (.iload_n 0, 1) := by decide +kernel
theorem dX4_size_10 : decode cX4_size 10 = .ok (.ireturn, 1) := by decide +kernel
theorem dX4_cut_0 : decode cX4_cut 0 = .ok (.iload_n 0, 1) := by decide +kernel
theorem dX4_cut_1 : decode cX4_cut 1 = .ok (.ifCond .lt 9, 3) := by decide +kernel
theorem dX4_cut_4 : decode cX4_cut 4 = .ok (.iload_n 0, 1) := by decide +kernel
theorem dX4_cut_5 : decode cX4_cut 5 = .ok (.iload_n 1, 1) := by decide +kernel
theorem dX4_cut_6 : decode cX4_cut 6 = .ok (.idiv, 1) := by decide +kernel
theorem dX4_cut_7 : decode cX4_cut 7 = .ok (.goto 11, 3) := by decide +kernel
theorem dX4_cut_10 : decode cX4_cut 10 = .ok (.iload_n 1, 1) := by decide +kernel
theorem dX4_cut_11 : decode cX4_cut 11 = .ok (.iconst 1, 1) := by decide +kernel
theorem dX4_cut_12 : decode cX4_cut 12 = .ok (.isub, 1) := by decide +kernel
theorem dX4_cut_13 : decode cX4_cut 13 = .ok (.iload_n 0, 1) := by decide +kernel
theorem dX4_cut_14 : decode cX4_cut 14 = .ok (.isub, 1) := by decide +kernel
theorem dX4_cut_15 : decode cX4_cut 15 = .ok (.iload_n 1, 1) := by decide +kernel
theorem dX4_cut_16 : decode cX4_cut 16 = .ok (.idiv, 1) := by decide +kernel
theorem dX4_cut_17 : decode cX4_cut 17 = .ok (.ineg, 1) := by decide +kernel
theorem dX4_cut_18 : decode cX4_cut 18 = .ok (.ireturn, 1) := by decide +kernel
end
section
set_option maxRecDepth 20000 in
theorem ggX4_isPin_X4_within : GoodIn wsX4_isPin wsX4_within := goodIn_r _ [4] (by decide +kernel) (by decide +kernel)
set_option maxRecDepth 20000 in
theorem gX4_isPin_X4_within : GoodIn wsX4_isPin (va_wsS RX4 66 yX4_within wsX4_within) := goodIn_app (goodIn_of _ (by decide +kernel)) ggX4_isPin_X4_within
theorem dX4_isPin_0 : decode cX4_isPin 0 = .ok (.iload_n 0, 1) := by decide +kernel
theorem dX4_isPin_1 : decode cX4_isPin 1 = .ok (.iconst 0, 1) := by decide +kernel
theorem dX4_isPin_2 : decode cX4_isPin 2 = .ok (.bipush 7, 2) := by decide +kernel
theorem dX4_isPin_4 : decode cX4_isPin 4 = .ok (.invokestatic 66, 3) := by decide +kernel
theorem dX4_isPin_7 : decode cX4_isPin 7 = .ok (.ireturn, 1) := by decide +kernel
set_option maxRecDepth 20000 in
theorem ggX4_isPart_X4_within : GoodIn wsX4_isPart wsX4_within := goodIn_r _ [5] (by decide +kernel) (by decide +kernel)
set_option maxRecDepth 20000 in
theorem gX4_isPart_X4_within : GoodIn wsX4_isPart (va_wsS RX4 66 yX4_within wsX4_within) := goodIn_app (goodIn_of _ (by decide +kernel)) ggX4_isPart_X4_within
theorem dX4_isPart_0 : decode cX4_isPart 0 = .ok (.iload_n 1, 1) := by decide +kernel
theorem dX4_isPart_1 : decode cX4_isPart 1 = .ok (.iconst 0, 1) := by decide +kernel
theorem dX4_isPart_2 : decode cX4_isPart 2 = .ok (.iconst 3, 1) := by decide +kernel
theorem dX4_isPart_3 : decode cX4_isPart 3 = .ok (.invokestatic 66, 3) := by decide +kernel
theorem dX4_isPart_6 : decode cX4_isPart 6 = .ok (.ifCond .eq 16, 3) := by decide +kernel
theorem dX4_isPart_9 : decode cX4_isPart 9 = .ok (.aload_n 0, 1) := by decide +kernel
theorem dX4_isPart_10 : decode cX4_isPart 10 = .ok (.getfield 7, 3) := by decide +kernel
theorem dX4_isPart_13 : decode cX4_isPart 13 = .ok (.iload_n 1, 1) := by decide +kernel
theorem dX4_isPart_14 : decode cX4_isPart 14 = .ok (.baload, 1) := by decide +kernel
theorem dX4_isPart_15 : decode cX4_isPart 15 = .ok (.ifCond .eq 7, 3) := by decide +kernel
theorem dX4_isPart_18 : decode cX4_isPart 18 = .ok (.iconst 1, 1) := by decide +kernel
theorem dX4_isPart_19 : decode cX4_isPart 19 = .ok (.goto 4, 3) := by decide +kernel
theorem dX4_isPart_22 : decode cX4_isPart 22 = .ok (.iconst 0, 1) := by decide +kernel
theorem dX4_isPart_23 : decode cX4_isPart 23 = .ok (.ireturn, 1) := by decide +kernel
theorem dX4_number_0 : decode cX4_number 0 = .ok (.aload_n 0, 1) := by decide +kernel
theorem dX4_number_1 : decode cX4_number 1 = .ok (.getfield 23, 3) := by decide +kernel
theorem dX4_number_4 : decode cX4_number 4 = .ok (.iconst 5, 1) := by decide +kernel
theorem dX4_number_5 : decode cX4_number 5 = .ok (.iload_n 1, 1) := by decide +kernel
theorem dX4_number_6 : decode cX4_number 6 = .ok (.imul, 1) := by decide +kernel
theorem dX4_number_7 : decode cX4_number 7 = .ok (.iload_n 2, 1) := by decide +kernel
theorem dX4_number_8 : decode cX4_number 8 = .ok (.iadd, 1) := by decide +kernel
theorem dX4_number_9 : decode cX4_number 9 = .ok (.iaload, 1) := by decide +kernel
theorem dX4_number_10 : decode cX4_number 10 = .ok (.ireturn, 1) := by decide +kernel
set_option maxRecDepth 20000 in
theorem ggX4_part_X4_within : GoodIn wsX4_part wsX4_within := goodIn_r _ [13] (by decide +kernel) (by decide +kernel)
set_option maxRecDepth 20000 in
theorem gX4_part_X4_within : GoodIn wsX4_part (va_wsS RX4 66 yX4_within wsX4_within) := goodIn_app (goodIn_of _ (by decide +kernel)) ggX4_part_X4_within
set_option maxRecDepth 20000 in
theorem ggX4_part_X4_isPin : GoodIn wsX4_part wsX4_isPin := goodIn_r _ [16, 10, 11, 12, 13] (by decide +kernel) (by decide +kernel)
set_option maxRecDepth 20000 in
theorem gX4_part_X4_isPin : GoodIn wsX4_part (va_wsS RX4 70 yX4_isPin wsX4_isPin) := goodIn_app (goodIn_of _ (by decide +kernel)) ggX4_part_X4_isPin
theorem dX4_part_0 : decode cX4_part 0 = .ok (.iload_n 1, 1) := by decide +kernel
theorem dX4_part_1 : decode cX4_part 1 = .ok (.iconst 0, 1) := by decide +kernel
theorem dX4_part_2 : decode cX4_part 2 = .ok (.iconst 3, 1) := by decide +kernel
theorem dX4_part_3 : decode cX4_part 3 = .ok (.invokestatic 66, 3) := by decide +kernel
theorem dX4_part_6 : decode cX4_part 6 = .ok (.ifCond .eq 17, 3) := by decide +kernel
theorem dX4_part_9 : decode cX4_part 9 = .ok (.iload_n 2, 1) := by decide +kernel
theorem dX4_part_10 : decode cX4_part 10 = .ok (.invokestatic 70, 3) := by decide +kernel
theorem dX4_part_13 : decode cX4_part 13 = .ok (.ifCond .eq 10, 3) := by decide +kernel
theorem dX4_part_16 : decode cX4_part 16 = .ok (.iload_n 3, 1) := by decide +kernel
theorem dX4_part_17 : decode cX4_part 17 = .ok (.invokestatic 70, 3) := by decide +kernel
theorem dX4_part_20 : decode cX4_part 20 = .ok (.ifCond .ne 5, 3) := by decide +kernel
theorem dX4_part_23 : decode cX4_part 23 = .ok (.iconst (-1), 1) := by decide +kernel
theorem dX4_part_24 : decode cX4_part 24 = .ok (.ireturn, 1) := by decide +kernel
theorem dX4_part_25 : decode cX4_part 25 = .ok (.iload 4, 2) := by decide +kernel
theorem dX4_part_27 : decode cX4_part 27 = .ok (.iconst 0, 1) := by decide +kernel
theorem dX4_part_28 : decode cX4_part 28 = .ok (.iconst 3, 1) := by decide +kernel
theorem dX4_part_29 : decode cX4_part 29 = .ok (.invokestatic 66, 3) := by decide +kernel
theorem dX4_part_32 : decode cX4_part 32 = .ok (.ifCond .ne 6, 3) := by decide +kernel
theorem dX4_part_35 : decode cX4_part 35 = .ok (.bipush (-2), 2) := by decide +kernel
theorem dX4_part_37 : decode cX4_part 37 = .ok (.ireturn, 1) := by decide +kernel
theorem dX4_part_38 : decode cX4_part 38 = .ok (.iload_n 2, 1) := by decide +kernel
theorem dX4_part_39 : decode cX4_part 39 = .ok (.iload_n 3, 1) := by decide +kernel
theorem dX4_part_40 : decode cX4_part 40 = .ok (.if_icmp .eq 10, 3) := by decide +kernel
theorem dX4_part_43 : decode cX4_part 43 = .ok (.aload_n 0, 1) := by decide +kernel
theorem dX4_part_44 : decode cX4_part 44 = .ok (.getfield 74, 3) := by decide +kernel
theorem dX4_part_47 : decode cX4_part 47 = .ok (.ifCond .eq 6, 3) := by decide +kernel
theorem dX4_part_50 : decode cX4_part 50 = .ok (.bipush (-3), 2) := by decide +kernel
theorem dX4_part_52 : decode cX4_part 52 = .ok (.ireturn, 1) := by decide +kernel
theorem dX4_part_53 : decode cX4_part 53 = .ok (.aload_n 0, 1) := by decide +kernel
theorem dX4_part_54 : decode cX4_part 54 = .ok (.getfield 7, 3) := by decide +kernel
theorem dX4_part_57 : decode cX4_part 57 = .ok (.iload_n 1, 1) := by decide +kernel
theorem dX4_part_58 : decode cX4_part 58 = .ok (.baload, 1) := by decide +kernel
theorem dX4_part_59 : decode cX4_part 59 = .ok (.ifCond .eq 7, 3) := by decide +kernel
theorem dX4_part_62 : decode cX4_part 62 = .ok (.iconst 1, 1) := by decide +kernel
theorem dX4_part_63 : decode cX4_part 63 = .ok (.goto 4, 3) := by decide +kernel
theorem dX4_part_66 : decode cX4_part 66 = .ok (.iconst 0, 1) := by decide +kernel
theorem dX4_part_67 : decode cX4_part 67 = .ok (.istore 5, 2) := by decide +kernel
theorem dX4_part_69 : decode cX4_part 69 = .ok (.aload_n 0, 1) := by decide +kernel
theorem dX4_part_70 : decode cX4_part 70 = .ok (.getfield 7, 3) := by decide +kernel
theorem dX4_part_73 : decode cX4_part 73 = .ok (.iload_n 1, 1) := by decide +kernel
theorem dX4_part_74 : decode cX4_part 74 = .ok (.iconst 1, 1) := by decide +kernel
theorem dX4_part_75 : decode cX4_part 75 = .ok (.bastore, 1) := by decide +kernel
theorem dX4_part_76 : decode cX4_part 76 = .ok (.aload_n 0, 1) := by decide +kernel
theorem dX4_part_77 : decode cX4_part 77 = .ok (.getfield 13, 3) := by decide +kernel
theorem dX4_part_80 : decode cX4_part 80 = .ok (.iload_n 1, 1) := by decide +kernel
theorem dX4_part_81 : decode cX4_part 81 = .ok (.iload_n 2, 1) := by decide +kernel
theorem dX4_part_82 : decode cX4_part 82 = .ok (.iastore, 1) := by decide +kernel
theorem dX4_part_83 : decode cX4_part 83 = .ok (.aload_n 0, 1) := by decide +kernel
theorem dX4_part_84 : decode cX4_part 84 = .ok (.getfield 17, 3) := by decide +kernel
theorem dX4_part_87 : decode cX4_part 87 = .ok (.iload_n 1, 1) := by decide +kernel
theorem dX4_part_88 : decode cX4_part 88 = .ok (.iload_n 3, 1) := by decide +kernel
theorem dX4_part_89 : decode cX4_part 89 = .ok (.iastore, 1) := by decide +kernel
theorem dX4_part_90 : decode cX4_part 90 = .ok (.aload_n 0, 1) := by decide +kernel
theorem dX4_part_91 : decode cX4_part 91 = .ok (.getfield 20, 3) := by decide +kernel
theorem dX4_part_94 : decode cX4_part 94 = .ok (.iload_n 1, 1) := by decide +kernel
theorem dX4_part_95 : decode cX4_part 95 = .ok (.iload 4, 2) := by decide +kernel
theorem dX4_part_97 : decode cX4_part 97 = .ok (.iastore, 1) := by decide +kernel
theorem dX4_part_98 : decode cX4_part 98 = .ok (.aload_n 0, 1) := by decide +kernel
theorem dX4_part_99 : decode cX4_part 99 = .ok (.getfield 23, 3) := by decide +kernel
theorem dX4_part_102 : decode cX4_part 102 = .ok (.iconst 5, 1) := by decide +kernel
theorem dX4_part_103 : decode cX4_part 103 = .ok (.iload_n 1, 1) := by decide +kernel
theorem dX4_part_104 : decode cX4_part 104 = .ok (.imul, 1) := by decide +kernel
theorem dX4_part_105 : decode cX4_part 105 = .ok (.iconst 0, 1) := by decide +kernel
theorem dX4_part_106 : decode cX4_part 106 = .ok (.iadd, 1) := by decide +kernel
theorem dX4_part_107 : decode cX4_part 107 = .ok (.sipush 1000, 3) := by decide +kernel
theorem dX4_part_110 : decode cX4_part 110 = .ok (.iastore, 1) := by decide +kernel
theorem dX4_part_111 : decode cX4_part 111 = .ok (.aload_n 0, 1) := by decide +kernel
theorem dX4_part_112 : decode cX4_part 112 = .ok (.getfield 23, 3) := by decide +kernel
theorem dX4_part_115 : decode cX4_part 115 = .ok (.iconst 5, 1) := by decide +kernel
theorem dX4_part_116 : decode cX4_part 116 = .ok (.iload_n 1, 1) := by decide +kernel
theorem dX4_part_117 : decode cX4_part 117 = .ok (.imul, 1) := by decide +kernel
theorem dX4_part_118 : decode cX4_part 118 = .ok (.iconst 1, 1) := by decide +kernel
theorem dX4_part_119 : decode cX4_part 119 = .ok (.iadd, 1) := by decide +kernel
theorem dX4_part_120 : decode cX4_part 120 = .ok (.sipush 600, 3) := by decide +kernel
theorem dX4_part_123 : decode cX4_part 123 = .ok (.iastore, 1) := by decide +kernel
theorem dX4_part_124 : decode cX4_part 124 = .ok (.aload_n 0, 1) := by decide +kernel
theorem dX4_part_125 : decode cX4_part 125 = .ok (.getfield 23, 3) := by decide +kernel
theorem dX4_part_128 : decode cX4_part 128 = .ok (.iconst 5, 1) := by decide +kernel
theorem dX4_part_129 : decode cX4_part 129 = .ok (.iload_n 1, 1) := by decide +kernel
theorem dX4_part_130 : decode cX4_part 130 = .ok (.imul, 1) := by decide +kernel
theorem dX4_part_131 : decode cX4_part 131 = .ok (.iconst 2, 1) := by decide +kernel
theorem dX4_part_132 : decode cX4_part 132 = .ok (.iadd, 1) := by decide +kernel
theorem dX4_part_133 : decode cX4_part 133 = .ok (.iconst 0, 1) := by decide +kernel
theorem dX4_part_134 : decode cX4_part 134 = .ok (.iastore, 1) := by decide +kernel
theorem dX4_part_135 : decode cX4_part 135 = .ok (.aload_n 0, 1) := by decide +kernel
theorem dX4_part_136 : decode cX4_part 136 = .ok (.getfield 23, 3) := by decide +kernel
theorem dX4_part_139 : decode cX4_part 139 = .ok (.iconst 5, 1) := by decide +kernel
theorem dX4_part_140 : decode cX4_part 140 = .ok (.iload_n 1, 1) := by decide +kernel
theorem dX4_part_141 : decode cX4_part 141 = .ok (.imul, 1) := by decide +kernel
theorem dX4_part_142 : decode cX4_part 142 = .ok (.iconst 3, 1) := by decide +kernel
theorem dX4_part_143 : decode cX4_part 143 = .ok (.iadd, 1) := by decide +kernel
theorem dX4_part_144 : decode cX4_part 144 = .ok (.iconst 0, 1) := by decide +kernel
theorem dX4_part_145 : decode cX4_part 145 = .ok (.iastore, 1) := by decide +kernel
theorem dX4_part_146 : decode cX4_part 146 = .ok (.aload_n 0, 1) := by decide +kernel
theorem dX4_part_147 : decode cX4_part 147 = .ok (.getfield 23, 3) := by decide +kernel
theorem dX4_part_150 : decode cX4_part 150 = .ok (.iconst 5, 1) := by decide +kernel
theorem dX4_part_151 : decode cX4_part 151 = .ok (.iload_n 1, 1) := by decide +kernel
theorem dX4_part_152 : decode cX4_part 152 = .ok (.imul, 1) := by decide +kernel
theorem dX4_part_153 : decode cX4_part 153 = .ok (.iconst 4, 1) := by decide +kernel
theorem dX4_part_154 : decode cX4_part 154 = .ok (.iadd, 1) := by decide +kernel
theorem dX4_part_155 : decode cX4_part 155 = .ok (.iconst 0, 1) := by decide +kernel
theorem dX4_part_156 : decode cX4_part 156 = .ok (.iastore, 1) := by decide +kernel
theorem dX4_part_157 : decode cX4_part 157 = .ok (.aload_n 0, 1) := by decide +kernel
theorem dX4_part_158 : decode cX4_part 158 = .ok (.getfield 32, 3) := by decide +kernel
theorem dX4_part_161 : decode cX4_part 161 = .ok (.iload_n 1, 1) := by decide +kernel
theorem dX4_part_162 : decode cX4_part 162 = .ok (.iconst 0, 1) := by decide +kernel
theorem dX4_part_163 : decode cX4_part 163 = .ok (.iastore, 1) := by decide +kernel
theorem dX4_part_164 : decode cX4_part 164 = .ok (.aload_n 0, 1) := by decide +kernel
theorem dX4_part_165 : decode cX4_part 165 = .ok (.getfield 35, 3) := by decide +kernel
theorem dX4_part_168 : decode cX4_part 168 = .ok (.iload_n 1, 1) := by decide +kernel
theorem dX4_part_169 : decode cX4_part 169 = .ok (.iconst 0, 1) := by decide +kernel
theorem dX4_part_170 : decode cX4_part 170 = .ok (.bastore, 1) := by decide +kernel
theorem dX4_part_171 : decode cX4_part 171 = .ok (.aload_n 0, 1) := by decide +kernel
theorem dX4_part_172 : decode cX4_part 172 = .ok (.getfield 38, 3) := by decide +kernel
theorem dX4_part_175 : decode cX4_part 175 = .ok (.iload_n 1, 1) := by decide +kernel
theorem dX4_part_176 : decode cX4_part 176 = .ok (.iconst 0, 1) := by decide +kernel
theorem dX4_part_177 : decode cX4_part 177 = .ok (.bastore, 1) := by decide +kernel
theorem dX4_part_178 : decode cX4_part 178 = .ok (.iload 5, 2) := by decide +kernel
theorem dX4_part_180 : decode cX4_part 180 = .ok (.ireturn, 1) := by decide +kernel
set_option maxRecDepth 20000 in
theorem ggX4_remove_X4_isPart : GoodIn wsX4_remove wsX4_isPart := goodIn_r _ [7, 2, 8, 9, 6, 10, 11, 12, 13, 14, 15, 16, 17, 18, 19, 20, 21, 22, 23, 24, 25, 26, 27, 28, 29, 30, 31, 32, 33, 34, 35] (by decide +kernel) (by decide +kernel)
set_option maxRecDepth 20000 in
theorem gX4_remove_X4_isPart : GoodIn wsX4_remove (wsV RX4 78 RX4 yX4_isPart wsX4_isPart) := goodIn_app (goodIn_of _ (by decide +kernel)) ggX4_remove_X4_isPart
theorem dX4_remove_0 : decode cX4_remove 0 = .ok (.aload_n 0, 1) := by decide +kernel
theorem dX4_remove_1 : decode cX4_remove 1 = .ok (.iload_n 1, 1) := by decide +kernel
theorem dX4_remove_2 : decode cX4_remove 2 = .ok (.invokevirtual 78, 3) := by decide +kernel
theorem dX4_remove_5 : decode cX4_remove 5 = .ok (.ifCond .ne 5, 3) := by decide +kernel
theorem dX4_remove_8 : decode cX4_remove 8 = .ok (.iconst (-1), 1) := by decide +kernel
theorem dX4_remove_9 : decode cX4_remove 9 = .ok (.ireturn, 1) := by decide +kernel
theorem dX4_remove_10 : decode cX4_remove 10 = .ok (.aload_n 0, 1) := by decide +kernel
theorem dX4_remove_11 : decode cX4_remove 11 = .ok (.getfield 74, 3) := by decide +kernel
theorem dX4_remove_14 : decode cX4_remove 14 = .ok (.ifCond .eq 6, 3) := by decide +kernel
theorem dX4_remove_17 : decode cX4_remove 17 = .ok (.bipush (-3), 2) := by decide +kernel
theorem dX4_remove_19 : decode cX4_remove 19 = .ok (.ireturn, 1) := by decide +kernel
theorem dX4_remove_20 : decode cX4_remove 20 = .ok (.aload_n 0, 1) := by decide +kernel
theorem dX4_remove_21 : decode cX4_remove 21 = .ok (.getfield 7, 3) := by decide +kernel
theorem dX4_remove_24 : decode cX4_remove 24 = .ok (.iload_n 1, 1) := by decide +kernel
theorem dX4_remove_25 : decode cX4_remove 25 = .ok (.iconst 0, 1) := by decide +kernel
theorem dX4_remove_26 : decode cX4_remove 26 = .ok (.bastore, 1) := by decide +kernel
theorem dX4_remove_27 : decode cX4_remove 27 = .ok (.iconst 1, 1) := by decide +kernel
theorem dX4_remove_28 : decode cX4_remove 28 = .ok (.ireturn, 1) := by decide +kernel
set_option maxRecDepth 20000 in
theorem ggX4_set_X4_isPart : GoodIn wsX4_set wsX4_isPart := goodIn_r _ [8, 9, 10, 11, 7, 12, 17, 18, 19, 20, 21, 22, 23, 24, 25, 26, 27, 28, 29, 30, 31, 32, 33, 34, 35, 36, 37, 38, 39, 40, 41] (by decide +kernel) (by decide +kernel)
set_option maxRecDepth 20000 in
theorem gX4_set_X4_isPart : GoodIn wsX4_set (wsV RX4 78 RX4 yX4_isPart wsX4_isPart) := goodIn_app (goodIn_of _ (by decide +kernel)) ggX4_set_X4_isPart
set_option maxRecDepth 20000 in
theorem ggX4_set_X4_within : GoodIn wsX4_set wsX4_within := goodIn_r _ [12] (by decide +kernel) (by decide +kernel)
set_option maxRecDepth 20000 in
theorem gX4_set_X4_within : GoodIn wsX4_set (va_wsS RX4 66 yX4_within wsX4_within) := goodIn_app (goodIn_of _ (by decide +kernel)) ggX4_set_X4_within
set_option maxRecDepth 20000 in
theorem ggX4_set_X4_number : GoodIn wsX4_set wsX4_number := goodIn_r _ [16, 3, 17, 18, 19, 20, 21, 22, 23, 24, 25, 26, 27, 28, 29, 30, 31, 32, 33, 34, 35, 36, 37, 38, 39, 40, 41] (by decide +kernel) (by decide +kernel)
set_option maxRecDepth 20000 in
theorem gX4_set_X4_number : GoodIn wsX4_set (wsV RX4 81 RX4 yX4_number wsX4_number) := goodIn_app (goodIn_of _ (by decide +kernel)) ggX4_set_X4_number
theorem dX4_set_0 : decode cX4_set 0 = .ok (.aload_n 0, 1) := by decide +kernel
theorem dX4_set_1 : decode cX4_set 1 = .ok (.iload_n 1, 1) := by decide +kernel
theorem dX4_set_2 : decode cX4_set 2 = .ok (.invokevirtual 78, 3) := by decide +kernel
theorem dX4_set_5 : decode cX4_set 5 = .ok (.ifCond .ne 5, 3) := by decide +kernel
theorem dX4_set_8 : decode cX4_set 8 = .ok (.iconst (-1), 1) := by decide +kernel
theorem dX4_set_9 : decode cX4_set 9 = .ok (.ireturn, 1) := by decide +kernel
theorem dX4_set_10 : decode cX4_set 10 = .ok (.iload_n 2, 1) := by decide +kernel
theorem dX4_set_11 : decode cX4_set 11 = .ok (.iconst 0, 1) := by decide +kernel
theorem dX4_set_12 : decode cX4_set 12 = .ok (.iconst 4, 1) := by decide +kernel
theorem dX4_set_13 : decode cX4_set 13 = .ok (.invokestatic 66, 3) := by decide +kernel
theorem dX4_set_16 : decode cX4_set 16 = .ok (.ifCond .eq 22, 3) := by decide +kernel
theorem dX4_set_19 : decode cX4_set 19 = .ok (.iload_n 3, 1) := by decide +kernel
theorem dX4_set_20 : decode cX4_set 20 = .ok (.aload_n 0, 1) := by decide +kernel
theorem dX4_set_21 : decode cX4_set 21 = .ok (.getfield 26, 3) := by decide +kernel
theorem dX4_set_24 : decode cX4_set 24 = .ok (.iload_n 2, 1) := by decide +kernel
theorem dX4_set_25 : decode cX4_set 25 = .ok (.iaload, 1) := by decide +kernel
theorem dX4_set_26 : decode cX4_set 26 = .ok (.aload_n 0, 1) := by decide +kernel
theorem dX4_set_27 : decode cX4_set 27 = .ok (.getfield 29, 3) := by decide +kernel
theorem dX4_set_30 : decode cX4_set 30 = .ok (.iload_n 2, 1) := by decide +kernel
theorem dX4_set_31 : decode cX4_set 31 = .ok (.iaload, 1) := by decide +kernel
theorem dX4_set_32 : decode cX4_set 32 = .ok (.invokestatic 66, 3) := by decide +kernel
theorem dX4_set_35 : decode cX4_set 35 = .ok (.ifCond .ne 6, 3) := by decide +kernel
theorem dX4_set_38 : decode cX4_set 38 = .ok (.bipush (-2), 2) := by decide +kernel
theorem dX4_set_40 : decode cX4_set 40 = .ok (.ireturn, 1) := by decide +kernel
theorem dX4_set_41 : decode cX4_set 41 = .ok (.aload_n 0, 1) := by decide +kernel
theorem dX4_set_42 : decode cX4_set 42 = .ok (.iload_n 1, 1) := by decide +kernel
theorem dX4_set_43 : decode cX4_set 43 = .ok (.iload_n 2, 1) := by decide +kernel
theorem dX4_set_44 : decode cX4_set 44 = .ok (.invokevirtual 81, 3) := by decide +kernel
theorem dX4_set_47 : decode cX4_set 47 = .ok (.istore 4, 2) := by decide +kernel
theorem dX4_set_49 : decode cX4_set 49 = .ok (.aload_n 0, 1) := by decide +kernel
theorem dX4_set_50 : decode cX4_set 50 = .ok (.getfield 23, 3) := by decide +kernel
theorem dX4_set_53 : decode cX4_set 53 = .ok (.iconst 5, 1) := by decide +kernel
theorem dX4_set_54 : decode cX4_set 54 = .ok (.iload_n 1, 1) := by decide +kernel
theorem dX4_set_55 : decode cX4_set 55 = .ok (.imul, 1) := by decide +kernel
theorem dX4_set_56 : decode cX4_set 56 = .ok (.iload_n 2, 1) := by decide +kernel
theorem dX4_set_57 : decode cX4_set 57 = .ok (.iadd, 1) := by decide +kernel
theorem dX4_set_58 : decode cX4_set 58 = .ok (.iload_n 3, 1) := by decide +kernel
theorem dX4_set_59 : decode cX4_set 59 = .ok (.iastore, 1) := by decide +kernel
theorem dX4_set_60 : decode cX4_set 60 = .ok (.iload 4, 2) := by decide +kernel
theorem dX4_set_62 : decode cX4_set 62 = .ok (.ireturn, 1) := by decide +kernel
set_option maxRecDepth 20000 in
theorem ggX4_ofPart_X4_isPart : GoodIn wsX4_ofPart wsX4_isPart := goodIn_r _ [11, 12, 13, 14, 10, 15, 21, 22, 23, 24, 25, 26, 27, 28, 29, 30, 31, 32, 33, 34, 35, 36, 37, 38, 39, 40, 41, 42, 43, 44, 45] (by decide +kernel) (by decide +kernel)
set_option maxRecDepth 20000 in
theorem gX4_ofPart_X4_isPart : GoodIn wsX4_ofPart (wsV RX4 78 RX4 yX4_isPart wsX4_isPart) := goodIn_app (goodIn_of _ (by decide +kernel)) ggX4_ofPart_X4_isPart
set_option maxRecDepth 20000 in
theorem ggX4_ofPart_X4_within : GoodIn wsX4_ofPart wsX4_within := goodIn_r _ [15] (by decide +kernel) (by decide +kernel)
set_option maxRecDepth 20000 in
theorem gX4_ofPart_X4_within : GoodIn wsX4_ofPart (va_wsS RX4 66 yX4_within wsX4_within) := goodIn_app (goodIn_of _ (by decide +kernel)) ggX4_ofPart_X4_within
set_option maxRecDepth 20000 in
theorem ggX4_ofPart_X4_number : GoodIn wsX4_ofPart wsX4_number := goodIn_r _ [19, 20, 21, 22, 23, 24, 25, 26, 27, 28, 29, 30, 31, 32, 33, 34, 35, 36, 37, 38, 39, 40, 41, 42, 43, 44, 45] (by decide +kernel) (by decide +kernel)
set_option maxRecDepth 20000 in
theorem gX4_ofPart_X4_number : GoodIn wsX4_ofPart (wsV RX4 81 RX4 yX4_number wsX4_number) := goodIn_app (goodIn_of _ (by decide +kernel)) ggX4_ofPart_X4_number
theorem dX4_ofPart_0 : decode cX4_ofPart 0 = .ok (.aload_n 0, 1) := by decide +kernel
theorem dX4_ofPart_1 : decode cX4_ofPart 1 = .ok (.iload_n 1, 1) := by decide +kernel
theorem dX4_ofPart_2 : decode cX4_ofPart 2 = .ok (.invokevirtual 78, 3) := by decide +kernel
theorem dX4_ofPart_5 : decode cX4_ofPart 5 = .ok (.ifCond .ne 5, 3) := by decide +kernel
theorem dX4_ofPart_8 : decode cX4_ofPart 8 = .ok (.iconst (-1), 1) := by decide +kernel
theorem dX4_ofPart_9 : decode cX4_ofPart 9 = .ok (.ireturn, 1) := by decide +kernel
theorem dX4_ofPart_10 : decode cX4_ofPart 10 = .ok (.iload_n 2, 1) := by decide +kernel
theorem dX4_ofPart_11 : decode cX4_ofPart 11 = .ok (.bipush 10, 2) := by decide +kernel
theorem dX4_ofPart_13 : decode cX4_ofPart 13 = .ok (.bipush 14, 2) := by decide +kernel
theorem dX4_ofPart_15 : decode cX4_ofPart 15 = .ok (.invokestatic 66, 3) := by decide +kernel
theorem dX4_ofPart_18 : decode cX4_ofPart 18 = .ok (.ifCond .eq 13, 3) := by decide +kernel
theorem dX4_ofPart_21 : decode cX4_ofPart 21 = .ok (.aload_n 0, 1) := by decide +kernel
theorem dX4_ofPart_22 : decode cX4_ofPart 22 = .ok (.iload_n 1, 1) := by decide +kernel
theorem dX4_ofPart_23 : decode cX4_ofPart 23 = .ok (.iload_n 2, 1) := by decide +kernel
theorem dX4_ofPart_24 : decode cX4_ofPart 24 = .ok (.bipush 10, 2) := by decide +kernel
theorem dX4_ofPart_26 : decode cX4_ofPart 26 = .ok (.isub, 1) := by decide +kernel
theorem dX4_ofPart_27 : decode cX4_ofPart 27 = .ok (.invokevirtual 81, 3) := by decide +kernel
theorem dX4_ofPart_30 : decode cX4_ofPart 30 = .ok (.ireturn, 1) := by decide +kernel
theorem dX4_ofPart_31 : decode cX4_ofPart 31 = .ok (.iload_n 2, 1) := by decide +kernel
theorem dX4_ofPart_32 : decode cX4_ofPart 32 = .ok (.tableswitch 98 0 5 #[40, 47, 54, 61, 68, 83], 40) := by decide +kernel
theorem dX4_ofPart_72 : decode cX4_ofPart 72 = .ok (.aload_n 0, 1) := by decide +kernel
theorem dX4_ofPart_73 : decode cX4_ofPart 73 = .ok (.getfield 13, 3) := by decide +kernel
theorem dX4_ofPart_76 : decode cX4_ofPart 76 = .ok (.iload_n 1, 1) := by decide +kernel
theorem dX4_ofPart_77 : decode cX4_ofPart 77 = .ok (.iaload, 1) := by decide +kernel
theorem dX4_ofPart_78 : decode cX4_ofPart 78 = .ok (.ireturn, 1) := by decide +kernel
theorem dX4_ofPart_79 : decode cX4_ofPart 79 = .ok (.aload_n 0, 1) := by decide +kernel
theorem dX4_ofPart_80 : decode cX4_ofPart 80 = .ok (.getfield 17, 3) := by decide +kernel
theorem dX4_ofPart_83 : decode cX4_ofPart 83 = .ok (.iload_n 1, 1) := by decide +kernel
theorem dX4_ofPart_84 : decode cX4_ofPart 84 = .ok (.iaload, 1) := by decide +kernel
theorem dX4_ofPart_85 : decode cX4_ofPart 85 = .ok (.ireturn, 1) := by decide +kernel
theorem dX4_ofPart_86 : decode cX4_ofPart 86 = .ok (.aload_n 0, 1) := by decide +kernel
theorem dX4_ofPart_87 : decode cX4_ofPart 87 = .ok (.getfield 20, 3) := by decide +kernel
theorem dX4_ofPart_90 : decode cX4_ofPart 90 = .ok (.iload_n 1, 1) := by decide +kernel
theorem dX4_ofPart_91 : decode cX4_ofPart 91 = .ok (.iaload, 1) := by decide +kernel
theorem dX4_ofPart_92 : decode cX4_ofPart 92 = .ok (.ireturn, 1) := by decide +kernel
theorem dX4_ofPart_93 : decode cX4_ofPart 93 = .ok (.aload_n 0, 1) := by decide +kernel
theorem dX4_ofPart_94 : decode cX4_ofPart 94 = .ok (.getfield 32, 3) := by decide +kernel
theorem dX4_ofPart_97 : decode cX4_ofPart 97 = .ok (.iload_n 1, 1) := by decide +kernel
theorem dX4_ofPart_98 : decode cX4_ofPart 98 = .ok (.iaload, 1) := by decide +kernel
theorem dX4_ofPart_99 : decode cX4_ofPart 99 = .ok (.ireturn, 1) := by decide +kernel
theorem dX4_ofPart_100 : decode cX4_ofPart 100 = .ok (.aload_n 0, 1) := by decide +kernel
theorem dX4_ofPart_101 : decode cX4_ofPart 101 = .ok (.getfield 35, 3) := by decide +kernel
theorem dX4_ofPart_104 : decode cX4_ofPart 104 = .ok (.iload_n 1, 1) := by decide +kernel
theorem dX4_ofPart_105 : decode cX4_ofPart 105 = .ok (.baload, 1) := by decide +kernel
theorem dX4_ofPart_106 : decode cX4_ofPart 106 = .ok (.ifCond .eq 7, 3) := by decide +kernel
theorem dX4_ofPart_109 : decode cX4_ofPart 109 = .ok (.iconst 1, 1) := by decide +kernel
theorem dX4_ofPart_110 : decode cX4_ofPart 110 = .ok (.goto 4, 3) := by decide +kernel
theorem dX4_ofPart_113 : decode cX4_ofPart 113 = .ok (.iconst 0, 1) := by decide +kernel
theorem dX4_ofPart_114 : decode cX4_ofPart 114 = .ok (.ireturn, 1) := by decide +kernel
theorem dX4_ofPart_115 : decode cX4_ofPart 115 = .ok (.aload_n 0, 1) := by decide +kernel
theorem dX4_ofPart_116 : decode cX4_ofPart 116 = .ok (.getfield 38, 3) := by decide +kernel
theorem dX4_ofPart_119 : decode cX4_ofPart 119 = .ok (.iload_n 1, 1) := by decide +kernel
theorem dX4_ofPart_120 : decode cX4_ofPart 120 = .ok (.baload, 1) := by decide +kernel
theorem dX4_ofPart_121 : decode cX4_ofPart 121 = .ok (.ifCond .eq 7, 3) := by decide +kernel
theorem dX4_ofPart_124 : decode cX4_ofPart 124 = .ok (.iconst 1, 1) := by decide +kernel
theorem dX4_ofPart_125 : decode cX4_ofPart 125 = .ok (.goto 4, 3) := by decide +kernel
theorem dX4_ofPart_128 : decode cX4_ofPart 128 = .ok (.iconst 0, 1) := by decide +kernel
theorem dX4_ofPart_129 : decode cX4_ofPart 129 = .ok (.ireturn, 1) := by decide +kernel
theorem dX4_ofPart_130 : decode cX4_ofPart 130 = .ok (.bipush (-2), 2) := by decide +kernel
theorem dX4_ofPart_132 : decode cX4_ofPart 132 = .ok (.ireturn, 1) := by decide +kernel
set_option maxRecDepth 20000 in
theorem ggX4_isTerminal_X4_within : GoodIn wsX4_isTerminal wsX4_within := goodIn_r _ [4] (by decide +kernel) (by decide +kernel)
set_option maxRecDepth 20000 in
theorem gX4_isTerminal_X4_within : GoodIn wsX4_isTerminal (va_wsS RX4 66 yX4_within wsX4_within) := goodIn_app (goodIn_of _ (by decide +kernel)) ggX4_isTerminal_X4_within
theorem dX4_isTerminal_0 : decode cX4_isTerminal 0 = .ok (.iload_n 0, 1) := by decide +kernel
theorem dX4_isTerminal_1 : decode cX4_isTerminal 1 = .ok (.iconst 0, 1) := by decide +kernel
theorem dX4_isTerminal_2 : decode cX4_isTerminal 2 = .ok (.iconst 3, 1) := by decide +kernel
theorem dX4_isTerminal_3 : decode cX4_isTerminal 3 = .ok (.invokestatic 66, 3) := by decide +kernel
theorem dX4_isTerminal_6 : decode cX4_isTerminal 6 = .ok (.ireturn, 1) := by decide +kernel
set_option maxRecDepth 20000 in
theorem ggX4_relay_X4_isTerminal : GoodIn wsX4_relay wsX4_isTerminal := goodIn_r _ [6, 7, 8, 5, 9] (by decide +kernel) (by decide +kernel)
set_option maxRecDepth 20000 in
theorem gX4_relay_X4_isTerminal : GoodIn wsX4_relay (va_wsS RX4 85 yX4_isTerminal wsX4_isTerminal) := goodIn_app (goodIn_of _ (by decide +kernel)) ggX4_relay_X4_isTerminal
set_option maxRecDepth 20000 in
theorem ggX4_relay_X4_isPin : GoodIn wsX4_relay wsX4_isPin := goodIn_r _ [12, 7, 8, 5, 9] (by decide +kernel) (by decide +kernel)
set_option maxRecDepth 20000 in
theorem gX4_relay_X4_isPin : GoodIn wsX4_relay (va_wsS RX4 70 yX4_isPin wsX4_isPin) := goodIn_app (goodIn_of _ (by decide +kernel)) ggX4_relay_X4_isPin
set_option maxRecDepth 20000 in
theorem ggX4_relay_X4_within : GoodIn wsX4_relay wsX4_within := goodIn_r _ [9] (by decide +kernel) (by decide +kernel)
set_option maxRecDepth 20000 in
theorem gX4_relay_X4_within : GoodIn wsX4_relay (va_wsS RX4 66 yX4_within wsX4_within) := goodIn_app (goodIn_of _ (by decide +kernel)) ggX4_relay_X4_within
theorem dX4_relay_0 : decode cX4_relay 0 = .ok (.iload_n 1, 1) := by decide +kernel
theorem dX4_relay_1 : decode cX4_relay 1 = .ok (.invokestatic 85, 3) := by decide +kernel
theorem dX4_relay_4 : decode cX4_relay 4 = .ok (.ifCond .eq 10, 3) := by decide +kernel
theorem dX4_relay_7 : decode cX4_relay 7 = .ok (.iload_n 2, 1) := by decide +kernel
theorem dX4_relay_8 : decode cX4_relay 8 = .ok (.invokestatic 70, 3) := by decide +kernel
theorem dX4_relay_11 : decode cX4_relay 11 = .ok (.ifCond .ne 5, 3) := by decide +kernel
theorem dX4_relay_14 : decode cX4_relay 14 = .ok (.iconst (-1), 1) := by decide +kernel
theorem dX4_relay_15 : decode cX4_relay 15 = .ok (.ireturn, 1) := by decide +kernel
theorem dX4_relay_16 : decode cX4_relay 16 = .ok (.iload_n 3, 1) := by decide +kernel
theorem dX4_relay_17 : decode cX4_relay 17 = .ok (.iconst 0, 1) := by decide +kernel
theorem dX4_relay_18 : decode cX4_relay 18 = .ok (.iconst 1, 1) := by decide +kernel
theorem dX4_relay_19 : decode cX4_relay 19 = .ok (.invokestatic 66, 3) := by decide +kernel
theorem dX4_relay_22 : decode cX4_relay 22 = .ok (.ifCond .ne 6, 3) := by decide +kernel
theorem dX4_relay_25 : decode cX4_relay 25 = .ok (.bipush (-2), 2) := by decide +kernel
theorem dX4_relay_27 : decode cX4_relay 27 = .ok (.ireturn, 1) := by decide +kernel
theorem dX4_relay_28 : decode cX4_relay 28 = .ok (.iload_n 1, 1) := by decide +kernel
theorem dX4_relay_29 : decode cX4_relay 29 = .ok (.iconst 2, 1) := by decide +kernel
theorem dX4_relay_30 : decode cX4_relay 30 = .ok (.if_icmp .ge 28, 3) := by decide +kernel
theorem dX4_relay_33 : decode cX4_relay 33 = .ok (.iload_n 3, 1) := by decide +kernel
theorem dX4_relay_34 : decode cX4_relay 34 = .ok (.iconst 1, 1) := by decide +kernel
theorem dX4_relay_35 : decode cX4_relay 35 = .ok (.if_icmp .ne 23, 3) := by decide +kernel
theorem dX4_relay_38 : decode cX4_relay 38 = .ok (.aload_n 0, 1) := by decide +kernel
theorem dX4_relay_39 : decode cX4_relay 39 = .ok (.getfield 41, 3) := by decide +kernel
theorem dX4_relay_42 : decode cX4_relay 42 = .ok (.iconst 1, 1) := by decide +kernel
theorem dX4_relay_43 : decode cX4_relay 43 = .ok (.iload_n 1, 1) := by decide +kernel
theorem dX4_relay_44 : decode cX4_relay 44 = .ok (.isub, 1) := by decide +kernel
theorem dX4_relay_45 : decode cX4_relay 45 = .ok (.iaload, 1) := by decide +kernel
theorem dX4_relay_46 : decode cX4_relay 46 = .ok (.iload_n 2, 1) := by decide +kernel
theorem dX4_relay_47 : decode cX4_relay 47 = .ok (.ishr, 1) := by decide +kernel
theorem dX4_relay_48 : decode cX4_relay 48 = .ok (.iconst 1, 1) := by decide +kernel
theorem dX4_relay_49 : decode cX4_relay 49 = .ok (.iand, 1) := by decide +kernel
theorem dX4_relay_50 : decode cX4_relay 50 = .ok (.iconst 1, 1) := by decide +kernel
theorem dX4_relay_51 : decode cX4_relay 51 = .ok (.if_icmp .ne 7, 3) := by decide +kernel
theorem dX4_relay_54 : decode cX4_relay 54 = .ok (.iconst 1, 1) := by decide +kernel
theorem dX4_relay_55 : decode cX4_relay 55 = .ok (.goto 4, 3) := by decide +kernel
theorem dX4_relay_58 : decode cX4_relay 58 = .ok (.iconst 0, 1) := by decide +kernel
theorem dX4_relay_59 : decode cX4_relay 59 = .ok (.istore 4, 2) := by decide +kernel
theorem dX4_relay_61 : decode cX4_relay 61 = .ok (.aload_n 0, 1) := by decide +kernel
theorem dX4_relay_62 : decode cX4_relay 62 = .ok (.getfield 74, 3) := by decide +kernel
theorem dX4_relay_65 : decode cX4_relay 65 = .ok (.ifCond .ne 8, 3) := by decide +kernel
theorem dX4_relay_68 : decode cX4_relay 68 = .ok (.iload 4, 2) := by decide +kernel
theorem dX4_relay_70 : decode cX4_relay 70 = .ok (.ifCond .eq 6, 3) := by decide +kernel
theorem dX4_relay_73 : decode cX4_relay 73 = .ok (.bipush (-3), 2) := by decide +kernel
theorem dX4_relay_75 : decode cX4_relay 75 = .ok (.ireturn, 1) := by decide +kernel
theorem dX4_relay_76 : decode cX4_relay 76 = .ok (.aload_n 0, 1) := by decide +kernel
theorem dX4_relay_77 : decode cX4_relay 77 = .ok (.getfield 41, 3) := by decide +kernel
theorem dX4_relay_80 : decode cX4_relay 80 = .ok (.iload_n 1, 1) := by decide +kernel
theorem dX4_relay_81 : decode cX4_relay 81 = .ok (.iaload, 1) := by decide +kernel
theorem dX4_relay_82 : decode cX4_relay 82 = .ok (.iload_n 2, 1) := by decide +kernel
theorem dX4_relay_83 : decode cX4_relay 83 = .ok (.ishr, 1) := by decide +kernel
theorem dX4_relay_84 : decode cX4_relay 84 = .ok (.iconst 1, 1) := by decide +kernel
theorem dX4_relay_85 : decode cX4_relay 85 = .ok (.iand, 1) := by decide +kernel
theorem dX4_relay_86 : decode cX4_relay 86 = .ok (.istore 5, 2) := by decide +kernel
theorem dX4_relay_88 : decode cX4_relay 88 = .ok (.aload_n 0, 1) := by decide +kernel
theorem dX4_relay_89 : decode cX4_relay 89 = .ok (.getfield 41, 3) := by decide +kernel
theorem dX4_relay_92 : decode cX4_relay 92 = .ok (.iload_n 1, 1) := by decide +kernel
theorem dX4_relay_93 : decode cX4_relay 93 = .ok (.aload_n 0, 1) := by decide +kernel
theorem dX4_relay_94 : decode cX4_relay 94 = .ok (.getfield 41, 3) := by decide +kernel
theorem dX4_relay_97 : decode cX4_relay 97 = .ok (.iload_n 1, 1) := by decide +kernel
theorem dX4_relay_98 : decode cX4_relay 98 = .ok (.iaload, 1) := by decide +kernel
theorem dX4_relay_99 : decode cX4_relay 99 = .ok (.iconst 1, 1) := by decide +kernel
theorem dX4_relay_100 : decode cX4_relay 100 = .ok (.iload_n 2, 1) := by decide +kernel
theorem dX4_relay_101 : decode cX4_relay 101 = .ok (.ishl, 1) := by decide +kernel
theorem dX4_relay_102 : decode cX4_relay 102 = .ok (.iconst (-1), 1) := by decide +kernel
theorem dX4_relay_103 : decode cX4_relay 103 = .ok (.ixor, 1) := by decide +kernel
theorem dX4_relay_104 : decode cX4_relay 104 = .ok (.iand, 1) := by decide +kernel
theorem dX4_relay_105 : decode cX4_relay 105 = .ok (.iload_n 3, 1) := by decide +kernel
theorem dX4_relay_106 : decode cX4_relay 106 = .ok (.iload_n 2, 1) := by decide +kernel
theorem dX4_relay_107 : decode cX4_relay 107 = .ok (.ishl, 1) := by decide +kernel
theorem dX4_relay_108 : decode cX4_relay 108 = .ok (.ior, 1) := by decide +kernel
theorem dX4_relay_109 : decode cX4_relay 109 = .ok (.iastore, 1) := by decide +kernel
theorem dX4_relay_110 : decode cX4_relay 110 = .ok (.iload 5, 2) := by decide +kernel
theorem dX4_relay_112 : decode cX4_relay 112 = .ok (.ireturn, 1) := by decide +kernel
set_option maxRecDepth 20000 in
theorem ggX4_pins_X4_isTerminal : GoodIn wsX4_pins wsX4_isTerminal := goodIn_r _ [5, 6, 7, 4, 8] (by decide +kernel) (by decide +kernel)
set_option maxRecDepth 20000 in
theorem gX4_pins_X4_isTerminal : GoodIn wsX4_pins (va_wsS RX4 85 yX4_isTerminal wsX4_isTerminal) := goodIn_app (goodIn_of _ (by decide +kernel)) ggX4_pins_X4_isTerminal
theorem dX4_pins_0 : decode cX4_pins 0 = .ok (.iload_n 1, 1) := by decide +kernel
theorem dX4_pins_1 : decode cX4_pins 1 = .ok (.invokestatic 85, 3) := by decide +kernel
theorem dX4_pins_4 : decode cX4_pins 4 = .ok (.ifCond .eq 12, 3) := by decide +kernel
theorem dX4_pins_7 : decode cX4_pins 7 = .ok (.aload_n 0, 1) := by decide +kernel
theorem dX4_pins_8 : decode cX4_pins 8 = .ok (.getfield 41, 3) := by decide +kernel
theorem dX4_pins_11 : decode cX4_pins 11 = .ok (.iload_n 1, 1) := by decide +kernel
theorem dX4_pins_12 : decode cX4_pins 12 = .ok (.iaload, 1) := by decide +kernel
theorem dX4_pins_13 : decode cX4_pins 13 = .ok (.goto 4, 3) := by decide +kernel
theorem dX4_pins_16 : decode cX4_pins 16 = .ok (.iconst (-1), 1) := by decide +kernel
theorem dX4_pins_17 : decode cX4_pins 17 = .ok (.ireturn, 1) := by decide +kernel
theorem dX4_pinOf_0 : decode cX4_pinOf 0 = .ok (.bipush (-9), 2) := by decide +kernel
theorem dX4_pinOf_2 : decode cX4_pinOf 2 = .ok (.istore_n 2, 1) := by decide +kernel
theorem dX4_pinOf_3 : decode cX4_pinOf 3 = .ok (.iconst 0, 1) := by decide +kernel
theorem dX4_pinOf_4 : decode cX4_pinOf 4 = .ok (.istore_n 3, 1) := by decide +kernel
theorem dX4_pinOf_5 : decode cX4_pinOf 5 = .ok (.iconst 0, 1) := by decide +kernel
theorem dX4_pinOf_6 : decode cX4_pinOf 6 = .ok (.istore 4, 2) := by decide +kernel
theorem dX4_pinOf_8 : decode cX4_pinOf 8 = .ok (.iload 4, 2) := by decide +kernel
theorem dX4_pinOf_10 : decode cX4_pinOf 10 = .ok (.bipush 8, 2) := by decide +kernel
theorem dX4_pinOf_12 : decode cX4_pinOf 12 = .ok (.if_icmp .ge 30, 3) := by decide +kernel
theorem dX4_pinOf_15 : decode cX4_pinOf 15 = .ok (.aload_n 0, 1) := by decide +kernel
theorem dX4_pinOf_16 : decode cX4_pinOf 16 = .ok (.getfield 41, 3) := by decide +kernel
theorem dX4_pinOf_19 : decode cX4_pinOf 19 = .ok (.iload_n 1, 1) := by decide +kernel
theorem dX4_pinOf_20 : decode cX4_pinOf 20 = .ok (.iaload, 1) := by decide +kernel
theorem dX4_pinOf_21 : decode cX4_pinOf 21 = .ok (.iload 4, 2) := by decide +kernel
theorem dX4_pinOf_23 : decode cX4_pinOf 23 = .ok (.ishr, 1) := by decide +kernel
theorem dX4_pinOf_24 : decode cX4_pinOf 24 = .ok (.iconst 1, 1) := by decide +kernel
theorem dX4_pinOf_25 : decode cX4_pinOf 25 = .ok (.iand, 1) := by decide +kernel
theorem dX4_pinOf_26 : decode cX4_pinOf 26 = .ok (.iconst 1, 1) := by decide +kernel
theorem dX4_pinOf_27 : decode cX4_pinOf 27 = .ok (.if_icmp .ne 9, 3) := by decide +kernel
theorem dX4_pinOf_30 : decode cX4_pinOf 30 = .ok (.iload 4, 2) := by decide +kernel
theorem dX4_pinOf_32 : decode cX4_pinOf 32 = .ok (.istore_n 2, 1) := by decide +kernel
theorem dX4_pinOf_33 : decode cX4_pinOf 33 = .ok (.iinc 3 1, 3) := by decide +kernel
theorem dX4_pinOf_36 : decode cX4_pinOf 36 = .ok (.iinc 4 1, 3) := by decide +kernel
theorem dX4_pinOf_39 : decode cX4_pinOf 39 = .ok (.goto (-31), 3) := by decide +kernel
theorem dX4_pinOf_42 : decode cX4_pinOf 42 = .ok (.iload_n 3, 1) := by decide +kernel
theorem dX4_pinOf_43 : decode cX4_pinOf 43 = .ok (.iconst 1, 1) := by decide +kernel
theorem dX4_pinOf_44 : decode cX4_pinOf 44 = .ok (.if_icmp .ne 7, 3) := by decide +kernel
theorem dX4_pinOf_47 : decode cX4_pinOf 47 = .ok (.iload_n 2, 1) := by decide +kernel
theorem dX4_pinOf_48 : decode cX4_pinOf 48 = .ok (.goto 5, 3) := by decide +kernel
theorem dX4_pinOf_51 : decode cX4_pinOf 51 = .ok (.bipush (-9), 2) := by decide +kernel
theorem dX4_pinOf_53 : decode cX4_pinOf 53 = .ok (.ireturn, 1) := by decide +kernel
set_option maxRecDepth 20000 in
theorem ggX4_inHand_X4_pinOf : GoodIn wsX4_inHand wsX4_pinOf := goodIn_r _ [8, 9, 10, 11, 12, 13, 14, 15, 16, 17, 18, 19, 20, 21, 22, 23, 24, 25, 26, 27, 28, 29, 30, 31, 32, 33, 34] (by decide +kernel) (by decide +kernel)
set_option maxRecDepth 20000 in
theorem gX4_inHand_X4_pinOf : GoodIn wsX4_inHand (wsV RX4 88 RX4 yX4_pinOf wsX4_pinOf) := goodIn_app (goodIn_of _ (by decide +kernel)) ggX4_inHand_X4_pinOf
theorem dX4_inHand_0 : decode cX4_inHand 0 = .ok (.aload_n 0, 1) := by decide +kernel
theorem dX4_inHand_1 : decode cX4_inHand 1 = .ok (.iconst 0, 1) := by decide +kernel
theorem dX4_inHand_2 : decode cX4_inHand 2 = .ok (.invokevirtual 88, 3) := by decide +kernel
theorem dX4_inHand_5 : decode cX4_inHand 5 = .ok (.istore_n 1, 1) := by decide +kernel
theorem dX4_inHand_6 : decode cX4_inHand 6 = .ok (.aload_n 0, 1) := by decide +kernel
theorem dX4_inHand_7 : decode cX4_inHand 7 = .ok (.iconst 1, 1) := by decide +kernel
theorem dX4_inHand_8 : decode cX4_inHand 8 = .ok (.invokevirtual 88, 3) := by decide +kernel
theorem dX4_inHand_11 : decode cX4_inHand 11 = .ok (.istore_n 2, 1) := by decide +kernel
theorem dX4_inHand_12 : decode cX4_inHand 12 = .ok (.iload_n 1, 1) := by decide +kernel
theorem dX4_inHand_13 : decode cX4_inHand 13 = .ok (.bipush (-9), 2) := by decide +kernel
theorem dX4_inHand_15 : decode cX4_inHand 15 = .ok (.if_icmp .eq 9, 3) := by decide +kernel
theorem dX4_inHand_18 : decode cX4_inHand 18 = .ok (.iload_n 2, 1) := by decide +kernel
theorem dX4_inHand_19 : decode cX4_inHand 19 = .ok (.bipush (-9), 2) := by decide +kernel
theorem dX4_inHand_21 : decode cX4_inHand 21 = .ok (.if_icmp .ne 6, 3) := by decide +kernel
theorem dX4_inHand_24 : decode cX4_inHand 24 = .ok (.bipush (-9), 2) := by decide +kernel
theorem dX4_inHand_26 : decode cX4_inHand 26 = .ok (.ireturn, 1) := by decide +kernel
theorem dX4_inHand_27 : decode cX4_inHand 27 = .ok (.iconst 0, 1) := by decide +kernel
theorem dX4_inHand_28 : decode cX4_inHand 28 = .ok (.istore_n 3, 1) := by decide +kernel
theorem dX4_inHand_29 : decode cX4_inHand 29 = .ok (.iload_n 3, 1) := by decide +kernel
theorem dX4_inHand_30 : decode cX4_inHand 30 = .ok (.iconst 4, 1) := by decide +kernel
theorem dX4_inHand_31 : decode cX4_inHand 31 = .ok (.if_icmp .ge 72, 3) := by decide +kernel
theorem dX4_inHand_34 : decode cX4_inHand 34 = .ok (.aload_n 0, 1) := by decide +kernel
theorem dX4_inHand_35 : decode cX4_inHand 35 = .ok (.getfield 13, 3) := by decide +kernel
theorem dX4_inHand_38 : decode cX4_inHand 38 = .ok (.iload_n 3, 1) := by decide +kernel
theorem dX4_inHand_39 : decode cX4_inHand 39 = .ok (.iaload, 1) := by decide +kernel
theorem dX4_inHand_40 : decode cX4_inHand 40 = .ok (.iload_n 1, 1) := by decide +kernel
theorem dX4_inHand_41 : decode cX4_inHand 41 = .ok (.if_icmp .ne 13, 3) := by decide +kernel
theorem dX4_inHand_44 : decode cX4_inHand 44 = .ok (.aload_n 0, 1) := by decide +kernel
theorem dX4_inHand_45 : decode cX4_inHand 45 = .ok (.getfield 17, 3) := by decide +kernel
theorem dX4_inHand_48 : decode cX4_inHand 48 = .ok (.iload_n 3, 1) := by decide +kernel
theorem dX4_inHand_49 : decode cX4_inHand 49 = .ok (.iaload, 1) := by decide +kernel
theorem dX4_inHand_50 : decode cX4_inHand 50 = .ok (.iload_n 2, 1) := by decide +kernel
theorem dX4_inHand_51 : decode cX4_inHand 51 = .ok (.if_icmp .eq 23, 3) := by decide +kernel
theorem dX4_inHand_54 : decode cX4_inHand 54 = .ok (.aload_n 0, 1) := by decide +kernel
theorem dX4_inHand_55 : decode cX4_inHand 55 = .ok (.getfield 13, 3) := by decide +kernel
theorem dX4_inHand_58 : decode cX4_inHand 58 = .ok (.iload_n 3, 1) := by decide +kernel
theorem dX4_inHand_59 : decode cX4_inHand 59 = .ok (.iaload, 1) := by decide +kernel
theorem dX4_inHand_60 : decode cX4_inHand 60 = .ok (.iload_n 2, 1) := by decide +kernel
theorem dX4_inHand_61 : decode cX4_inHand 61 = .ok (.if_icmp .ne 17, 3) := by decide +kernel
theorem dX4_inHand_64 : decode cX4_inHand 64 = .ok (.aload_n 0, 1) := by decide +kernel
theorem dX4_inHand_65 : decode cX4_inHand 65 = .ok (.getfield 17, 3) := by decide +kernel
theorem dX4_inHand_68 : decode cX4_inHand 68 = .ok (.iload_n 3, 1) := by decide +kernel
theorem dX4_inHand_69 : decode cX4_inHand 69 = .ok (.iaload, 1) := by decide +kernel
theorem dX4_inHand_70 : decode cX4_inHand 70 = .ok (.iload_n 1, 1) := by decide +kernel
theorem dX4_inHand_71 : decode cX4_inHand 71 = .ok (.if_icmp .ne 7, 3) := by decide +kernel
theorem dX4_inHand_74 : decode cX4_inHand 74 = .ok (.iconst 1, 1) := by decide +kernel
theorem dX4_inHand_75 : decode cX4_inHand 75 = .ok (.goto 4, 3) := by decide +kernel
theorem dX4_inHand_78 : decode cX4_inHand 78 = .ok (.iconst 0, 1) := by decide +kernel
theorem dX4_inHand_79 : decode cX4_inHand 79 = .ok (.istore 4, 2) := by decide +kernel
theorem dX4_inHand_81 : decode cX4_inHand 81 = .ok (.aload_n 0, 1) := by decide +kernel
theorem dX4_inHand_82 : decode cX4_inHand 82 = .ok (.getfield 7, 3) := by decide +kernel
theorem dX4_inHand_85 : decode cX4_inHand 85 = .ok (.iload_n 3, 1) := by decide +kernel
theorem dX4_inHand_86 : decode cX4_inHand 86 = .ok (.baload, 1) := by decide +kernel
theorem dX4_inHand_87 : decode cX4_inHand 87 = .ok (.ifCond .eq 10, 3) := by decide +kernel
theorem dX4_inHand_90 : decode cX4_inHand 90 = .ok (.iload 4, 2) := by decide +kernel
theorem dX4_inHand_92 : decode cX4_inHand 92 = .ok (.ifCond .eq 5, 3) := by decide +kernel
theorem dX4_inHand_95 : decode cX4_inHand 95 = .ok (.iload_n 3, 1) := by decide +kernel
theorem dX4_inHand_96 : decode cX4_inHand 96 = .ok (.ireturn, 1) := by decide +kernel
theorem dX4_inHand_97 : decode cX4_inHand 97 = .ok (.iinc 3 1, 3) := by decide +kernel
theorem dX4_inHand_100 : decode cX4_inHand 100 = .ok (.goto (-71), 3) := by decide +kernel
theorem dX4_inHand_103 : decode cX4_inHand 103 = .ok (.bipush (-9), 2) := by decide +kernel
theorem dX4_inHand_105 : decode cX4_inHand 105 = .ok (.ireturn, 1) := by decide +kernel
set_option maxRecDepth 20000 in
theorem ggX4_isFourWires_X4_pinOf : GoodIn wsX4_isFourWires wsX4_pinOf := goodIn_r _ [5, 6, 7, 8, 9, 10, 11, 12, 13, 14, 15, 16, 17, 18, 19, 20, 21, 22, 23, 24, 25, 26, 27, 28, 29, 30, 31] (by decide +kernel) (by decide +kernel)
set_option maxRecDepth 20000 in
theorem gX4_isFourWires_X4_pinOf : GoodIn wsX4_isFourWires (wsV RX4 88 RX4 yX4_pinOf wsX4_pinOf) := goodIn_app (goodIn_of _ (by decide +kernel)) ggX4_isFourWires_X4_pinOf
theorem dX4_isFourWires_0 : decode cX4_isFourWires 0 = .ok (.aload_n 0, 1) := by decide +kernel
theorem dX4_isFourWires_1 : decode cX4_isFourWires 1 = .ok (.iconst 0, 1) := by decide +kernel
theorem dX4_isFourWires_2 : decode cX4_isFourWires 2 = .ok (.invokevirtual 88, 3) := by decide +kernel
theorem dX4_isFourWires_5 : decode cX4_isFourWires 5 = .ok (.bipush (-9), 2) := by decide +kernel
theorem dX4_isFourWires_7 : decode cX4_isFourWires 7 = .ok (.if_icmp .eq 43, 3) := by decide +kernel
theorem dX4_isFourWires_10 : decode cX4_isFourWires 10 = .ok (.aload_n 0, 1) := by decide +kernel
theorem dX4_isFourWires_11 : decode cX4_isFourWires 11 = .ok (.iconst 2, 1) := by decide +kernel
theorem dX4_isFourWires_12 : decode cX4_isFourWires 12 = .ok (.invokevirtual 88, 3) := by decide +kernel
theorem dX4_isFourWires_15 : decode cX4_isFourWires 15 = .ok (.aload_n 0, 1) := by decide +kernel
theorem dX4_isFourWires_16 : decode cX4_isFourWires 16 = .ok (.iconst 0, 1) := by decide +kernel
theorem dX4_isFourWires_17 : decode cX4_isFourWires 17 = .ok (.invokevirtual 88, 3) := by decide +kernel
theorem dX4_isFourWires_20 : decode cX4_isFourWires 20 = .ok (.if_icmp .ne 30, 3) := by decide +kernel
theorem dX4_isFourWires_23 : decode cX4_isFourWires 23 = .ok (.aload_n 0, 1) := by decide +kernel
theorem dX4_isFourWires_24 : decode cX4_isFourWires 24 = .ok (.iconst 1, 1) := by decide +kernel
theorem dX4_isFourWires_25 : decode cX4_isFourWires 25 = .ok (.invokevirtual 88, 3) := by decide +kernel
theorem dX4_isFourWires_28 : decode cX4_isFourWires 28 = .ok (.bipush (-9), 2) := by decide +kernel
theorem dX4_isFourWires_30 : decode cX4_isFourWires 30 = .ok (.if_icmp .eq 20, 3) := by decide +kernel
theorem dX4_isFourWires_33 : decode cX4_isFourWires 33 = .ok (.aload_n 0, 1) := by decide +kernel
theorem dX4_isFourWires_34 : decode cX4_isFourWires 34 = .ok (.iconst 3, 1) := by decide +kernel
theorem dX4_isFourWires_35 : decode cX4_isFourWires 35 = .ok (.invokevirtual 88, 3) := by decide +kernel
theorem dX4_isFourWires_38 : decode cX4_isFourWires 38 = .ok (.aload_n 0, 1) := by decide +kernel
theorem dX4_isFourWires_39 : decode cX4_isFourWires 39 = .ok (.iconst 1, 1) := by decide +kernel
theorem dX4_isFourWires_40 : decode cX4_isFourWires 40 = .ok (.invokevirtual 88, 3) := by decide +kernel
theorem dX4_isFourWires_43 : decode cX4_isFourWires 43 = .ok (.if_icmp .ne 7, 3) := by decide +kernel
theorem dX4_isFourWires_46 : decode cX4_isFourWires 46 = .ok (.iconst 1, 1) := by decide +kernel
theorem dX4_isFourWires_47 : decode cX4_isFourWires 47 = .ok (.goto 4, 3) := by decide +kernel
theorem dX4_isFourWires_50 : decode cX4_isFourWires 50 = .ok (.iconst 0, 1) := by decide +kernel
theorem dX4_isFourWires_51 : decode cX4_isFourWires 51 = .ok (.ireturn, 1) := by decide +kernel
set_option maxRecDepth 20000 in
theorem ggX4_power_X4_within : GoodIn wsX4_power wsX4_within := goodIn_r _ [5] (by decide +kernel) (by decide +kernel)
set_option maxRecDepth 20000 in
theorem gX4_power_X4_within : GoodIn wsX4_power (va_wsS RX4 66 yX4_within wsX4_within) := goodIn_app (goodIn_of _ (by decide +kernel)) ggX4_power_X4_within
set_option maxRecDepth 20000 in
theorem ggX4_power_X4_inHand : GoodIn wsX4_power wsX4_inHand := goodIn_r _ [9, 10, 11, 12, 13, 14, 15, 4, 16, 17, 18, 19, 20, 21, 22, 23, 24, 25, 26, 27, 28, 29, 30, 31, 32, 33, 34, 35, 36, 37, 38, 39, 40, 41, 42] (by decide +kernel) (by decide +kernel)
set_option maxRecDepth 20000 in
theorem gX4_power_X4_inHand : GoodIn wsX4_power (wsV RX4 92 RX4 yX4_inHand wsX4_inHand) := goodIn_app (goodIn_of _ (by decide +kernel)) ggX4_power_X4_inHand
theorem dX4_power_0 : decode cX4_power 0 = .ok (.iload_n 1, 1) := by decide +kernel
theorem dX4_power_1 : decode cX4_power 1 = .ok (.iconst 0, 1) := by decide +kernel
theorem dX4_power_2 : decode cX4_power 2 = .ok (.iconst 1, 1) := by decide +kernel
theorem dX4_power_3 : decode cX4_power 3 = .ok (.invokestatic 66, 3) := by decide +kernel
theorem dX4_power_6 : decode cX4_power 6 = .ok (.ifCond .ne 6, 3) := by decide +kernel
theorem dX4_power_9 : decode cX4_power 9 = .ok (.bipush (-2), 2) := by decide +kernel
theorem dX4_power_11 : decode cX4_power 11 = .ok (.ireturn, 1) := by decide +kernel
theorem dX4_power_12 : decode cX4_power 12 = .ok (.iload_n 1, 1) := by decide +kernel
theorem dX4_power_13 : decode cX4_power 13 = .ok (.iconst 1, 1) := by decide +kernel
theorem dX4_power_14 : decode cX4_power 14 = .ok (.if_icmp .ne 15, 3) := by decide +kernel
theorem dX4_power_17 : decode cX4_power 17 = .ok (.aload_n 0, 1) := by decide +kernel
theorem dX4_power_18 : decode cX4_power 18 = .ok (.invokevirtual 92, 3) := by decide +kernel
theorem dX4_power_21 : decode cX4_power 21 = .ok (.bipush (-9), 2) := by decide +kernel
theorem dX4_power_23 : decode cX4_power 23 = .ok (.if_icmp .ne 6, 3) := by decide +kernel
theorem dX4_power_26 : decode cX4_power 26 = .ok (.bipush (-3), 2) := by decide +kernel
theorem dX4_power_28 : decode cX4_power 28 = .ok (.ireturn, 1) := by decide +kernel
theorem dX4_power_29 : decode cX4_power 29 = .ok (.aload_n 0, 1) := by decide +kernel
theorem dX4_power_30 : decode cX4_power 30 = .ok (.getfield 74, 3) := by decide +kernel
theorem dX4_power_33 : decode cX4_power 33 = .ok (.ifCond .eq 7, 3) := by decide +kernel
theorem dX4_power_36 : decode cX4_power 36 = .ok (.iconst 1, 1) := by decide +kernel
theorem dX4_power_37 : decode cX4_power 37 = .ok (.goto 4, 3) := by decide +kernel
theorem dX4_power_40 : decode cX4_power 40 = .ok (.iconst 0, 1) := by decide +kernel
theorem dX4_power_41 : decode cX4_power 41 = .ok (.istore_n 2, 1) := by decide +kernel
theorem dX4_power_42 : decode cX4_power 42 = .ok (.aload_n 0, 1) := by decide +kernel
theorem dX4_power_43 : decode cX4_power 43 = .ok (.iload_n 1, 1) := by decide +kernel
theorem dX4_power_44 : decode cX4_power 44 = .ok (.iconst 1, 1) := by decide +kernel
theorem dX4_power_45 : decode cX4_power 45 = .ok (.if_icmp .ne 7, 3) := by decide +kernel
theorem dX4_power_48 : decode cX4_power 48 = .ok (.iconst 1, 1) := by decide +kernel
theorem dX4_power_49 : decode cX4_power 49 = .ok (.goto 4, 3) := by decide +kernel
theorem dX4_power_52 : decode cX4_power 52 = .ok (.iconst 0, 1) := by decide +kernel
theorem dX4_power_53 : decode cX4_power 53 = .ok (.putfield 74, 3) := by decide +kernel
theorem dX4_power_56 : decode cX4_power 56 = .ok (.iload_n 2, 1) := by decide +kernel
theorem dX4_power_57 : decode cX4_power 57 = .ok (.ireturn, 1) := by decide +kernel
set_option maxRecDepth 20000 in
theorem ggX4_limit_X4_within : GoodIn wsX4_limit wsX4_within := goodIn_r _ [5] (by decide +kernel) (by decide +kernel)
set_option maxRecDepth 20000 in
theorem gX4_limit_X4_within : GoodIn wsX4_limit (va_wsS RX4 66 yX4_within wsX4_within) := goodIn_app (goodIn_of _ (by decide +kernel)) ggX4_limit_X4_within
theorem dX4_limit_0 : decode cX4_limit 0 = .ok (.iload_n 1, 1) := by decide +kernel
theorem dX4_limit_1 : decode cX4_limit 1 = .ok (.iconst 1, 1) := by decide +kernel
theorem dX4_limit_2 : decode cX4_limit 2 = .ok (.sipush 20000, 3) := by decide +kernel
theorem dX4_limit_5 : decode cX4_limit 5 = .ok (.invokestatic 66, 3) := by decide +kernel
theorem dX4_limit_8 : decode cX4_limit 8 = .ok (.ifCond .ne 6, 3) := by decide +kernel
theorem dX4_limit_11 : decode cX4_limit 11 = .ok (.bipush (-2), 2) := by decide +kernel
theorem dX4_limit_13 : decode cX4_limit 13 = .ok (.ireturn, 1) := by decide +kernel
theorem dX4_limit_14 : decode cX4_limit 14 = .ok (.aload_n 0, 1) := by decide +kernel
theorem dX4_limit_15 : decode cX4_limit 15 = .ok (.getfield 44, 3) := by decide +kernel
theorem dX4_limit_18 : decode cX4_limit 18 = .ok (.istore_n 2, 1) := by decide +kernel
theorem dX4_limit_19 : decode cX4_limit 19 = .ok (.aload_n 0, 1) := by decide +kernel
theorem dX4_limit_20 : decode cX4_limit 20 = .ok (.iload_n 1, 1) := by decide +kernel
theorem dX4_limit_21 : decode cX4_limit 21 = .ok (.putfield 44, 3) := by decide +kernel
theorem dX4_limit_24 : decode cX4_limit 24 = .ok (.iload_n 2, 1) := by decide +kernel
theorem dX4_limit_25 : decode cX4_limit 25 = .ok (.ireturn, 1) := by decide +kernel
set_option maxRecDepth 20000 in
theorem ggX4_leads_X4_within : GoodIn wsX4_leads wsX4_within := goodIn_r _ [5] (by decide +kernel) (by decide +kernel)
set_option maxRecDepth 20000 in
theorem gX4_leads_X4_within : GoodIn wsX4_leads (va_wsS RX4 66 yX4_within wsX4_within) := goodIn_app (goodIn_of _ (by decide +kernel)) ggX4_leads_X4_within
theorem dX4_leads_0 : decode cX4_leads 0 = .ok (.iload_n 1, 1) := by decide +kernel
theorem dX4_leads_1 : decode cX4_leads 1 = .ok (.iconst 0, 1) := by decide +kernel
theorem dX4_leads_2 : decode cX4_leads 2 = .ok (.sipush 200, 3) := by decide +kernel
theorem dX4_leads_5 : decode cX4_leads 5 = .ok (.invokestatic 66, 3) := by decide +kernel
theorem dX4_leads_8 : decode cX4_leads 8 = .ok (.ifCond .ne 6, 3) := by decide +kernel
theorem dX4_leads_11 : decode cX4_leads 11 = .ok (.bipush (-2), 2) := by decide +kernel
theorem dX4_leads_13 : decode cX4_leads 13 = .ok (.ireturn, 1) := by decide +kernel
theorem dX4_leads_14 : decode cX4_leads 14 = .ok (.aload_n 0, 1) := by decide +kernel
theorem dX4_leads_15 : decode cX4_leads 15 = .ok (.getfield 96, 3) := by decide +kernel
theorem dX4_leads_18 : decode cX4_leads 18 = .ok (.istore_n 2, 1) := by decide +kernel
theorem dX4_leads_19 : decode cX4_leads 19 = .ok (.aload_n 0, 1) := by decide +kernel
theorem dX4_leads_20 : decode cX4_leads 20 = .ok (.iload_n 1, 1) := by decide +kernel
theorem dX4_leads_21 : decode cX4_leads 21 = .ok (.putfield 96, 3) := by decide +kernel
theorem dX4_leads_24 : decode cX4_leads 24 = .ok (.iload_n 2, 1) := by decide +kernel
theorem dX4_leads_25 : decode cX4_leads 25 = .ok (.ireturn, 1) := by decide +kernel
set_option maxRecDepth 20000 in
theorem ggX4_now_X4_inHand : GoodIn wsX4_now wsX4_inHand := goodIn_r _ [8, 9, 10, 11, 12, 13, 14, 7, 15, 16, 21, 22, 23, 24, 25, 26, 27, 28, 29, 30, 31, 32, 33, 34, 35, 36, 37, 38, 39, 40, 41, 42, 43, 44, 45] (by decide +kernel) (by decide +kernel)
set_option maxRecDepth 20000 in
theorem gX4_now_X4_inHand : GoodIn wsX4_now (wsV RX4 92 RX4 yX4_inHand wsX4_inHand) := goodIn_app (goodIn_of _ (by decide +kernel)) ggX4_now_X4_inHand
set_option maxRecDepth 20000 in
theorem ggX4_now_X4_isFourWires : GoodIn wsX4_now wsX4_isFourWires := goodIn_r _ [20, 12, 13, 14, 7, 15, 16, 21, 22, 23, 24, 25, 26, 27, 28, 29, 30, 31, 32, 33, 34, 35, 36, 37, 38, 39, 40, 41, 42, 43, 44, 45] (by decide +kernel) (by decide +kernel)
set_option maxRecDepth 20000 in
theorem gX4_now_X4_isFourWires : GoodIn wsX4_now (wsV RX4 99 RX4 yX4_isFourWires wsX4_isFourWires) := goodIn_app (goodIn_of _ (by decide +kernel)) ggX4_now_X4_isFourWires
theorem dX4_now_0 : decode cX4_now 0 = .ok (.iload_n 1, 1) := by decide +kernel
theorem dX4_now_1 : decode cX4_now 1 = .ok (.tableswitch 76 0 4 #[35, 40, 53, 66, 71], 35) := by decide +kernel
theorem dX4_now_36 : decode cX4_now 36 = .ok (.aload_n 0, 1) := by decide +kernel
theorem dX4_now_37 : decode cX4_now 37 = .ok (.invokevirtual 92, 3) := by decide +kernel
theorem dX4_now_40 : decode cX4_now 40 = .ok (.ireturn, 1) := by decide +kernel
theorem dX4_now_41 : decode cX4_now 41 = .ok (.aload_n 0, 1) := by decide +kernel
theorem dX4_now_42 : decode cX4_now 42 = .ok (.invokevirtual 99, 3) := by decide +kernel
theorem dX4_now_45 : decode cX4_now 45 = .ok (.ifCond .eq 7, 3) := by decide +kernel
theorem dX4_now_48 : decode cX4_now 48 = .ok (.iconst 4, 1) := by decide +kernel
theorem dX4_now_49 : decode cX4_now 49 = .ok (.goto 4, 3) := by decide +kernel
theorem dX4_now_52 : decode cX4_now 52 = .ok (.iconst 2, 1) := by decide +kernel
theorem dX4_now_53 : decode cX4_now 53 = .ok (.ireturn, 1) := by decide +kernel
theorem dX4_now_54 : decode cX4_now 54 = .ok (.aload_n 0, 1) := by decide +kernel
theorem dX4_now_55 : decode cX4_now 55 = .ok (.getfield 74, 3) := by decide +kernel
theorem dX4_now_58 : decode cX4_now 58 = .ok (.ifCond .eq 7, 3) := by decide +kernel
theorem dX4_now_61 : decode cX4_now 61 = .ok (.iconst 1, 1) := by decide +kernel
theorem dX4_now_62 : decode cX4_now 62 = .ok (.goto 4, 3) := by decide +kernel
theorem dX4_now_65 : decode cX4_now 65 = .ok (.iconst 0, 1) := by decide +kernel
theorem dX4_now_66 : decode cX4_now 66 = .ok (.ireturn, 1) := by decide +kernel
theorem dX4_now_67 : decode cX4_now 67 = .ok (.aload_n 0, 1) := by decide +kernel
theorem dX4_now_68 : decode cX4_now 68 = .ok (.getfield 44, 3) := by decide +kernel
theorem dX4_now_71 : decode cX4_now 71 = .ok (.ireturn, 1) := by decide +kernel
theorem dX4_now_72 : decode cX4_now 72 = .ok (.aload_n 0, 1) := by decide +kernel
theorem dX4_now_73 : decode cX4_now 73 = .ok (.getfield 96, 3) := by decide +kernel
theorem dX4_now_76 : decode cX4_now 76 = .ok (.ireturn, 1) := by decide +kernel
theorem dX4_now_77 : decode cX4_now 77 = .ok (.bipush (-2), 2) := by decide +kernel
theorem dX4_now_79 : decode cX4_now 79 = .ok (.ireturn, 1) := by decide +kernel
set_option maxRecDepth 20000 in
theorem ggX4_cold_X4_number : GoodIn wsX4_cold wsX4_number := goodIn_r _ [7, 8, 12, 13, 14, 15, 16, 17, 18, 19, 20, 21, 22, 23, 24, 25, 26, 27, 28, 29, 30, 31, 32, 33, 34, 35, 36] (by decide +kernel) (by decide +kernel)
set_option maxRecDepth 20000 in
theorem gX4_cold_X4_number : GoodIn wsX4_cold (wsV RX4 81 RX4 yX4_number wsX4_number) := goodIn_app (goodIn_of _ (by decide +kernel)) ggX4_cold_X4_number
set_option maxRecDepth 20000 in
theorem ggX4_cold_X4_cut : GoodIn wsX4_cold wsX4_cut := goodIn_r _ [11] (by decide +kernel) (by decide +kernel)
set_option maxRecDepth 20000 in
theorem gX4_cold_X4_cut : GoodIn wsX4_cold (va_wsS RX4 103 yX4_cut wsX4_cut) := goodIn_app (goodIn_of _ (by decide +kernel)) ggX4_cold_X4_cut
theorem dX4_cold_0 : decode cX4_cold 0 = .ok (.aload_n 0, 1) := by decide +kernel
theorem dX4_cold_1 : decode cX4_cold 1 = .ok (.iload_n 1, 1) := by decide +kernel
theorem dX4_cold_2 : decode cX4_cold 2 = .ok (.iconst 0, 1) := by decide +kernel
theorem dX4_cold_3 : decode cX4_cold 3 = .ok (.invokevirtual 81, 3) := by decide +kernel
theorem dX4_cold_6 : decode cX4_cold 6 = .ok (.istore_n 3, 1) := by decide +kernel
theorem dX4_cold_7 : decode cX4_cold 7 = .ok (.aload_n 0, 1) := by decide +kernel
theorem dX4_cold_8 : decode cX4_cold 8 = .ok (.iload_n 1, 1) := by decide +kernel
theorem dX4_cold_9 : decode cX4_cold 9 = .ok (.iconst 1, 1) := by decide +kernel
theorem dX4_cold_10 : decode cX4_cold 10 = .ok (.invokevirtual 81, 3) := by decide +kernel
theorem dX4_cold_13 : decode cX4_cold 13 = .ok (.istore 4, 2) := by decide +kernel
theorem dX4_cold_15 : decode cX4_cold 15 = .ok (.aload_n 0, 1) := by decide +kernel
theorem dX4_cold_16 : decode cX4_cold 16 = .ok (.iload_n 1, 1) := by decide +kernel
theorem dX4_cold_17 : decode cX4_cold 17 = .ok (.iconst 2, 1) := by decide +kernel
theorem dX4_cold_18 : decode cX4_cold 18 = .ok (.invokevirtual 81, 3) := by decide +kernel
theorem dX4_cold_21 : decode cX4_cold 21 = .ok (.istore 5, 2) := by decide +kernel
theorem dX4_cold_23 : decode cX4_cold 23 = .ok (.aload_n 0, 1) := by decide +kernel
theorem dX4_cold_24 : decode cX4_cold 24 = .ok (.getfield 20, 3) := by decide +kernel
theorem dX4_cold_27 : decode cX4_cold 27 = .ok (.iload_n 1, 1) := by decide +kernel
theorem dX4_cold_28 : decode cX4_cold 28 = .ok (.iaload, 1) := by decide +kernel
theorem dX4_cold_29 : decode cX4_cold 29 = .ok (.iconst 3, 1) := by decide +kernel
theorem dX4_cold_30 : decode cX4_cold 30 = .ok (.if_icmp .ne 27, 3) := by decide +kernel
theorem dX4_cold_33 : decode cX4_cold 33 = .ok (.iload_n 2, 1) := by decide +kernel
theorem dX4_cold_34 : decode cX4_cold 34 = .ok (.aload_n 0, 1) := by decide +kernel
theorem dX4_cold_35 : decode cX4_cold 35 = .ok (.getfield 38, 3) := by decide +kernel
theorem dX4_cold_38 : decode cX4_cold 38 = .ok (.iload_n 1, 1) := by decide +kernel
theorem dX4_cold_39 : decode cX4_cold 39 = .ok (.baload, 1) := by decide +kernel
theorem dX4_cold_40 : decode cX4_cold 40 = .ok (.ifCond .eq 7, 3) := by decide +kernel
theorem dX4_cold_43 : decode cX4_cold 43 = .ok (.iload_n 3, 1) := by decide +kernel
theorem dX4_cold_44 : decode cX4_cold 44 = .ok (.goto 5, 3) := by decide +kernel
theorem dX4_cold_47 : decode cX4_cold 47 = .ok (.iload 5, 2) := by decide +kernel
theorem dX4_cold_49 : decode cX4_cold 49 = .ok (.imul, 1) := by decide +kernel
theorem dX4_cold_50 : decode cX4_cold 50 = .ok (.sipush 1000, 3) := by decide +kernel
theorem dX4_cold_53 : decode cX4_cold 53 = .ok (.invokestatic 103, 3) := by decide +kernel
theorem dX4_cold_56 : decode cX4_cold 56 = .ok (.ireturn, 1) := by decide +kernel
theorem dX4_cold_57 : decode cX4_cold 57 = .ok (.aload_n 0, 1) := by decide +kernel
theorem dX4_cold_58 : decode cX4_cold 58 = .ok (.getfield 20, 3) := by decide +kernel
theorem dX4_cold_61 : decode cX4_cold 61 = .ok (.iload_n 1, 1) := by decide +kernel
theorem dX4_cold_62 : decode cX4_cold 62 = .ok (.iaload, 1) := by decide +kernel
theorem dX4_cold_63 : decode cX4_cold 63 = .ok (.ifCond .ne 13, 3) := by decide +kernel
theorem dX4_cold_66 : decode cX4_cold 66 = .ok (.iload_n 2, 1) := by decide +kernel
theorem dX4_cold_67 : decode cX4_cold 67 = .ok (.iload_n 3, 1) := by decide +kernel
theorem dX4_cold_68 : decode cX4_cold 68 = .ok (.imul, 1) := by decide +kernel
theorem dX4_cold_69 : decode cX4_cold 69 = .ok (.sipush 1000, 3) := by decide +kernel
theorem dX4_cold_72 : decode cX4_cold 72 = .ok (.invokestatic 103, 3) := by decide +kernel
theorem dX4_cold_75 : decode cX4_cold 75 = .ok (.ireturn, 1) := by decide +kernel
theorem dX4_cold_76 : decode cX4_cold 76 = .ok (.iload_n 2, 1) := by decide +kernel
theorem dX4_cold_77 : decode cX4_cold 77 = .ok (.iload 5, 2) := by decide +kernel
theorem dX4_cold_79 : decode cX4_cold 79 = .ok (.imul, 1) := by decide +kernel
theorem dX4_cold_80 : decode cX4_cold 80 = .ok (.sipush 1000, 3) := by decide +kernel
theorem dX4_cold_83 : decode cX4_cold 83 = .ok (.invokestatic 103, 3) := by decide +kernel
theorem dX4_cold_86 : decode cX4_cold 86 = .ok (.istore 6, 2) := by decide +kernel
theorem dX4_cold_88 : decode cX4_cold 88 = .ok (.iload 6, 2) := by decide +kernel
theorem dX4_cold_90 : decode cX4_cold 90 = .ok (.iload_n 2, 1) := by decide +kernel
theorem dX4_cold_91 : decode cX4_cold 91 = .ok (.iload 4, 2) := by decide +kernel
theorem dX4_cold_93 : decode cX4_cold 93 = .ok (.if_icmp .le 18, 3) := by decide +kernel
theorem dX4_cold_96 : decode cX4_cold 96 = .ok (.iload_n 2, 1) := by decide +kernel
theorem dX4_cold_97 : decode cX4_cold 97 = .ok (.iload 4, 2) := by decide +kernel
theorem dX4_cold_99 : decode cX4_cold 99 = .ok (.isub, 1) := by decide +kernel
theorem dX4_cold_100 : decode cX4_cold 100 = .ok (.iload_n 3, 1) := by decide +kernel
theorem dX4_cold_101 : decode cX4_cold 101 = .ok (.imul, 1) := by decide +kernel
theorem dX4_cold_102 : decode cX4_cold 102 = .ok (.sipush 1000, 3) := by decide +kernel
theorem dX4_cold_105 : decode cX4_cold 105 = .ok (.invokestatic 103, 3) := by decide +kernel
theorem dX4_cold_108 : decode cX4_cold 108 = .ok (.goto 4, 3) := by decide +kernel
theorem dX4_cold_111 : decode cX4_cold 111 = .ok (.iconst 0, 1) := by decide +kernel
theorem dX4_cold_112 : decode cX4_cold 112 = .ok (.iadd, 1) := by decide +kernel
theorem dX4_cold_113 : decode cX4_cold 113 = .ok (.istore 6, 2) := by decide +kernel
theorem dX4_cold_115 : decode cX4_cold 115 = .ok (.iload 6, 2) := by decide +kernel
theorem dX4_cold_117 : decode cX4_cold 117 = .ok (.aload_n 0, 1) := by decide +kernel
theorem dX4_cold_118 : decode cX4_cold 118 = .ok (.getfield 20, 3) := by decide +kernel
theorem dX4_cold_121 : decode cX4_cold 121 = .ok (.iload_n 1, 1) := by decide +kernel
theorem dX4_cold_122 : decode cX4_cold 122 = .ok (.iaload, 1) := by decide +kernel
theorem dX4_cold_123 : decode cX4_cold 123 = .ok (.iconst 2, 1) := by decide +kernel
theorem dX4_cold_124 : decode cX4_cold 124 = .ok (.if_icmp .ne 25, 3) := by decide +kernel
theorem dX4_cold_127 : decode cX4_cold 127 = .ok (.iload_n 2, 1) := by decide +kernel
theorem dX4_cold_128 : decode cX4_cold 128 = .ok (.iload 4, 2) := by decide +kernel
theorem dX4_cold_130 : decode cX4_cold 130 = .ok (.ineg, 1) := by decide +kernel
theorem dX4_cold_131 : decode cX4_cold 131 = .ok (.if_icmp .ge 18, 3) := by decide +kernel
theorem dX4_cold_134 : decode cX4_cold 134 = .ok (.iload_n 2, 1) := by decide +kernel
theorem dX4_cold_135 : decode cX4_cold 135 = .ok (.iload 4, 2) := by decide +kernel
theorem dX4_cold_137 : decode cX4_cold 137 = .ok (.iadd, 1) := by decide +kernel
theorem dX4_cold_138 : decode cX4_cold 138 = .ok (.iload_n 3, 1) := by decide +kernel
theorem dX4_cold_139 : decode cX4_cold 139 = .ok (.imul, 1) := by decide +kernel
theorem dX4_cold_140 : decode cX4_cold 140 = .ok (.sipush 1000, 3) := by decide +kernel
theorem dX4_cold_143 : decode cX4_cold 143 = .ok (.invokestatic 103, 3) := by decide +kernel
theorem dX4_cold_146 : decode cX4_cold 146 = .ok (.goto 4, 3) := by decide +kernel
theorem dX4_cold_149 : decode cX4_cold 149 = .ok (.iconst 0, 1) := by decide +kernel
theorem dX4_cold_150 : decode cX4_cold 150 = .ok (.iadd, 1) := by decide +kernel
theorem dX4_cold_151 : decode cX4_cold 151 = .ok (.ireturn, 1) := by decide +kernel
set_option maxRecDepth 20000 in
theorem ggX4_ownAmps_X4_cold : GoodIn wsX4_ownAmps wsX4_cold := goodIn_r _ [7, 8, 9, 10, 11, 12, 6, 13, 14, 15, 16, 17, 18, 19, 20, 21, 22, 23, 24, 25, 26, 27, 28, 29, 30, 31, 32, 33, 34, 35, 36, 37, 38, 39, 40, 41, 42] (by decide +kernel) (by decide +kernel)
set_option maxRecDepth 20000 in
theorem gX4_ownAmps_X4_cold : GoodIn wsX4_ownAmps (wsV RX4 106 RX4 yX4_cold wsX4_cold) := goodIn_app (goodIn_of _ (by decide +kernel)) ggX4_ownAmps_X4_cold
set_option maxRecDepth 20000 in
theorem ggX4_ownAmps_X4_number : GoodIn wsX4_ownAmps wsX4_number := goodIn_r _ [13, 14, 18, 19, 20, 21, 22, 23, 24, 25, 26, 27, 28, 29, 30, 31, 32, 33, 34, 35, 36, 37, 38, 39, 40, 41, 42] (by decide +kernel) (by decide +kernel)
set_option maxRecDepth 20000 in
theorem gX4_ownAmps_X4_number : GoodIn wsX4_ownAmps (wsV RX4 81 RX4 yX4_number wsX4_number) := goodIn_app (goodIn_of _ (by decide +kernel)) ggX4_ownAmps_X4_number
set_option maxRecDepth 20000 in
theorem ggX4_ownAmps_X4_cut : GoodIn wsX4_ownAmps wsX4_cut := goodIn_r _ [17] (by decide +kernel) (by decide +kernel)
set_option maxRecDepth 20000 in
theorem gX4_ownAmps_X4_cut : GoodIn wsX4_ownAmps (va_wsS RX4 103 yX4_cut wsX4_cut) := goodIn_app (goodIn_of _ (by decide +kernel)) ggX4_ownAmps_X4_cut
theorem dX4_ownAmps_0 : decode cX4_ownAmps 0 = .ok (.aload_n 0, 1) := by decide +kernel
theorem dX4_ownAmps_1 : decode cX4_ownAmps 1 = .ok (.getfield 35, 3) := by decide +kernel
theorem dX4_ownAmps_4 : decode cX4_ownAmps 4 = .ok (.iload_n 1, 1) := by decide +kernel
theorem dX4_ownAmps_5 : decode cX4_ownAmps 5 = .ok (.baload, 1) := by decide +kernel
theorem dX4_ownAmps_6 : decode cX4_ownAmps 6 = .ok (.ifCond .eq 7, 3) := by decide +kernel
theorem dX4_ownAmps_9 : decode cX4_ownAmps 9 = .ok (.iconst 0, 1) := by decide +kernel
theorem dX4_ownAmps_10 : decode cX4_ownAmps 10 = .ok (.goto 33, 3) := by decide +kernel
theorem dX4_ownAmps_13 : decode cX4_ownAmps 13 = .ok (.sipush 1000, 3) := by decide +kernel
theorem dX4_ownAmps_16 : decode cX4_ownAmps 16 = .ok (.aload_n 0, 1) := by decide +kernel
theorem dX4_ownAmps_17 : decode cX4_ownAmps 17 = .ok (.iload_n 1, 1) := by decide +kernel
theorem dX4_ownAmps_18 : decode cX4_ownAmps 18 = .ok (.iload_n 2, 1) := by decide +kernel
theorem dX4_ownAmps_19 : decode cX4_ownAmps 19 = .ok (.invokevirtual 106, 3) := by decide +kernel
theorem dX4_ownAmps_22 : decode cX4_ownAmps 22 = .ok (.imul, 1) := by decide +kernel
theorem dX4_ownAmps_23 : decode cX4_ownAmps 23 = .ok (.sipush 1000, 3) := by decide +kernel
theorem dX4_ownAmps_26 : decode cX4_ownAmps 26 = .ok (.aload_n 0, 1) := by decide +kernel
theorem dX4_ownAmps_27 : decode cX4_ownAmps 27 = .ok (.iload_n 1, 1) := by decide +kernel
theorem dX4_ownAmps_28 : decode cX4_ownAmps 28 = .ok (.iconst 4, 1) := by decide +kernel
theorem dX4_ownAmps_29 : decode cX4_ownAmps 29 = .ok (.invokevirtual 81, 3) := by decide +kernel
theorem dX4_ownAmps_32 : decode cX4_ownAmps 32 = .ok (.aload_n 0, 1) := by decide +kernel
theorem dX4_ownAmps_33 : decode cX4_ownAmps 33 = .ok (.getfield 32, 3) := by decide +kernel
theorem dX4_ownAmps_36 : decode cX4_ownAmps 36 = .ok (.iload_n 1, 1) := by decide +kernel
theorem dX4_ownAmps_37 : decode cX4_ownAmps 37 = .ok (.iaload, 1) := by decide +kernel
theorem dX4_ownAmps_38 : decode cX4_ownAmps 38 = .ok (.imul, 1) := by decide +kernel
theorem dX4_ownAmps_39 : decode cX4_ownAmps 39 = .ok (.iadd, 1) := by decide +kernel
theorem dX4_ownAmps_40 : decode cX4_ownAmps 40 = .ok (.invokestatic 103, 3) := by decide +kernel
theorem dX4_ownAmps_43 : decode cX4_ownAmps 43 = .ok (.ireturn, 1) := by decide +kernel
set_option maxRecDepth 20000 in
theorem ggX4_amps_X4_isPart : GoodIn wsX4_amps wsX4_isPart := goodIn_r _ [6, 7, 8, 9, 5, 10, 31, 32, 33, 34, 35, 36, 37, 38, 39, 40, 41, 42, 43, 44, 45, 46, 47, 48, 49, 50, 51, 52, 53, 54, 55] (by decide +kernel) (by decide +kernel)
set_option maxRecDepth 20000 in
theorem gX4_amps_X4_isPart : GoodIn wsX4_amps (wsV RX4 78 RX4 yX4_isPart wsX4_isPart) := goodIn_app (goodIn_of _ (by decide +kernel)) ggX4_amps_X4_isPart
set_option maxRecDepth 20000 in
theorem ggX4_amps_X4_within : GoodIn wsX4_amps wsX4_within := goodIn_r _ [10] (by decide +kernel) (by decide +kernel)
set_option maxRecDepth 20000 in
theorem gX4_amps_X4_within : GoodIn wsX4_amps (va_wsS RX4 66 yX4_within wsX4_within) := goodIn_app (goodIn_of _ (by decide +kernel)) ggX4_amps_X4_within
set_option maxRecDepth 20000 in
theorem ggX4_amps_X4_ownAmps : GoodIn wsX4_amps wsX4_ownAmps := goodIn_r _ [14, 15, 16, 17, 18, 19, 5, 20, 21, 22, 23, 24, 25, 26, 27, 28, 29, 30, 31, 32, 33, 34, 35, 36, 37, 38, 39, 40, 41, 42, 43, 44, 45, 46, 47, 48, 49, 50, 51, 52, 53, 54, 55] (by decide +kernel) (by decide +kernel)
set_option maxRecDepth 20000 in
theorem gX4_amps_X4_ownAmps : GoodIn wsX4_amps (wsV RX4 109 RX4 yX4_ownAmps wsX4_ownAmps) := goodIn_app (goodIn_of _ (by decide +kernel)) ggX4_amps_X4_ownAmps
theorem dX4_amps_0 : decode cX4_amps 0 = .ok (.aload_n 0, 1) := by decide +kernel
theorem dX4_amps_1 : decode cX4_amps 1 = .ok (.iload_n 1, 1) := by decide +kernel
theorem dX4_amps_2 : decode cX4_amps 2 = .ok (.invokevirtual 78, 3) := by decide +kernel
theorem dX4_amps_5 : decode cX4_amps 5 = .ok (.ifCond .ne 5, 3) := by decide +kernel
theorem dX4_amps_8 : decode cX4_amps 8 = .ok (.iconst (-1), 1) := by decide +kernel
theorem dX4_amps_9 : decode cX4_amps 9 = .ok (.ireturn, 1) := by decide +kernel
theorem dX4_amps_10 : decode cX4_amps 10 = .ok (.iload_n 2, 1) := by decide +kernel
theorem dX4_amps_11 : decode cX4_amps 11 = .ok (.sipush (-3000), 3) := by decide +kernel
theorem dX4_amps_14 : decode cX4_amps 14 = .ok (.sipush 3000, 3) := by decide +kernel
theorem dX4_amps_17 : decode cX4_amps 17 = .ok (.invokestatic 66, 3) := by decide +kernel
theorem dX4_amps_20 : decode cX4_amps 20 = .ok (.ifCond .eq 15, 3) := by decide +kernel
theorem dX4_amps_23 : decode cX4_amps 23 = .ok (.aload_n 0, 1) := by decide +kernel
theorem dX4_amps_24 : decode cX4_amps 24 = .ok (.iload_n 1, 1) := by decide +kernel
theorem dX4_amps_25 : decode cX4_amps 25 = .ok (.iload_n 2, 1) := by decide +kernel
theorem dX4_amps_26 : decode cX4_amps 26 = .ok (.invokevirtual 109, 3) := by decide +kernel
theorem dX4_amps_29 : decode cX4_amps 29 = .ok (.ldc 112, 2) := by decide +kernel
theorem dX4_amps_31 : decode cX4_amps 31 = .ok (.iadd, 1) := by decide +kernel
theorem dX4_amps_32 : decode cX4_amps 32 = .ok (.goto 5, 3) := by decide +kernel
theorem dX4_amps_35 : decode cX4_amps 35 = .ok (.bipush (-2), 2) := by decide +kernel
theorem dX4_amps_37 : decode cX4_amps 37 = .ok (.ireturn, 1) := by decide +kernel
set_option maxRecDepth 20000 in
theorem ggX4_isForward_X4_pinOf : GoodIn wsX4_isForward wsX4_pinOf := goodIn_r _ [6, 7, 8, 9, 10, 11, 12, 13, 14, 15, 16, 17, 18, 19, 20, 21, 22, 23, 24, 25, 26, 27, 28, 29, 30, 31, 32] (by decide +kernel) (by decide +kernel)
set_option maxRecDepth 20000 in
theorem gX4_isForward_X4_pinOf : GoodIn wsX4_isForward (wsV RX4 88 RX4 yX4_pinOf wsX4_pinOf) := goodIn_app (goodIn_of _ (by decide +kernel)) ggX4_isForward_X4_pinOf
theorem dX4_isForward_0 : decode cX4_isForward 0 = .ok (.aload_n 0, 1) := by decide +kernel
theorem dX4_isForward_1 : decode cX4_isForward 1 = .ok (.getfield 13, 3) := by decide +kernel
theorem dX4_isForward_4 : decode cX4_isForward 4 = .ok (.iload_n 1, 1) := by decide +kernel
theorem dX4_isForward_5 : decode cX4_isForward 5 = .ok (.iaload, 1) := by decide +kernel
theorem dX4_isForward_6 : decode cX4_isForward 6 = .ok (.aload_n 0, 1) := by decide +kernel
theorem dX4_isForward_7 : decode cX4_isForward 7 = .ok (.iconst 0, 1) := by decide +kernel
theorem dX4_isForward_8 : decode cX4_isForward 8 = .ok (.invokevirtual 88, 3) := by decide +kernel
theorem dX4_isForward_11 : decode cX4_isForward 11 = .ok (.if_icmp .ne 7, 3) := by decide +kernel
theorem dX4_isForward_14 : decode cX4_isForward 14 = .ok (.iconst 1, 1) := by decide +kernel
theorem dX4_isForward_15 : decode cX4_isForward 15 = .ok (.goto 4, 3) := by decide +kernel
theorem dX4_isForward_18 : decode cX4_isForward 18 = .ok (.iconst 0, 1) := by decide +kernel
theorem dX4_isForward_19 : decode cX4_isForward 19 = .ok (.ireturn, 1) := by decide +kernel
set_option maxRecDepth 20000 in
theorem ggX4_ampsAt_X4_isForward : GoodIn wsX4_ampsAt wsX4_isForward := goodIn_r _ [5, 6, 7, 8, 9, 4, 10, 11, 32, 33, 34, 35, 36, 37, 38, 39, 40, 41, 42, 43, 44, 45, 46, 47, 48, 49, 50, 51, 52, 53, 54, 55, 56] (by decide +kernel) (by decide +kernel)
set_option maxRecDepth 20000 in
theorem gX4_ampsAt_X4_isForward : GoodIn wsX4_ampsAt (wsV RX4 113 RX4 yX4_isForward wsX4_isForward) := goodIn_app (goodIn_of _ (by decide +kernel)) ggX4_ampsAt_X4_isForward
set_option maxRecDepth 20000 in
theorem ggX4_ampsAt_X4_ownAmps : GoodIn wsX4_ampsAt wsX4_ownAmps := goodIn_r _ [15, 16, 17, 18, 19, 20, 4, 21, 22, 23, 24, 25, 26, 27, 28, 29, 30, 31, 32, 33, 34, 35, 36, 37, 38, 39, 40, 41, 42, 43, 44, 45, 46, 47, 48, 49, 50, 51, 52, 53, 54, 55, 56] (by decide +kernel) (by decide +kernel)
set_option maxRecDepth 20000 in
theorem gX4_ampsAt_X4_ownAmps : GoodIn wsX4_ampsAt (wsV RX4 109 RX4 yX4_ownAmps wsX4_ownAmps) := goodIn_app (goodIn_of _ (by decide +kernel)) ggX4_ampsAt_X4_ownAmps
theorem dX4_ampsAt_0 : decode cX4_ampsAt 0 = .ok (.aload_n 0, 1) := by decide +kernel
theorem dX4_ampsAt_1 : decode cX4_ampsAt 1 = .ok (.iload_n 1, 1) := by decide +kernel
theorem dX4_ampsAt_2 : decode cX4_ampsAt 2 = .ok (.invokevirtual 113, 3) := by decide +kernel
theorem dX4_ampsAt_5 : decode cX4_ampsAt 5 = .ok (.ifCond .eq 12, 3) := by decide +kernel
theorem dX4_ampsAt_8 : decode cX4_ampsAt 8 = .ok (.aload_n 0, 1) := by decide +kernel
theorem dX4_ampsAt_9 : decode cX4_ampsAt 9 = .ok (.iload_n 1, 1) := by decide +kernel
theorem dX4_ampsAt_10 : decode cX4_ampsAt 10 = .ok (.iload_n 2, 1) := by decide +kernel
theorem dX4_ampsAt_11 : decode cX4_ampsAt 11 = .ok (.invokevirtual 109, 3) := by decide +kernel
theorem dX4_ampsAt_14 : decode cX4_ampsAt 14 = .ok (.goto 11, 3) := by decide +kernel
theorem dX4_ampsAt_17 : decode cX4_ampsAt 17 = .ok (.aload_n 0, 1) := by decide +kernel
theorem dX4_ampsAt_18 : decode cX4_ampsAt 18 = .ok (.iload_n 1, 1) := by decide +kernel
theorem dX4_ampsAt_19 : decode cX4_ampsAt 19 = .ok (.iload_n 2, 1) := by decide +kernel
theorem dX4_ampsAt_20 : decode cX4_ampsAt 20 = .ok (.ineg, 1) := by decide +kernel
theorem dX4_ampsAt_21 : decode cX4_ampsAt 21 = .ok (.invokevirtual 109, 3) := by decide +kernel
theorem dX4_ampsAt_24 : decode cX4_ampsAt 24 = .ok (.ineg, 1) := by decide +kernel
theorem dX4_ampsAt_25 : decode cX4_ampsAt 25 = .ok (.ireturn, 1) := by decide +kernel
set_option maxRecDepth 20000 in
theorem ggX4_dropBy_X4_cut : GoodIn wsX4_dropBy wsX4_cut := goodIn_r _ [5] (by decide +kernel) (by decide +kernel)
set_option maxRecDepth 20000 in
theorem gX4_dropBy_X4_cut : GoodIn wsX4_dropBy (va_wsS RX4 103 yX4_cut wsX4_cut) := goodIn_app (goodIn_of _ (by decide +kernel)) ggX4_dropBy_X4_cut
theorem dX4_dropBy_0 : decode cX4_dropBy 0 = .ok (.iload_n 1, 1) := by decide +kernel
theorem dX4_dropBy_1 : decode cX4_dropBy 1 = .ok (.aload_n 0, 1) := by decide +kernel
theorem dX4_dropBy_2 : decode cX4_dropBy 2 = .ok (.getfield 96, 3) := by decide +kernel
theorem dX4_dropBy_5 : decode cX4_dropBy 5 = .ok (.imul, 1) := by decide +kernel
theorem dX4_dropBy_6 : decode cX4_dropBy 6 = .ok (.sipush 1000, 3) := by decide +kernel
theorem dX4_dropBy_9 : decode cX4_dropBy 9 = .ok (.invokestatic 103, 3) := by decide +kernel
theorem dX4_dropBy_12 : decode cX4_dropBy 12 = .ok (.ireturn, 1) := by decide +kernel
set_option maxRecDepth 20000 in
theorem ggX4_against_X4_ampsAt : GoodIn wsX4_against wsX4_ampsAt := goodIn_r _ [6, 7, 8, 9, 5, 10, 11, 12, 13, 14, 15, 16, 17, 18, 19, 20, 21, 22, 23, 24, 25, 26, 27, 28, 29, 30, 31, 32, 33, 34, 35, 36, 49, 50, 51, 52, 53, 54, 55, 56, 57, 58, 59, 60, 61, 62, 63, 64, 65, 66, 67, 68, 69, 70, 71, 72, 73] (by decide +kernel) (by decide +kernel)
set_option maxRecDepth 20000 in
theorem gX4_against_X4_ampsAt : GoodIn wsX4_against (wsV RX4 116 RX4 yX4_ampsAt wsX4_ampsAt) := goodIn_app (goodIn_of _ (by decide +kernel)) ggX4_against_X4_ampsAt
set_option maxRecDepth 20000 in
theorem ggX4_against_X4_size : GoodIn wsX4_against wsX4_size := goodIn_r _ [39] (by decide +kernel) (by decide +kernel)
set_option maxRecDepth 20000 in
theorem gX4_against_X4_size : GoodIn wsX4_against (va_wsS RX4 119 yX4_size wsX4_size) := goodIn_app (goodIn_of _ (by decide +kernel)) ggX4_against_X4_size
set_option maxRecDepth 20000 in
theorem ggX4_against_X4_isFourWires : GoodIn wsX4_against wsX4_isFourWires := goodIn_r _ [43, 12, 13, 14, 5, 15, 16, 49, 50, 51, 52, 53, 54, 55, 56, 57, 58, 59, 60, 61, 62, 63, 64, 65, 66, 67, 68, 69, 70, 71, 72, 73] (by decide +kernel) (by decide +kernel)
set_option maxRecDepth 20000 in
theorem gX4_against_X4_isFourWires : GoodIn wsX4_against (wsV RX4 99 RX4 yX4_isFourWires wsX4_isFourWires) := goodIn_app (goodIn_of _ (by decide +kernel)) ggX4_against_X4_isFourWires
set_option maxRecDepth 20000 in
theorem ggX4_against_X4_dropBy : GoodIn wsX4_against wsX4_dropBy := goodIn_r _ [47, 48, 34, 35, 5, 36, 49, 50, 51, 52, 53, 54, 55, 56, 57, 58, 59, 60, 61, 62, 63, 64, 65, 66, 67, 68, 69, 70, 71, 72, 73] (by decide +kernel) (by decide +kernel)
set_option maxRecDepth 20000 in
theorem gX4_against_X4_dropBy : GoodIn wsX4_against (wsV RX4 122 RX4 yX4_dropBy wsX4_dropBy) := goodIn_app (goodIn_of _ (by decide +kernel)) ggX4_against_X4_dropBy
theorem dX4_against_0 : decode cX4_against 0 = .ok (.aload_n 0, 1) := by decide +kernel
theorem dX4_against_1 : decode cX4_against 1 = .ok (.iload_n 1, 1) := by decide +kernel
theorem dX4_against_2 : decode cX4_against 2 = .ok (.iload_n 2, 1) := by decide +kernel
theorem dX4_against_3 : decode cX4_against 3 = .ok (.invokevirtual 116, 3) := by decide +kernel
theorem dX4_against_6 : decode cX4_against 6 = .ok (.istore 4, 2) := by decide +kernel
theorem dX4_against_8 : decode cX4_against 8 = .ok (.iload 4, 2) := by decide +kernel
theorem dX4_against_10 : decode cX4_against 10 = .ok (.invokestatic 119, 3) := by decide +kernel
theorem dX4_against_13 : decode cX4_against 13 = .ok (.aload_n 0, 1) := by decide +kernel
theorem dX4_against_14 : decode cX4_against 14 = .ok (.getfield 44, 3) := by decide +kernel
theorem dX4_against_17 : decode cX4_against 17 = .ok (.if_icmp .le 5, 3) := by decide +kernel
theorem dX4_against_20 : decode cX4_against 20 = .ok (.iconst 1, 1) := by decide +kernel
theorem dX4_against_21 : decode cX4_against 21 = .ok (.ireturn, 1) := by decide +kernel
theorem dX4_against_22 : decode cX4_against 22 = .ok (.aload_n 0, 1) := by decide +kernel
theorem dX4_against_23 : decode cX4_against 23 = .ok (.invokevirtual 99, 3) := by decide +kernel
theorem dX4_against_26 : decode cX4_against 26 = .ok (.ifCond .ne 25, 3) := by decide +kernel
theorem dX4_against_29 : decode cX4_against 29 = .ok (.iload_n 2, 1) := by decide +kernel
theorem dX4_against_30 : decode cX4_against 30 = .ok (.aload_n 0, 1) := by decide +kernel
theorem dX4_against_31 : decode cX4_against 31 = .ok (.iload 4, 2) := by decide +kernel
theorem dX4_against_33 : decode cX4_against 33 = .ok (.invokevirtual 122, 3) := by decide +kernel
theorem dX4_against_36 : decode cX4_against 36 = .ok (.iadd, 1) := by decide +kernel
theorem dX4_against_37 : decode cX4_against 37 = .ok (.invokestatic 119, 3) := by decide +kernel
theorem dX4_against_40 : decode cX4_against 40 = .ok (.iload_n 3, 1) := by decide +kernel
theorem dX4_against_41 : decode cX4_against 41 = .ok (.invokestatic 119, 3) := by decide +kernel
theorem dX4_against_44 : decode cX4_against 44 = .ok (.if_icmp .le 7, 3) := by decide +kernel
theorem dX4_against_47 : decode cX4_against 47 = .ok (.iconst 2, 1) := by decide +kernel
theorem dX4_against_48 : decode cX4_against 48 = .ok (.goto 4, 3) := by decide +kernel
theorem dX4_against_51 : decode cX4_against 51 = .ok (.iconst 0, 1) := by decide +kernel
theorem dX4_against_52 : decode cX4_against 52 = .ok (.ireturn, 1) := by decide +kernel
set_option maxRecDepth 20000 in
theorem ggX4_finds_X4_against : GoodIn wsX4_finds wsX4_against := goodIn_r _ [7, 8, 9, 10, 11, 6, 12, 13, 14, 15, 16, 17, 18, 19, 20, 21, 22, 23, 24, 25, 26, 27, 28, 29, 30, 31, 32, 33, 34, 35, 36, 37, 38, 39, 40, 41, 42, 43, 44, 45, 46, 47, 48, 49, 50, 51, 52, 53, 54, 55, 56, 57, 58, 59, 60, 61, 62, 63, 64, 65, 66, 67, 68, 69, 70, 71, 72, 73, 74, 75, 76, 77, 78, 79] (by decide +kernel) (by decide +kernel)
set_option maxRecDepth 20000 in
theorem gX4_finds_X4_against : GoodIn wsX4_finds (wsV RX4 131 RX4 yX4_against wsX4_against) := goodIn_app (goodIn_of _ (by decide +kernel)) ggX4_finds_X4_against
theorem dX4_finds_0 : decode cX4_finds 0 = .ok (.iload_n 2, 1) := by decide +kernel
theorem dX4_finds_1 : decode cX4_finds 1 = .ok (.ifCond .ge 7, 3) := by decide +kernel
theorem dX4_finds_4 : decode cX4_finds 4 = .ok (.iconst (-1), 1) := by decide +kernel
theorem dX4_finds_5 : decode cX4_finds 5 = .ok (.goto 4, 3) := by decide +kernel
theorem dX4_finds_8 : decode cX4_finds 8 = .ok (.iconst 1, 1) := by decide +kernel
theorem dX4_finds_9 : decode cX4_finds 9 = .ok (.istore_n 3, 1) := by decide +kernel
theorem dX4_finds_10 : decode cX4_finds 10 = .ok (.aload_n 0, 1) := by decide +kernel
theorem dX4_finds_11 : decode cX4_finds 11 = .ok (.iconst 0, 1) := by decide +kernel
theorem dX4_finds_12 : decode cX4_finds 12 = .ok (.putfield 125, 3) := by decide +kernel
theorem dX4_finds_15 : decode cX4_finds 15 = .ok (.aload_n 0, 1) := by decide +kernel
theorem dX4_finds_16 : decode cX4_finds 16 = .ok (.iconst 0, 1) := by decide +kernel
theorem dX4_finds_17 : decode cX4_finds 17 = .ok (.putfield 128, 3) := by decide +kernel
theorem dX4_finds_20 : decode cX4_finds 20 = .ok (.aload_n 0, 1) := by decide +kernel
theorem dX4_finds_21 : decode cX4_finds 21 = .ok (.getfield 125, 3) := by decide +kernel
theorem dX4_finds_24 : decode cX4_finds 24 = .ok (.iload_n 2, 1) := by decide +kernel
theorem dX4_finds_25 : decode cX4_finds 25 = .ok (.if_icmp .eq 50, 3) := by decide +kernel
theorem dX4_finds_28 : decode cX4_finds 28 = .ok (.aload_n 0, 1) := by decide +kernel
theorem dX4_finds_29 : decode cX4_finds 29 = .ok (.getfield 128, 3) := by decide +kernel
theorem dX4_finds_32 : decode cX4_finds 32 = .ok (.ifCond .ne 43, 3) := by decide +kernel
theorem dX4_finds_35 : decode cX4_finds 35 = .ok (.aload_n 0, 1) := by decide +kernel
theorem dX4_finds_36 : decode cX4_finds 36 = .ok (.aload_n 0, 1) := by decide +kernel
theorem dX4_finds_37 : decode cX4_finds 37 = .ok (.iload_n 1, 1) := by decide +kernel
theorem dX4_finds_38 : decode cX4_finds 38 = .ok (.aload_n 0, 1) := by decide +kernel
theorem dX4_finds_39 : decode cX4_finds 39 = .ok (.getfield 125, 3) := by decide +kernel
theorem dX4_finds_42 : decode cX4_finds 42 = .ok (.iload_n 3, 1) := by decide +kernel
theorem dX4_finds_43 : decode cX4_finds 43 = .ok (.iadd, 1) := by decide +kernel
theorem dX4_finds_44 : decode cX4_finds 44 = .ok (.iload_n 2, 1) := by decide +kernel
theorem dX4_finds_45 : decode cX4_finds 45 = .ok (.invokevirtual 131, 3) := by decide +kernel
theorem dX4_finds_48 : decode cX4_finds 48 = .ok (.putfield 128, 3) := by decide +kernel
theorem dX4_finds_51 : decode cX4_finds 51 = .ok (.aload_n 0, 1) := by decide +kernel
theorem dX4_finds_52 : decode cX4_finds 52 = .ok (.dup, 1) := by decide +kernel
theorem dX4_finds_53 : decode cX4_finds 53 = .ok (.getfield 125, 3) := by decide +kernel
theorem dX4_finds_56 : decode cX4_finds 56 = .ok (.aload_n 0, 1) := by decide +kernel
theorem dX4_finds_57 : decode cX4_finds 57 = .ok (.getfield 128, 3) := by decide +kernel
theorem dX4_finds_60 : decode cX4_finds 60 = .ok (.ifCond .ne 7, 3) := by decide +kernel
theorem dX4_finds_63 : decode cX4_finds 63 = .ok (.iload_n 3, 1) := by decide +kernel
theorem dX4_finds_64 : decode cX4_finds 64 = .ok (.goto 4, 3) := by decide +kernel
theorem dX4_finds_67 : decode cX4_finds 67 = .ok (.iconst 0, 1) := by decide +kernel
theorem dX4_finds_68 : decode cX4_finds 68 = .ok (.iadd, 1) := by decide +kernel
theorem dX4_finds_69 : decode cX4_finds 69 = .ok (.putfield 125, 3) := by decide +kernel
theorem dX4_finds_72 : decode cX4_finds 72 = .ok (.goto (-52), 3) := by decide +kernel
theorem dX4_finds_75 : decode cX4_finds 75 = .ok (.return_, 1) := by decide +kernel
set_option maxRecDepth 20000 in
theorem ggX4_would_X4_within : GoodIn wsX4_would wsX4_within := goodIn_r _ [7] (by decide +kernel) (by decide +kernel)
set_option maxRecDepth 20000 in
theorem gX4_would_X4_within : GoodIn wsX4_would (va_wsS RX4 66 yX4_within wsX4_within) := goodIn_app (goodIn_of _ (by decide +kernel)) ggX4_would_X4_within
set_option maxRecDepth 20000 in
theorem ggX4_would_X4_inHand : GoodIn wsX4_would wsX4_inHand := goodIn_r _ [11, 12, 13, 14, 15, 16, 17, 6, 18, 19, 69, 70, 71, 72, 73, 74, 75, 76, 77, 78, 79, 80, 81, 82, 83, 84, 85, 86, 87, 88, 89, 90, 91, 92, 93] (by decide +kernel) (by decide +kernel)
set_option maxRecDepth 20000 in
theorem gX4_would_X4_inHand : GoodIn wsX4_would (wsV RX4 92 RX4 yX4_inHand wsX4_inHand) := goodIn_app (goodIn_of _ (by decide +kernel)) ggX4_would_X4_inHand
set_option maxRecDepth 20000 in
theorem ggX4_would_X4_finds : GoodIn wsX4_would wsX4_finds := goodIn_r _ [23, 1, 3, 24, 25, 26, 6, 27, 28, 29, 30, 31, 32, 33, 34, 35, 36, 12, 15, 16, 17, 18, 19, 37, 38, 39, 40, 41, 42, 43, 44, 45, 46, 47, 48, 49, 50, 51, 52, 53, 54, 55, 56, 57, 58, 59, 60, 61, 62, 63, 64, 65, 66, 67, 68, 69, 70, 71, 72, 73, 74, 75, 76, 77, 78, 79, 80, 81, 82, 83, 84, 85, 86, 87, 88, 89, 90, 91, 92, 93] (by decide +kernel) (by decide +kernel)
set_option maxRecDepth 20000 in
theorem gX4_would_X4_finds : GoodIn wsX4_would (wsV RX4 135 RX4 yX4_finds wsX4_finds) := goodIn_app (goodIn_of _ (by decide +kernel)) ggX4_would_X4_finds
set_option maxRecDepth 20000 in
theorem ggX4_would_X4_ampsAt : GoodIn wsX4_would wsX4_ampsAt := goodIn_r _ [32, 33, 34, 35, 6, 36, 12, 15, 16, 17, 18, 19, 37, 38, 39, 40, 41, 42, 43, 44, 45, 46, 47, 48, 49, 50, 51, 52, 53, 54, 55, 56, 69, 70, 71, 72, 73, 74, 75, 76, 77, 78, 79, 80, 81, 82, 83, 84, 85, 86, 87, 88, 89, 90, 91, 92, 93] (by decide +kernel) (by decide +kernel)
set_option maxRecDepth 20000 in
theorem gX4_would_X4_ampsAt : GoodIn wsX4_would (wsV RX4 116 RX4 yX4_ampsAt wsX4_ampsAt) := goodIn_app (goodIn_of _ (by decide +kernel)) ggX4_would_X4_ampsAt
theorem dX4_would_0 : decode cX4_would 0 = .ok (.iload_n 1, 1) := by decide +kernel
theorem dX4_would_1 : decode cX4_would 1 = .ok (.sipush (-3000), 3) := by decide +kernel
theorem dX4_would_4 : decode cX4_would 4 = .ok (.sipush 3000, 3) := by decide +kernel
theorem dX4_would_7 : decode cX4_would 7 = .ok (.invokestatic 66, 3) := by decide +kernel
theorem dX4_would_10 : decode cX4_would 10 = .ok (.ifCond .eq 12, 3) := by decide +kernel
theorem dX4_would_13 : decode cX4_would 13 = .ok (.iload_n 2, 1) := by decide +kernel
theorem dX4_would_14 : decode cX4_would 14 = .ok (.iconst 0, 1) := by decide +kernel
theorem dX4_would_15 : decode cX4_would 15 = .ok (.iconst 2, 1) := by decide +kernel
theorem dX4_would_16 : decode cX4_would 16 = .ok (.invokestatic 66, 3) := by decide +kernel
theorem dX4_would_19 : decode cX4_would 19 = .ok (.ifCond .ne 6, 3) := by decide +kernel
theorem dX4_would_22 : decode cX4_would 22 = .ok (.bipush (-2), 2) := by decide +kernel
theorem dX4_would_24 : decode cX4_would 24 = .ok (.ireturn, 1) := by decide +kernel
theorem dX4_would_25 : decode cX4_would 25 = .ok (.aload_n 0, 1) := by decide +kernel
theorem dX4_would_26 : decode cX4_would 26 = .ok (.invokevirtual 92, 3) := by decide +kernel
theorem dX4_would_29 : decode cX4_would 29 = .ok (.istore_n 3, 1) := by decide +kernel
theorem dX4_would_30 : decode cX4_would 30 = .ok (.iload_n 3, 1) := by decide +kernel
theorem dX4_would_31 : decode cX4_would 31 = .ok (.bipush (-9), 2) := by decide +kernel
theorem dX4_would_33 : decode cX4_would 33 = .ok (.if_icmp .ne 6, 3) := by decide +kernel
theorem dX4_would_36 : decode cX4_would 36 = .ok (.bipush (-3), 2) := by decide +kernel
theorem dX4_would_38 : decode cX4_would 38 = .ok (.ireturn, 1) := by decide +kernel
theorem dX4_would_39 : decode cX4_would 39 = .ok (.aload_n 0, 1) := by decide +kernel
theorem dX4_would_40 : decode cX4_would 40 = .ok (.iload_n 3, 1) := by decide +kernel
theorem dX4_would_41 : decode cX4_would 41 = .ok (.iload_n 1, 1) := by decide +kernel
theorem dX4_would_42 : decode cX4_would 42 = .ok (.invokevirtual 135, 3) := by decide +kernel
theorem dX4_would_45 : decode cX4_would 45 = .ok (.iload_n 2, 1) := by decide +kernel
theorem dX4_would_46 : decode cX4_would 46 = .ok (.ifCond .ne 14, 3) := by decide +kernel
theorem dX4_would_49 : decode cX4_would 49 = .ok (.aload_n 0, 1) := by decide +kernel
theorem dX4_would_50 : decode cX4_would 50 = .ok (.getfield 125, 3) := by decide +kernel
theorem dX4_would_53 : decode cX4_would 53 = .ok (.sipush 10000, 3) := by decide +kernel
theorem dX4_would_56 : decode cX4_would 56 = .ok (.iadd, 1) := by decide +kernel
theorem dX4_would_57 : decode cX4_would 57 = .ok (.goto 27, 3) := by decide +kernel
theorem dX4_would_60 : decode cX4_would 60 = .ok (.iload_n 2, 1) := by decide +kernel
theorem dX4_would_61 : decode cX4_would 61 = .ok (.iconst 1, 1) := by decide +kernel
theorem dX4_would_62 : decode cX4_would 62 = .ok (.if_icmp .ne 18, 3) := by decide +kernel
theorem dX4_would_65 : decode cX4_would 65 = .ok (.aload_n 0, 1) := by decide +kernel
theorem dX4_would_66 : decode cX4_would 66 = .ok (.iload_n 3, 1) := by decide +kernel
theorem dX4_would_67 : decode cX4_would 67 = .ok (.aload_n 0, 1) := by decide +kernel
theorem dX4_would_68 : decode cX4_would 68 = .ok (.getfield 125, 3) := by decide +kernel
theorem dX4_would_71 : decode cX4_would 71 = .ok (.invokevirtual 116, 3) := by decide +kernel
theorem dX4_would_74 : decode cX4_would 74 = .ok (.ldc 112, 2) := by decide +kernel
theorem dX4_would_76 : decode cX4_would 76 = .ok (.iadd, 1) := by decide +kernel
theorem dX4_would_77 : decode cX4_would 77 = .ok (.goto 7, 3) := by decide +kernel
theorem dX4_would_80 : decode cX4_would 80 = .ok (.aload_n 0, 1) := by decide +kernel
theorem dX4_would_81 : decode cX4_would 81 = .ok (.getfield 128, 3) := by decide +kernel
theorem dX4_would_84 : decode cX4_would 84 = .ok (.ireturn, 1) := by decide +kernel
theorem dX4_cause_0 : decode cX4_cause 0 = .ok (.aload_n 0, 1) := by decide +kernel
theorem dX4_cause_1 : decode cX4_cause 1 = .ok (.getfield 60, 3) := by decide +kernel
theorem dX4_cause_4 : decode cX4_cause 4 = .ok (.aload_n 0, 1) := by decide +kernel
theorem dX4_cause_5 : decode cX4_cause 5 = .ok (.getfield 139, 3) := by decide +kernel
theorem dX4_cause_8 : decode cX4_cause 8 = .ok (.iload_n 1, 1) := by decide +kernel
theorem dX4_cause_9 : decode cX4_cause 9 = .ok (.iastore, 1) := by decide +kernel
theorem dX4_cause_10 : decode cX4_cause 10 = .ok (.aload_n 0, 1) := by decide +kernel
theorem dX4_cause_11 : decode cX4_cause 11 = .ok (.getfield 63, 3) := by decide +kernel
theorem dX4_cause_14 : decode cX4_cause 14 = .ok (.aload_n 0, 1) := by decide +kernel
theorem dX4_cause_15 : decode cX4_cause 15 = .ok (.getfield 139, 3) := by decide +kernel
theorem dX4_cause_18 : decode cX4_cause 18 = .ok (.iload_n 2, 1) := by decide +kernel
theorem dX4_cause_19 : decode cX4_cause 19 = .ok (.iastore, 1) := by decide +kernel
theorem dX4_cause_20 : decode cX4_cause 20 = .ok (.aload_n 0, 1) := by decide +kernel
theorem dX4_cause_21 : decode cX4_cause 21 = .ok (.dup, 1) := by decide +kernel
theorem dX4_cause_22 : decode cX4_cause 22 = .ok (.getfield 139, 3) := by decide +kernel
theorem dX4_cause_25 : decode cX4_cause 25 = .ok (.iconst 1, 1) := by decide +kernel
theorem dX4_cause_26 : decode cX4_cause 26 = .ok (.iadd, 1) := by decide +kernel
theorem dX4_cause_27 : decode cX4_cause 27 = .ok (.putfield 139, 3) := by decide +kernel
theorem dX4_cause_30 : decode cX4_cause 30 = .ok (.return_, 1) := by decide +kernel
set_option maxRecDepth 20000 in
theorem ggX4_pulses_X4_inHand : GoodIn wsX4_pulses wsX4_inHand := goodIn_r _ [15, 16, 17, 18, 19, 20, 21, 14, 22, 23, 76, 77, 78, 79, 80, 81, 82, 83, 84, 85, 86, 87, 88, 89, 90, 91, 92, 93, 94, 95, 96, 97, 98, 99, 100] (by decide +kernel) (by decide +kernel)
set_option maxRecDepth 20000 in
theorem gX4_pulses_X4_inHand : GoodIn wsX4_pulses (wsV RX4 92 RX4 yX4_inHand wsX4_inHand) := goodIn_app (goodIn_of _ (by decide +kernel)) ggX4_pulses_X4_inHand
set_option maxRecDepth 20000 in
theorem ggX4_pulses_X4_finds : GoodIn wsX4_pulses wsX4_finds := goodIn_r _ [27, 1, 10, 28, 29, 30, 14, 31, 32, 33, 34, 35, 36, 37, 38, 39, 40, 16, 19, 20, 21, 22, 23, 41, 42, 43, 44, 4, 45, 46, 47, 48, 49, 2, 3, 50, 51, 52, 53, 54, 55, 56, 57, 58, 59, 60, 61, 62, 63, 64, 65, 66, 67, 68, 69, 76, 77, 78, 79, 80, 81, 82, 83, 84, 85, 86, 87, 88, 89, 90, 91, 92, 93, 94, 95, 96, 97, 98, 99, 100] (by decide +kernel) (by decide +kernel)
set_option maxRecDepth 20000 in
theorem gX4_pulses_X4_finds : GoodIn wsX4_pulses (wsV RX4 135 RX4 yX4_finds wsX4_finds) := goodIn_app (goodIn_of _ (by decide +kernel)) ggX4_pulses_X4_finds
set_option maxRecDepth 20000 in
theorem ggX4_pulses_X4_isForward : GoodIn wsX4_pulses wsX4_isForward := goodIn_r _ [40, 16, 19, 20, 21, 14, 22, 23, 76, 77, 78, 79, 80, 81, 82, 83, 84, 85, 86, 87, 88, 89, 90, 91, 92, 93, 94, 95, 96, 97, 98, 99, 100] (by decide +kernel) (by decide +kernel)
set_option maxRecDepth 20000 in
theorem gX4_pulses_X4_isForward : GoodIn wsX4_pulses (wsV RX4 113 RX4 yX4_isForward wsX4_isForward) := goodIn_app (goodIn_of _ (by decide +kernel)) ggX4_pulses_X4_isForward
set_option maxRecDepth 20000 in
theorem ggX4_pulses_X4_number : GoodIn wsX4_pulses wsX4_number := goodIn_r _ [53, 54, 76, 77, 78, 79, 80, 81, 82, 83, 84, 85, 86, 87, 88, 89, 90, 91, 92, 93, 94, 95, 96, 97, 98, 99, 100] (by decide +kernel) (by decide +kernel)
set_option maxRecDepth 20000 in
theorem gX4_pulses_X4_number : GoodIn wsX4_pulses (wsV RX4 81 RX4 yX4_number wsX4_number) := goodIn_app (goodIn_of _ (by decide +kernel)) ggX4_pulses_X4_number
set_option maxRecDepth 20000 in
theorem ggX4_pulses_X4_ampsAt : GoodIn wsX4_pulses wsX4_ampsAt := goodIn_r _ [36, 37, 38, 39, 14, 40, 16, 19, 20, 21, 22, 23, 41, 42, 43, 44, 4, 45, 46, 47, 48, 49, 2, 3, 50, 51, 52, 53, 54, 55, 56, 57, 76, 77, 78, 79, 80, 81, 82, 83, 84, 85, 86, 87, 88, 89, 90, 91, 92, 93, 94, 95, 96, 97, 98, 99, 100] (by decide +kernel) (by decide +kernel)
set_option maxRecDepth 20000 in
theorem gX4_pulses_X4_ampsAt : GoodIn wsX4_pulses (wsV RX4 116 RX4 yX4_ampsAt wsX4_ampsAt) := goodIn_app (goodIn_of _ (by decide +kernel)) ggX4_pulses_X4_ampsAt
set_option maxRecDepth 20000 in
theorem ggX4_pulses_X4_isFourWires : GoodIn wsX4_pulses wsX4_isFourWires := goodIn_r _ [64, 19, 20, 21, 14, 22, 23, 76, 77, 78, 79, 80, 81, 82, 83, 84, 85, 86, 87, 88, 89, 90, 91, 92, 93, 94, 95, 96, 97, 98, 99, 100] (by decide +kernel) (by decide +kernel)
set_option maxRecDepth 20000 in
theorem gX4_pulses_X4_isFourWires : GoodIn wsX4_pulses (wsV RX4 99 RX4 yX4_isFourWires wsX4_isFourWires) := goodIn_app (goodIn_of _ (by decide +kernel)) ggX4_pulses_X4_isFourWires
set_option maxRecDepth 20000 in
theorem ggX4_pulses_X4_dropBy : GoodIn wsX4_pulses wsX4_dropBy := goodIn_r _ [68, 69, 55, 56, 14, 57, 76, 77, 78, 79, 80, 81, 82, 83, 84, 85, 86, 87, 88, 89, 90, 91, 92, 93, 94, 95, 96, 97, 98, 99, 100] (by decide +kernel) (by decide +kernel)
set_option maxRecDepth 20000 in
theorem gX4_pulses_X4_dropBy : GoodIn wsX4_pulses (wsV RX4 122 RX4 yX4_dropBy wsX4_dropBy) := goodIn_app (goodIn_of _ (by decide +kernel)) ggX4_pulses_X4_dropBy
set_option maxRecDepth 20000 in
theorem ggX4_pulses_X4_heats : GoodIn wsX4_pulses wsX4_heats := goodIn_r _ [73, 1, 74, 45, 4, 75, 58, 59, 14, 60, 76, 77, 78, 79, 80, 81, 82, 83, 84, 85, 86, 87, 88, 89, 90, 91, 92, 93, 94, 95, 96, 97, 98, 99, 100] (by decide +kernel) (by decide +kernel)
set_option maxRecDepth 20000 in
theorem gX4_pulses_X4_heats : GoodIn wsX4_pulses (wsV RX4 145 RX4 yX4_heats wsX4_heats) := goodIn_app (goodIn_of _ (by decide +kernel)) ggX4_pulses_X4_heats
theorem dX4_pulses_0 : decode cX4_pulses 0 = .ok (.aload_n 0, 1) := by decide +kernel
theorem dX4_pulses_1 : decode cX4_pulses 1 = .ok (.invokevirtual 92, 3) := by decide +kernel
theorem dX4_pulses_4 : decode cX4_pulses 4 = .ok (.istore_n 3, 1) := by decide +kernel
theorem dX4_pulses_5 : decode cX4_pulses 5 = .ok (.aload_n 0, 1) := by decide +kernel
theorem dX4_pulses_6 : decode cX4_pulses 6 = .ok (.iload_n 3, 1) := by decide +kernel
theorem dX4_pulses_7 : decode cX4_pulses 7 = .ok (.iload_n 1, 1) := by decide +kernel
theorem dX4_pulses_8 : decode cX4_pulses 8 = .ok (.invokevirtual 135, 3) := by decide +kernel
theorem dX4_pulses_11 : decode cX4_pulses 11 = .ok (.aload_n 0, 1) := by decide +kernel
theorem dX4_pulses_12 : decode cX4_pulses 12 = .ok (.iload_n 3, 1) := by decide +kernel
theorem dX4_pulses_13 : decode cX4_pulses 13 = .ok (.invokevirtual 113, 3) := by decide +kernel
theorem dX4_pulses_16 : decode cX4_pulses 16 = .ok (.ifCond .eq 10, 3) := by decide +kernel
theorem dX4_pulses_19 : decode cX4_pulses 19 = .ok (.aload_n 0, 1) := by decide +kernel
theorem dX4_pulses_20 : decode cX4_pulses 20 = .ok (.getfield 125, 3) := by decide +kernel
theorem dX4_pulses_23 : decode cX4_pulses 23 = .ok (.goto 8, 3) := by decide +kernel
theorem dX4_pulses_26 : decode cX4_pulses 26 = .ok (.aload_n 0, 1) := by decide +kernel
theorem dX4_pulses_27 : decode cX4_pulses 27 = .ok (.getfield 125, 3) := by decide +kernel
theorem dX4_pulses_30 : decode cX4_pulses 30 = .ok (.ineg, 1) := by decide +kernel
theorem dX4_pulses_31 : decode cX4_pulses 31 = .ok (.istore 4, 2) := by decide +kernel
theorem dX4_pulses_33 : decode cX4_pulses 33 = .ok (.aload_n 0, 1) := by decide +kernel
theorem dX4_pulses_34 : decode cX4_pulses 34 = .ok (.getfield 20, 3) := by decide +kernel
theorem dX4_pulses_37 : decode cX4_pulses 37 = .ok (.iload_n 3, 1) := by decide +kernel
theorem dX4_pulses_38 : decode cX4_pulses 38 = .ok (.iaload, 1) := by decide +kernel
theorem dX4_pulses_39 : decode cX4_pulses 39 = .ok (.iconst 3, 1) := by decide +kernel
theorem dX4_pulses_40 : decode cX4_pulses 40 = .ok (.if_icmp .ne 45, 3) := by decide +kernel
theorem dX4_pulses_43 : decode cX4_pulses 43 = .ok (.aload_n 0, 1) := by decide +kernel
theorem dX4_pulses_44 : decode cX4_pulses 44 = .ok (.getfield 38, 3) := by decide +kernel
theorem dX4_pulses_47 : decode cX4_pulses 47 = .ok (.iload_n 3, 1) := by decide +kernel
theorem dX4_pulses_48 : decode cX4_pulses 48 = .ok (.baload, 1) := by decide +kernel
theorem dX4_pulses_49 : decode cX4_pulses 49 = .ok (.ifCond .ne 36, 3) := by decide +kernel
theorem dX4_pulses_52 : decode cX4_pulses 52 = .ok (.aload_n 0, 1) := by decide +kernel
theorem dX4_pulses_53 : decode cX4_pulses 53 = .ok (.getfield 35, 3) := by decide +kernel
theorem dX4_pulses_56 : decode cX4_pulses 56 = .ok (.iload_n 3, 1) := by decide +kernel
theorem dX4_pulses_57 : decode cX4_pulses 57 = .ok (.baload, 1) := by decide +kernel
theorem dX4_pulses_58 : decode cX4_pulses 58 = .ok (.ifCond .ne 27, 3) := by decide +kernel
theorem dX4_pulses_61 : decode cX4_pulses 61 = .ok (.iload 4, 2) := by decide +kernel
theorem dX4_pulses_63 : decode cX4_pulses 63 = .ok (.aload_n 0, 1) := by decide +kernel
theorem dX4_pulses_64 : decode cX4_pulses 64 = .ok (.iload_n 3, 1) := by decide +kernel
theorem dX4_pulses_65 : decode cX4_pulses 65 = .ok (.iconst 1, 1) := by decide +kernel
theorem dX4_pulses_66 : decode cX4_pulses 66 = .ok (.invokevirtual 81, 3) := by decide +kernel
theorem dX4_pulses_69 : decode cX4_pulses 69 = .ok (.if_icmp .lt 16, 3) := by decide +kernel
theorem dX4_pulses_72 : decode cX4_pulses 72 = .ok (.aload_n 0, 1) := by decide +kernel
theorem dX4_pulses_73 : decode cX4_pulses 73 = .ok (.getfield 38, 3) := by decide +kernel
theorem dX4_pulses_76 : decode cX4_pulses 76 = .ok (.iload_n 3, 1) := by decide +kernel
theorem dX4_pulses_77 : decode cX4_pulses 77 = .ok (.iconst 1, 1) := by decide +kernel
theorem dX4_pulses_78 : decode cX4_pulses 78 = .ok (.bastore, 1) := by decide +kernel
theorem dX4_pulses_79 : decode cX4_pulses 79 = .ok (.aload_n 0, 1) := by decide +kernel
theorem dX4_pulses_80 : decode cX4_pulses 80 = .ok (.iload_n 3, 1) := by decide +kernel
theorem dX4_pulses_81 : decode cX4_pulses 81 = .ok (.iload_n 1, 1) := by decide +kernel
theorem dX4_pulses_82 : decode cX4_pulses 82 = .ok (.invokevirtual 135, 3) := by decide +kernel
theorem dX4_pulses_85 : decode cX4_pulses 85 = .ok (.aload_n 0, 1) := by decide +kernel
theorem dX4_pulses_86 : decode cX4_pulses 86 = .ok (.iload_n 3, 1) := by decide +kernel
theorem dX4_pulses_87 : decode cX4_pulses 87 = .ok (.aload_n 0, 1) := by decide +kernel
theorem dX4_pulses_88 : decode cX4_pulses 88 = .ok (.getfield 125, 3) := by decide +kernel
theorem dX4_pulses_91 : decode cX4_pulses 91 = .ok (.invokevirtual 116, 3) := by decide +kernel
theorem dX4_pulses_94 : decode cX4_pulses 94 = .ok (.istore 5, 2) := by decide +kernel
theorem dX4_pulses_96 : decode cX4_pulses 96 = .ok (.aload_n 0, 1) := by decide +kernel
theorem dX4_pulses_97 : decode cX4_pulses 97 = .ok (.getfield 48, 3) := by decide +kernel
theorem dX4_pulses_100 : decode cX4_pulses 100 = .ok (.aload_n 0, 1) := by decide +kernel
theorem dX4_pulses_101 : decode cX4_pulses 101 = .ok (.getfield 142, 3) := by decide +kernel
theorem dX4_pulses_104 : decode cX4_pulses 104 = .ok (.iload_n 1, 1) := by decide +kernel
theorem dX4_pulses_105 : decode cX4_pulses 105 = .ok (.iastore, 1) := by decide +kernel
theorem dX4_pulses_106 : decode cX4_pulses 106 = .ok (.aload_n 0, 1) := by decide +kernel
theorem dX4_pulses_107 : decode cX4_pulses 107 = .ok (.getfield 51, 3) := by decide +kernel
theorem dX4_pulses_110 : decode cX4_pulses 110 = .ok (.aload_n 0, 1) := by decide +kernel
theorem dX4_pulses_111 : decode cX4_pulses 111 = .ok (.getfield 142, 3) := by decide +kernel
theorem dX4_pulses_114 : decode cX4_pulses 114 = .ok (.aload_n 0, 1) := by decide +kernel
theorem dX4_pulses_115 : decode cX4_pulses 115 = .ok (.invokevirtual 99, 3) := by decide +kernel
theorem dX4_pulses_118 : decode cX4_pulses 118 = .ok (.ifCond .eq 10, 3) := by decide +kernel
theorem dX4_pulses_121 : decode cX4_pulses 121 = .ok (.aload_n 0, 1) := by decide +kernel
theorem dX4_pulses_122 : decode cX4_pulses 122 = .ok (.getfield 125, 3) := by decide +kernel
theorem dX4_pulses_125 : decode cX4_pulses 125 = .ok (.goto 14, 3) := by decide +kernel
theorem dX4_pulses_128 : decode cX4_pulses 128 = .ok (.aload_n 0, 1) := by decide +kernel
theorem dX4_pulses_129 : decode cX4_pulses 129 = .ok (.getfield 125, 3) := by decide +kernel
theorem dX4_pulses_132 : decode cX4_pulses 132 = .ok (.aload_n 0, 1) := by decide +kernel
theorem dX4_pulses_133 : decode cX4_pulses 133 = .ok (.iload 5, 2) := by decide +kernel
theorem dX4_pulses_135 : decode cX4_pulses 135 = .ok (.invokevirtual 122, 3) := by decide +kernel
theorem dX4_pulses_138 : decode cX4_pulses 138 = .ok (.iadd, 1) := by decide +kernel
theorem dX4_pulses_139 : decode cX4_pulses 139 = .ok (.iastore, 1) := by decide +kernel
theorem dX4_pulses_140 : decode cX4_pulses 140 = .ok (.aload_n 0, 1) := by decide +kernel
theorem dX4_pulses_141 : decode cX4_pulses 141 = .ok (.getfield 54, 3) := by decide +kernel
theorem dX4_pulses_144 : decode cX4_pulses 144 = .ok (.aload_n 0, 1) := by decide +kernel
theorem dX4_pulses_145 : decode cX4_pulses 145 = .ok (.getfield 142, 3) := by decide +kernel
theorem dX4_pulses_148 : decode cX4_pulses 148 = .ok (.iload 5, 2) := by decide +kernel
theorem dX4_pulses_150 : decode cX4_pulses 150 = .ok (.iastore, 1) := by decide +kernel
theorem dX4_pulses_151 : decode cX4_pulses 151 = .ok (.aload_n 0, 1) := by decide +kernel
theorem dX4_pulses_152 : decode cX4_pulses 152 = .ok (.getfield 57, 3) := by decide +kernel
theorem dX4_pulses_155 : decode cX4_pulses 155 = .ok (.aload_n 0, 1) := by decide +kernel
theorem dX4_pulses_156 : decode cX4_pulses 156 = .ok (.getfield 142, 3) := by decide +kernel
theorem dX4_pulses_159 : decode cX4_pulses 159 = .ok (.aload_n 0, 1) := by decide +kernel
theorem dX4_pulses_160 : decode cX4_pulses 160 = .ok (.getfield 128, 3) := by decide +kernel
theorem dX4_pulses_163 : decode cX4_pulses 163 = .ok (.iastore, 1) := by decide +kernel
theorem dX4_pulses_164 : decode cX4_pulses 164 = .ok (.aload_n 0, 1) := by decide +kernel
theorem dX4_pulses_165 : decode cX4_pulses 165 = .ok (.dup, 1) := by decide +kernel
theorem dX4_pulses_166 : decode cX4_pulses 166 = .ok (.getfield 142, 3) := by decide +kernel
theorem dX4_pulses_169 : decode cX4_pulses 169 = .ok (.iconst 1, 1) := by decide +kernel
theorem dX4_pulses_170 : decode cX4_pulses 170 = .ok (.iadd, 1) := by decide +kernel
theorem dX4_pulses_171 : decode cX4_pulses 171 = .ok (.putfield 142, 3) := by decide +kernel
theorem dX4_pulses_174 : decode cX4_pulses 174 = .ok (.aload_n 0, 1) := by decide +kernel
theorem dX4_pulses_175 : decode cX4_pulses 175 = .ok (.iload_n 3, 1) := by decide +kernel
theorem dX4_pulses_176 : decode cX4_pulses 176 = .ok (.iload 5, 2) := by decide +kernel
theorem dX4_pulses_178 : decode cX4_pulses 178 = .ok (.iload_n 2, 1) := by decide +kernel
theorem dX4_pulses_179 : decode cX4_pulses 179 = .ok (.invokevirtual 145, 3) := by decide +kernel
theorem dX4_pulses_182 : decode cX4_pulses 182 = .ok (.aload_n 0, 1) := by decide +kernel
theorem dX4_pulses_183 : decode cX4_pulses 183 = .ok (.iload_n 3, 1) := by decide +kernel
theorem dX4_pulses_184 : decode cX4_pulses 184 = .ok (.invokevirtual 113, 3) := by decide +kernel
theorem dX4_pulses_187 : decode cX4_pulses 187 = .ok (.ifCond .eq 8, 3) := by decide +kernel
theorem dX4_pulses_190 : decode cX4_pulses 190 = .ok (.iload 5, 2) := by decide +kernel
theorem dX4_pulses_192 : decode cX4_pulses 192 = .ok (.goto 6, 3) := by decide +kernel
theorem dX4_pulses_195 : decode cX4_pulses 195 = .ok (.iload 5, 2) := by decide +kernel
theorem dX4_pulses_197 : decode cX4_pulses 197 = .ok (.ineg, 1) := by decide +kernel
theorem dX4_pulses_198 : decode cX4_pulses 198 = .ok (.istore 6, 2) := by decide +kernel
theorem dX4_pulses_200 : decode cX4_pulses 200 = .ok (.aload_n 0, 1) := by decide +kernel
theorem dX4_pulses_201 : decode cX4_pulses 201 = .ok (.getfield 20, 3) := by decide +kernel
theorem dX4_pulses_204 : decode cX4_pulses 204 = .ok (.iload_n 3, 1) := by decide +kernel
theorem dX4_pulses_205 : decode cX4_pulses 205 = .ok (.iaload, 1) := by decide +kernel
theorem dX4_pulses_206 : decode cX4_pulses 206 = .ok (.iconst 3, 1) := by decide +kernel
theorem dX4_pulses_207 : decode cX4_pulses 207 = .ok (.if_icmp .ne 30, 3) := by decide +kernel
theorem dX4_pulses_210 : decode cX4_pulses 210 = .ok (.aload_n 0, 1) := by decide +kernel
theorem dX4_pulses_211 : decode cX4_pulses 211 = .ok (.getfield 38, 3) := by decide +kernel
theorem dX4_pulses_214 : decode cX4_pulses 214 = .ok (.iload_n 3, 1) := by decide +kernel
theorem dX4_pulses_215 : decode cX4_pulses 215 = .ok (.baload, 1) := by decide +kernel
theorem dX4_pulses_216 : decode cX4_pulses 216 = .ok (.ifCond .eq 21, 3) := by decide +kernel
theorem dX4_pulses_219 : decode cX4_pulses 219 = .ok (.iload 6, 2) := by decide +kernel
theorem dX4_pulses_221 : decode cX4_pulses 221 = .ok (.aload_n 0, 1) := by decide +kernel
theorem dX4_pulses_222 : decode cX4_pulses 222 = .ok (.iload_n 3, 1) := by decide +kernel
theorem dX4_pulses_223 : decode cX4_pulses 223 = .ok (.iconst 3, 1) := by decide +kernel
theorem dX4_pulses_224 : decode cX4_pulses 224 = .ok (.invokevirtual 81, 3) := by decide +kernel
theorem dX4_pulses_227 : decode cX4_pulses 227 = .ok (.if_icmp .ge 10, 3) := by decide +kernel
theorem dX4_pulses_230 : decode cX4_pulses 230 = .ok (.aload_n 0, 1) := by decide +kernel
theorem dX4_pulses_231 : decode cX4_pulses 231 = .ok (.getfield 38, 3) := by decide +kernel
theorem dX4_pulses_234 : decode cX4_pulses 234 = .ok (.iload_n 3, 1) := by decide +kernel
theorem dX4_pulses_235 : decode cX4_pulses 235 = .ok (.iconst 0, 1) := by decide +kernel
theorem dX4_pulses_236 : decode cX4_pulses 236 = .ok (.bastore, 1) := by decide +kernel
theorem dX4_pulses_237 : decode cX4_pulses 237 = .ok (.return_, 1) := by decide +kernel
set_option maxRecDepth 20000 in
theorem ggX4_heats_X4_size : GoodIn wsX4_heats wsX4_size := goodIn_r _ [9] (by decide +kernel) (by decide +kernel)
set_option maxRecDepth 20000 in
theorem gX4_heats_X4_size : GoodIn wsX4_heats (va_wsS RX4 119 yX4_size wsX4_size) := goodIn_app (goodIn_of _ (by decide +kernel)) ggX4_heats_X4_size
theorem dX4_heats_0 : decode cX4_heats 0 = .ok (.aload_n 0, 1) := by decide +kernel
theorem dX4_heats_1 : decode cX4_heats 1 = .ok (.getfield 125, 3) := by decide +kernel
theorem dX4_heats_4 : decode cX4_heats 4 = .ok (.invokestatic 119, 3) := by decide +kernel
theorem dX4_heats_7 : decode cX4_heats 7 = .ok (.i2l, 1) := by decide +kernel
theorem dX4_heats_8 : decode cX4_heats 8 = .ok (.iload_n 2, 1) := by decide +kernel
theorem dX4_heats_9 : decode cX4_heats 9 = .ok (.invokestatic 119, 3) := by decide +kernel
theorem dX4_heats_12 : decode cX4_heats 12 = .ok (.i2l, 1) := by decide +kernel
theorem dX4_heats_13 : decode cX4_heats 13 = .ok (.lmul, 1) := by decide +kernel
theorem dX4_heats_14 : decode cX4_heats 14 = .ok (.iload_n 3, 1) := by decide +kernel
theorem dX4_heats_15 : decode cX4_heats 15 = .ok (.i2l, 1) := by decide +kernel
theorem dX4_heats_16 : decode cX4_heats 16 = .ok (.lmul, 1) := by decide +kernel
theorem dX4_heats_17 : decode cX4_heats 17 = .ok (.ldc2_w 149, 3) := by decide +kernel
theorem dX4_heats_20 : decode cX4_heats 20 = .ok (.ldiv, 1) := by decide +kernel
theorem dX4_heats_21 : decode cX4_heats 21 = .ok (.lstore 4, 2) := by decide +kernel
theorem dX4_heats_23 : decode cX4_heats 23 = .ok (.aload_n 0, 1) := by decide +kernel
theorem dX4_heats_24 : decode cX4_heats 24 = .ok (.getfield 32, 3) := by decide +kernel
theorem dX4_heats_27 : decode cX4_heats 27 = .ok (.iload_n 1, 1) := by decide +kernel
theorem dX4_heats_28 : decode cX4_heats 28 = .ok (.iaload, 1) := by decide +kernel
theorem dX4_heats_29 : decode cX4_heats 29 = .ok (.lload 4, 2) := by decide +kernel
theorem dX4_heats_31 : decode cX4_heats 31 = .ok (.l2i, 1) := by decide +kernel
theorem dX4_heats_32 : decode cX4_heats 32 = .ok (.iadd, 1) := by decide +kernel
theorem dX4_heats_33 : decode cX4_heats 33 = .ok (.istore 6, 2) := by decide +kernel
theorem dX4_heats_35 : decode cX4_heats 35 = .ok (.aload_n 0, 1) := by decide +kernel
theorem dX4_heats_36 : decode cX4_heats 36 = .ok (.iload 6, 2) := by decide +kernel
theorem dX4_heats_38 : decode cX4_heats 38 = .ok (.sipush 1000, 3) := by decide +kernel
theorem dX4_heats_41 : decode cX4_heats 41 = .ok (.if_icmp .lt 21, 3) := by decide +kernel
theorem dX4_heats_44 : decode cX4_heats 44 = .ok (.aload_n 0, 1) := by decide +kernel
theorem dX4_heats_45 : decode cX4_heats 45 = .ok (.getfield 35, 3) := by decide +kernel
theorem dX4_heats_48 : decode cX4_heats 48 = .ok (.iload_n 1, 1) := by decide +kernel
theorem dX4_heats_49 : decode cX4_heats 49 = .ok (.baload, 1) := by decide +kernel
theorem dX4_heats_50 : decode cX4_heats 50 = .ok (.ifCond .ne 12, 3) := by decide +kernel
theorem dX4_heats_53 : decode cX4_heats 53 = .ok (.iload 6, 2) := by decide +kernel
theorem dX4_heats_55 : decode cX4_heats 55 = .ok (.sipush 999, 3) := by decide +kernel
theorem dX4_heats_58 : decode cX4_heats 58 = .ok (.isub, 1) := by decide +kernel
theorem dX4_heats_59 : decode cX4_heats 59 = .ok (.goto 5, 3) := by decide +kernel
theorem dX4_heats_62 : decode cX4_heats 62 = .ok (.bipush (-9), 2) := by decide +kernel
theorem dX4_heats_64 : decode cX4_heats 64 = .ok (.putfield 151, 3) := by decide +kernel
theorem dX4_heats_67 : decode cX4_heats 67 = .ok (.aload_n 0, 1) := by decide +kernel
theorem dX4_heats_68 : decode cX4_heats 68 = .ok (.getfield 35, 3) := by decide +kernel
theorem dX4_heats_71 : decode cX4_heats 71 = .ok (.iload_n 1, 1) := by decide +kernel
theorem dX4_heats_72 : decode cX4_heats 72 = .ok (.aload_n 0, 1) := by decide +kernel
theorem dX4_heats_73 : decode cX4_heats 73 = .ok (.getfield 35, 3) := by decide +kernel
theorem dX4_heats_76 : decode cX4_heats 76 = .ok (.iload_n 1, 1) := by decide +kernel
theorem dX4_heats_77 : decode cX4_heats 77 = .ok (.baload, 1) := by decide +kernel
theorem dX4_heats_78 : decode cX4_heats 78 = .ok (.ifCond .ne 11, 3) := by decide +kernel
theorem dX4_heats_81 : decode cX4_heats 81 = .ok (.iload 6, 2) := by decide +kernel
theorem dX4_heats_83 : decode cX4_heats 83 = .ok (.sipush 1000, 3) := by decide +kernel
theorem dX4_heats_86 : decode cX4_heats 86 = .ok (.if_icmp .lt 7, 3) := by decide +kernel
theorem dX4_heats_89 : decode cX4_heats 89 = .ok (.iconst 1, 1) := by decide +kernel
theorem dX4_heats_90 : decode cX4_heats 90 = .ok (.goto 4, 3) := by decide +kernel
theorem dX4_heats_93 : decode cX4_heats 93 = .ok (.iconst 0, 1) := by decide +kernel
theorem dX4_heats_94 : decode cX4_heats 94 = .ok (.bastore, 1) := by decide +kernel
theorem dX4_heats_95 : decode cX4_heats 95 = .ok (.aload_n 0, 1) := by decide +kernel
theorem dX4_heats_96 : decode cX4_heats 96 = .ok (.getfield 32, 3) := by decide +kernel
theorem dX4_heats_99 : decode cX4_heats 99 = .ok (.iload_n 1, 1) := by decide +kernel
theorem dX4_heats_100 : decode cX4_heats 100 = .ok (.iload 6, 2) := by decide +kernel
theorem dX4_heats_102 : decode cX4_heats 102 = .ok (.sipush 1000, 3) := by decide +kernel
theorem dX4_heats_105 : decode cX4_heats 105 = .ok (.if_icmp .lt 9, 3) := by decide +kernel
theorem dX4_heats_108 : decode cX4_heats 108 = .ok (.sipush 1000, 3) := by decide +kernel
theorem dX4_heats_111 : decode cX4_heats 111 = .ok (.goto 5, 3) := by decide +kernel
theorem dX4_heats_114 : decode cX4_heats 114 = .ok (.iload 6, 2) := by decide +kernel
theorem dX4_heats_116 : decode cX4_heats 116 = .ok (.iastore, 1) := by decide +kernel
theorem dX4_heats_117 : decode cX4_heats 117 = .ok (.return_, 1) := by decide +kernel
set_option maxRecDepth 20000 in
theorem ggX4_pulse_X4_within : GoodIn wsX4_pulse wsX4_within := goodIn_r _ [8] (by decide +kernel) (by decide +kernel)
set_option maxRecDepth 20000 in
theorem gX4_pulse_X4_within : GoodIn wsX4_pulse (va_wsS RX4 66 yX4_within wsX4_within) := goodIn_app (goodIn_of _ (by decide +kernel)) ggX4_pulse_X4_within
set_option maxRecDepth 20000 in
theorem ggX4_pulse_X4_pulses : GoodIn wsX4_pulse wsX4_pulses := goodIn_r _ [12, 13, 14, 15, 16, 17, 2, 18, 19, 20, 21, 22, 23, 24, 7, 25, 26, 27, 28, 29, 30, 31, 32, 33, 34, 35, 36, 37, 38, 39, 40, 41, 42, 43, 44, 45, 46, 47, 48, 49, 50, 51, 52, 53, 54, 55, 56, 57, 58, 59, 60, 61, 62, 63, 64, 65, 66, 67, 68, 69, 70, 71, 72, 73, 74, 75, 76, 77, 78, 79, 80, 81, 82, 83, 84, 4, 91, 92, 93, 94, 95, 96, 97, 98, 99, 100, 101, 102, 103, 104, 105, 106, 107, 108, 109, 110, 111, 112, 113, 114, 115] (by decide +kernel) (by decide +kernel)
set_option maxRecDepth 20000 in
theorem gX4_pulse_X4_pulses : GoodIn wsX4_pulse (wsV RX4 154 RX4 yX4_pulses wsX4_pulses) := goodIn_app (goodIn_of _ (by decide +kernel)) ggX4_pulse_X4_pulses
set_option maxRecDepth 20000 in
theorem ggX4_pulse_X4_inHand : GoodIn wsX4_pulse wsX4_inHand := goodIn_r _ [25, 26, 27, 28, 29, 30, 31, 7, 32, 33, 91, 92, 93, 94, 95, 96, 97, 98, 99, 100, 101, 102, 103, 104, 105, 106, 107, 108, 109, 110, 111, 112, 113, 114, 115] (by decide +kernel) (by decide +kernel)
set_option maxRecDepth 20000 in
theorem gX4_pulse_X4_inHand : GoodIn wsX4_pulse (wsV RX4 92 RX4 yX4_inHand wsX4_inHand) := goodIn_app (goodIn_of _ (by decide +kernel)) ggX4_pulse_X4_inHand
set_option maxRecDepth 20000 in
theorem ggX4_pulse_X4_cause : GoodIn wsX4_pulse wsX4_cause := goodIn_r _ [88, 89, 3, 90, 91, 92, 93, 94, 95, 96, 97, 98, 99, 100, 101, 102, 103, 104, 105, 106, 107, 108, 109, 110, 111, 112, 113, 114, 115] (by decide +kernel) (by decide +kernel)
set_option maxRecDepth 20000 in
theorem gX4_pulse_X4_cause : GoodIn wsX4_pulse (wsV RX4 157 RX4 yX4_cause wsX4_cause) := goodIn_app (goodIn_of _ (by decide +kernel)) ggX4_pulse_X4_cause
theorem dX4_pulse_0 : decode cX4_pulse 0 = .ok (.iload_n 1, 1) := by decide +kernel
theorem dX4_pulse_1 : decode cX4_pulse 1 = .ok (.sipush (-3000), 3) := by decide +kernel
theorem dX4_pulse_4 : decode cX4_pulse 4 = .ok (.sipush 3000, 3) := by decide +kernel
theorem dX4_pulse_7 : decode cX4_pulse 7 = .ok (.invokestatic 66, 3) := by decide +kernel
theorem dX4_pulse_10 : decode cX4_pulse 10 = .ok (.ifCond .eq 13, 3) := by decide +kernel
theorem dX4_pulse_13 : decode cX4_pulse 13 = .ok (.iload_n 2, 1) := by decide +kernel
theorem dX4_pulse_14 : decode cX4_pulse 14 = .ok (.iconst 1, 1) := by decide +kernel
theorem dX4_pulse_15 : decode cX4_pulse 15 = .ok (.bipush 50, 2) := by decide +kernel
theorem dX4_pulse_17 : decode cX4_pulse 17 = .ok (.invokestatic 66, 3) := by decide +kernel
theorem dX4_pulse_20 : decode cX4_pulse 20 = .ok (.ifCond .ne 6, 3) := by decide +kernel
theorem dX4_pulse_23 : decode cX4_pulse 23 = .ok (.bipush (-2), 2) := by decide +kernel
theorem dX4_pulse_25 : decode cX4_pulse 25 = .ok (.ireturn, 1) := by decide +kernel
theorem dX4_pulse_26 : decode cX4_pulse 26 = .ok (.aload_n 0, 1) := by decide +kernel
theorem dX4_pulse_27 : decode cX4_pulse 27 = .ok (.getfield 74, 3) := by decide +kernel
theorem dX4_pulse_30 : decode cX4_pulse 30 = .ok (.ifCond .ne 6, 3) := by decide +kernel
theorem dX4_pulse_33 : decode cX4_pulse 33 = .ok (.bipush (-3), 2) := by decide +kernel
theorem dX4_pulse_35 : decode cX4_pulse 35 = .ok (.ireturn, 1) := by decide +kernel
theorem dX4_pulse_36 : decode cX4_pulse 36 = .ok (.aload_n 0, 1) := by decide +kernel
theorem dX4_pulse_37 : decode cX4_pulse 37 = .ok (.getfield 142, 3) := by decide +kernel
theorem dX4_pulse_40 : decode cX4_pulse 40 = .ok (.bipush 60, 2) := by decide +kernel
theorem dX4_pulse_42 : decode cX4_pulse 42 = .ok (.if_icmp .ne 6, 3) := by decide +kernel
theorem dX4_pulse_45 : decode cX4_pulse 45 = .ok (.bipush (-4), 2) := by decide +kernel
theorem dX4_pulse_47 : decode cX4_pulse 47 = .ok (.ireturn, 1) := by decide +kernel
theorem dX4_pulse_48 : decode cX4_pulse 48 = .ok (.aload_n 0, 1) := by decide +kernel
theorem dX4_pulse_49 : decode cX4_pulse 49 = .ok (.iconst 0, 1) := by decide +kernel
theorem dX4_pulse_50 : decode cX4_pulse 50 = .ok (.putfield 139, 3) := by decide +kernel
theorem dX4_pulse_53 : decode cX4_pulse 53 = .ok (.aload_n 0, 1) := by decide +kernel
theorem dX4_pulse_54 : decode cX4_pulse 54 = .ok (.iload_n 1, 1) := by decide +kernel
theorem dX4_pulse_55 : decode cX4_pulse 55 = .ok (.iload_n 2, 1) := by decide +kernel
theorem dX4_pulse_56 : decode cX4_pulse 56 = .ok (.invokevirtual 154, 3) := by decide +kernel
theorem dX4_pulse_59 : decode cX4_pulse 59 = .ok (.aload_n 0, 1) := by decide +kernel
theorem dX4_pulse_60 : decode cX4_pulse 60 = .ok (.getfield 151, 3) := by decide +kernel
theorem dX4_pulse_63 : decode cX4_pulse 63 = .ok (.bipush (-9), 2) := by decide +kernel
theorem dX4_pulse_65 : decode cX4_pulse 65 = .ok (.if_icmp .eq 21, 3) := by decide +kernel
theorem dX4_pulse_68 : decode cX4_pulse 68 = .ok (.aload_n 0, 1) := by decide +kernel
theorem dX4_pulse_69 : decode cX4_pulse 69 = .ok (.iconst 2, 1) := by decide +kernel
theorem dX4_pulse_70 : decode cX4_pulse 70 = .ok (.aload_n 0, 1) := by decide +kernel
theorem dX4_pulse_71 : decode cX4_pulse 71 = .ok (.invokevirtual 92, 3) := by decide +kernel
theorem dX4_pulse_74 : decode cX4_pulse 74 = .ok (.invokevirtual 157, 3) := by decide +kernel
theorem dX4_pulse_77 : decode cX4_pulse 77 = .ok (.aload_n 0, 1) := by decide +kernel
theorem dX4_pulse_78 : decode cX4_pulse 78 = .ok (.iconst 3, 1) := by decide +kernel
theorem dX4_pulse_79 : decode cX4_pulse 79 = .ok (.aload_n 0, 1) := by decide +kernel
theorem dX4_pulse_80 : decode cX4_pulse 80 = .ok (.getfield 151, 3) := by decide +kernel
theorem dX4_pulse_83 : decode cX4_pulse 83 = .ok (.invokevirtual 157, 3) := by decide +kernel
theorem dX4_pulse_86 : decode cX4_pulse 86 = .ok (.aload_n 0, 1) := by decide +kernel
theorem dX4_pulse_87 : decode cX4_pulse 87 = .ok (.getfield 142, 3) := by decide +kernel
theorem dX4_pulse_90 : decode cX4_pulse 90 = .ok (.ireturn, 1) := by decide +kernel
theorem dX4_rests_0 : decode cX4_rests 0 = .ok (.iconst 0, 1) := by decide +kernel
theorem dX4_rests_1 : decode cX4_rests 1 = .ok (.istore_n 2, 1) := by decide +kernel
theorem dX4_rests_2 : decode cX4_rests 2 = .ok (.iload_n 2, 1) := by decide +kernel
theorem dX4_rests_3 : decode cX4_rests 3 = .ok (.iload_n 1, 1) := by decide +kernel
theorem dX4_rests_4 : decode cX4_rests 4 = .ok (.if_icmp .ge 43, 3) := by decide +kernel
theorem dX4_rests_7 : decode cX4_rests 7 = .ok (.iconst 0, 1) := by decide +kernel
theorem dX4_rests_8 : decode cX4_rests 8 = .ok (.istore_n 3, 1) := by decide +kernel
theorem dX4_rests_9 : decode cX4_rests 9 = .ok (.iload_n 3, 1) := by decide +kernel
theorem dX4_rests_10 : decode cX4_rests 10 = .ok (.iconst 4, 1) := by decide +kernel
theorem dX4_rests_11 : decode cX4_rests 11 = .ok (.if_icmp .ge 30, 3) := by decide +kernel
theorem dX4_rests_14 : decode cX4_rests 14 = .ok (.aload_n 0, 1) := by decide +kernel
theorem dX4_rests_15 : decode cX4_rests 15 = .ok (.getfield 32, 3) := by decide +kernel
theorem dX4_rests_18 : decode cX4_rests 18 = .ok (.iload_n 3, 1) := by decide +kernel
theorem dX4_rests_19 : decode cX4_rests 19 = .ok (.dup2, 1) := by decide +kernel
theorem dX4_rests_20 : decode cX4_rests 20 = .ok (.iaload, 1) := by decide +kernel
theorem dX4_rests_21 : decode cX4_rests 21 = .ok (.aload_n 0, 1) := by decide +kernel
theorem dX4_rests_22 : decode cX4_rests 22 = .ok (.getfield 32, 3) := by decide +kernel
theorem dX4_rests_25 : decode cX4_rests 25 = .ok (.iload_n 3, 1) := by decide +kernel
theorem dX4_rests_26 : decode cX4_rests 26 = .ok (.iaload, 1) := by decide +kernel
theorem dX4_rests_27 : decode cX4_rests 27 = .ok (.bipush 15, 2) := by decide +kernel
theorem dX4_rests_29 : decode cX4_rests 29 = .ok (.iadd, 1) := by decide +kernel
theorem dX4_rests_30 : decode cX4_rests 30 = .ok (.bipush 16, 2) := by decide +kernel
theorem dX4_rests_32 : decode cX4_rests 32 = .ok (.idiv, 1) := by decide +kernel
theorem dX4_rests_33 : decode cX4_rests 33 = .ok (.isub, 1) := by decide +kernel
theorem dX4_rests_34 : decode cX4_rests 34 = .ok (.iastore, 1) := by decide +kernel
theorem dX4_rests_35 : decode cX4_rests 35 = .ok (.iinc 3 1, 3) := by decide +kernel
theorem dX4_rests_38 : decode cX4_rests 38 = .ok (.goto (-29), 3) := by decide +kernel
theorem dX4_rests_41 : decode cX4_rests 41 = .ok (.iinc 2 1, 3) := by decide +kernel
theorem dX4_rests_44 : decode cX4_rests 44 = .ok (.goto (-42), 3) := by decide +kernel
theorem dX4_rests_47 : decode cX4_rests 47 = .ok (.return_, 1) := by decide +kernel
set_option maxRecDepth 20000 in
theorem ggX4_rest_X4_within : GoodIn wsX4_rest wsX4_within := goodIn_r _ [6] (by decide +kernel) (by decide +kernel)
set_option maxRecDepth 20000 in
theorem gX4_rest_X4_within : GoodIn wsX4_rest (va_wsS RX4 66 yX4_within wsX4_within) := goodIn_app (goodIn_of _ (by decide +kernel)) ggX4_rest_X4_within
set_option maxRecDepth 20000 in
theorem ggX4_rest_X4_rests : GoodIn wsX4_rest wsX4_rests := goodIn_r _ [10, 2, 11, 12, 13, 14, 15, 16, 17, 18, 19, 20, 21, 22, 23, 24, 25, 26, 27, 28, 29, 30, 31, 32, 33, 34, 35] (by decide +kernel) (by decide +kernel)
set_option maxRecDepth 20000 in
theorem gX4_rest_X4_rests : GoodIn wsX4_rest (wsV RX4 160 RX4 yX4_rests wsX4_rests) := goodIn_app (goodIn_of _ (by decide +kernel)) ggX4_rest_X4_rests
theorem dX4_rest_0 : decode cX4_rest 0 = .ok (.iload_n 1, 1) := by decide +kernel
theorem dX4_rest_1 : decode cX4_rest 1 = .ok (.iconst 0, 1) := by decide +kernel
theorem dX4_rest_2 : decode cX4_rest 2 = .ok (.bipush 100, 2) := by decide +kernel
theorem dX4_rest_4 : decode cX4_rest 4 = .ok (.invokestatic 66, 3) := by decide +kernel
theorem dX4_rest_7 : decode cX4_rest 7 = .ok (.ifCond .ne 6, 3) := by decide +kernel
theorem dX4_rest_10 : decode cX4_rest 10 = .ok (.bipush (-2), 2) := by decide +kernel
theorem dX4_rest_12 : decode cX4_rest 12 = .ok (.ireturn, 1) := by decide +kernel
theorem dX4_rest_13 : decode cX4_rest 13 = .ok (.aload_n 0, 1) := by decide +kernel
theorem dX4_rest_14 : decode cX4_rest 14 = .ok (.iload_n 1, 1) := by decide +kernel
theorem dX4_rest_15 : decode cX4_rest 15 = .ok (.invokevirtual 160, 3) := by decide +kernel
theorem dX4_rest_18 : decode cX4_rest 18 = .ok (.iconst 0, 1) := by decide +kernel
theorem dX4_rest_19 : decode cX4_rest 19 = .ok (.istore_n 2, 1) := by decide +kernel
theorem dX4_rest_20 : decode cX4_rest 20 = .ok (.iconst 0, 1) := by decide +kernel
theorem dX4_rest_21 : decode cX4_rest 21 = .ok (.istore_n 3, 1) := by decide +kernel
theorem dX4_rest_22 : decode cX4_rest 22 = .ok (.iload_n 3, 1) := by decide +kernel
theorem dX4_rest_23 : decode cX4_rest 23 = .ok (.iconst 4, 1) := by decide +kernel
theorem dX4_rest_24 : decode cX4_rest 24 = .ok (.if_icmp .ge 39, 3) := by decide +kernel
theorem dX4_rest_27 : decode cX4_rest 27 = .ok (.aload_n 0, 1) := by decide +kernel
theorem dX4_rest_28 : decode cX4_rest 28 = .ok (.getfield 7, 3) := by decide +kernel
theorem dX4_rest_31 : decode cX4_rest 31 = .ok (.iload_n 3, 1) := by decide +kernel
theorem dX4_rest_32 : decode cX4_rest 32 = .ok (.baload, 1) := by decide +kernel
theorem dX4_rest_33 : decode cX4_rest 33 = .ok (.ifCond .eq 22, 3) := by decide +kernel
theorem dX4_rest_36 : decode cX4_rest 36 = .ok (.aload_n 0, 1) := by decide +kernel
theorem dX4_rest_37 : decode cX4_rest 37 = .ok (.getfield 32, 3) := by decide +kernel
theorem dX4_rest_40 : decode cX4_rest 40 = .ok (.iload_n 3, 1) := by decide +kernel
theorem dX4_rest_41 : decode cX4_rest 41 = .ok (.iaload, 1) := by decide +kernel
theorem dX4_rest_42 : decode cX4_rest 42 = .ok (.iload_n 2, 1) := by decide +kernel
theorem dX4_rest_43 : decode cX4_rest 43 = .ok (.if_icmp .le 12, 3) := by decide +kernel
theorem dX4_rest_46 : decode cX4_rest 46 = .ok (.aload_n 0, 1) := by decide +kernel
theorem dX4_rest_47 : decode cX4_rest 47 = .ok (.getfield 32, 3) := by decide +kernel
theorem dX4_rest_50 : decode cX4_rest 50 = .ok (.iload_n 3, 1) := by decide +kernel
theorem dX4_rest_51 : decode cX4_rest 51 = .ok (.iaload, 1) := by decide +kernel
theorem dX4_rest_52 : decode cX4_rest 52 = .ok (.goto 4, 3) := by decide +kernel
theorem dX4_rest_55 : decode cX4_rest 55 = .ok (.iload_n 2, 1) := by decide +kernel
theorem dX4_rest_56 : decode cX4_rest 56 = .ok (.istore_n 2, 1) := by decide +kernel
theorem dX4_rest_57 : decode cX4_rest 57 = .ok (.iinc 3 1, 3) := by decide +kernel
theorem dX4_rest_60 : decode cX4_rest 60 = .ok (.goto (-38), 3) := by decide +kernel
theorem dX4_rest_63 : decode cX4_rest 63 = .ok (.iload_n 2, 1) := by decide +kernel
theorem dX4_rest_64 : decode cX4_rest 64 = .ok (.ireturn, 1) := by decide +kernel
set_option maxRecDepth 20000 in
theorem ggX4_isSweep_X4_within : GoodIn wsX4_isSweep wsX4_within := goodIn_r _ [4] (by decide +kernel) (by decide +kernel)
set_option maxRecDepth 20000 in
theorem gX4_isSweep_X4_within : GoodIn wsX4_isSweep (va_wsS RX4 66 yX4_within wsX4_within) := goodIn_app (goodIn_of _ (by decide +kernel)) ggX4_isSweep_X4_within
theorem dX4_isSweep_0 : decode cX4_isSweep 0 = .ok (.iload_n 0, 1) := by decide +kernel
theorem dX4_isSweep_1 : decode cX4_isSweep 1 = .ok (.sipush (-3000), 3) := by decide +kernel
theorem dX4_isSweep_4 : decode cX4_isSweep 4 = .ok (.sipush 3000, 3) := by decide +kernel
theorem dX4_isSweep_7 : decode cX4_isSweep 7 = .ok (.invokestatic 66, 3) := by decide +kernel
theorem dX4_isSweep_10 : decode cX4_isSweep 10 = .ok (.ifCond .eq 31, 3) := by decide +kernel
theorem dX4_isSweep_13 : decode cX4_isSweep 13 = .ok (.iload_n 1, 1) := by decide +kernel
theorem dX4_isSweep_14 : decode cX4_isSweep 14 = .ok (.sipush (-3000), 3) := by decide +kernel
theorem dX4_isSweep_17 : decode cX4_isSweep 17 = .ok (.sipush 3000, 3) := by decide +kernel
theorem dX4_isSweep_20 : decode cX4_isSweep 20 = .ok (.invokestatic 66, 3) := by decide +kernel
theorem dX4_isSweep_23 : decode cX4_isSweep 23 = .ok (.ifCond .eq 18, 3) := by decide +kernel
theorem dX4_isSweep_26 : decode cX4_isSweep 26 = .ok (.iload_n 2, 1) := by decide +kernel
theorem dX4_isSweep_27 : decode cX4_isSweep 27 = .ok (.iconst 1, 1) := by decide +kernel
theorem dX4_isSweep_28 : decode cX4_isSweep 28 = .ok (.sipush 1000, 3) := by decide +kernel
theorem dX4_isSweep_31 : decode cX4_isSweep 31 = .ok (.invokestatic 66, 3) := by decide +kernel
theorem dX4_isSweep_34 : decode cX4_isSweep 34 = .ok (.ifCond .eq 7, 3) := by decide +kernel
theorem dX4_isSweep_37 : decode cX4_isSweep 37 = .ok (.iconst 1, 1) := by decide +kernel
theorem dX4_isSweep_38 : decode cX4_isSweep 38 = .ok (.goto 4, 3) := by decide +kernel
theorem dX4_isSweep_41 : decode cX4_isSweep 41 = .ok (.iconst 0, 1) := by decide +kernel
theorem dX4_isSweep_42 : decode cX4_isSweep 42 = .ok (.istore 6, 2) := by decide +kernel
theorem dX4_isSweep_44 : decode cX4_isSweep 44 = .ok (.iload 6, 2) := by decide +kernel
theorem dX4_isSweep_46 : decode cX4_isSweep 46 = .ok (.ifCond .eq 38, 3) := by decide +kernel
theorem dX4_isSweep_49 : decode cX4_isSweep 49 = .ok (.iload_n 3, 1) := by decide +kernel
theorem dX4_isSweep_50 : decode cX4_isSweep 50 = .ok (.iconst 1, 1) := by decide +kernel
theorem dX4_isSweep_51 : decode cX4_isSweep 51 = .ok (.bipush 50, 2) := by decide +kernel
theorem dX4_isSweep_53 : decode cX4_isSweep 53 = .ok (.invokestatic 66, 3) := by decide +kernel
theorem dX4_isSweep_56 : decode cX4_isSweep 56 = .ok (.ifCond .eq 28, 3) := by decide +kernel
theorem dX4_isSweep_59 : decode cX4_isSweep 59 = .ok (.iload 4, 2) := by decide +kernel
theorem dX4_isSweep_61 : decode cX4_isSweep 61 = .ok (.iconst 0, 1) := by decide +kernel
theorem dX4_isSweep_62 : decode cX4_isSweep 62 = .ok (.bipush 100, 2) := by decide +kernel
theorem dX4_isSweep_64 : decode cX4_isSweep 64 = .ok (.invokestatic 66, 3) := by decide +kernel
theorem dX4_isSweep_67 : decode cX4_isSweep 67 = .ok (.ifCond .eq 17, 3) := by decide +kernel
theorem dX4_isSweep_70 : decode cX4_isSweep 70 = .ok (.iload 5, 2) := by decide +kernel
theorem dX4_isSweep_72 : decode cX4_isSweep 72 = .ok (.iconst 0, 1) := by decide +kernel
theorem dX4_isSweep_73 : decode cX4_isSweep 73 = .ok (.iconst 1, 1) := by decide +kernel
theorem dX4_isSweep_74 : decode cX4_isSweep 74 = .ok (.invokestatic 66, 3) := by decide +kernel
theorem dX4_isSweep_77 : decode cX4_isSweep 77 = .ok (.ifCond .eq 7, 3) := by decide +kernel
theorem dX4_isSweep_80 : decode cX4_isSweep 80 = .ok (.iconst 1, 1) := by decide +kernel
theorem dX4_isSweep_81 : decode cX4_isSweep 81 = .ok (.goto 4, 3) := by decide +kernel
theorem dX4_isSweep_84 : decode cX4_isSweep 84 = .ok (.iconst 0, 1) := by decide +kernel
theorem dX4_isSweep_85 : decode cX4_isSweep 85 = .ok (.ireturn, 1) := by decide +kernel
set_option maxRecDepth 20000 in
theorem ggX4_sweep_X4_isSweep : GoodIn wsX4_sweep wsX4_isSweep := goodIn_r _ [8, 9, 10, 7, 11] (by decide +kernel) (by decide +kernel)
set_option maxRecDepth 20000 in
theorem gX4_sweep_X4_isSweep : GoodIn wsX4_sweep (va_wsS RX4 164 yX4_isSweep wsX4_isSweep) := goodIn_app (goodIn_of _ (by decide +kernel)) ggX4_sweep_X4_isSweep
set_option maxRecDepth 20000 in
theorem ggX4_sweep_X4_size : GoodIn wsX4_sweep wsX4_size := goodIn_r _ [14] (by decide +kernel) (by decide +kernel)
set_option maxRecDepth 20000 in
theorem gX4_sweep_X4_size : GoodIn wsX4_sweep (va_wsS RX4 119 yX4_size wsX4_size) := goodIn_app (goodIn_of _ (by decide +kernel)) ggX4_sweep_X4_size
set_option maxRecDepth 20000 in
theorem ggX4_sweep_X4_pulses : GoodIn wsX4_sweep wsX4_pulses := goodIn_r _ [18, 19, 20, 21, 22, 23, 2, 24, 25, 26, 27, 28, 29, 30, 7, 31, 32, 33, 34, 35, 36, 37, 38, 39, 40, 41, 42, 43, 44, 45, 46, 47, 48, 49, 50, 51, 52, 53, 54, 55, 56, 57, 58, 59, 60, 61, 62, 63, 64, 65, 66, 67, 68, 69, 70, 71, 72, 73, 12, 13, 14, 74, 75, 76, 77, 78, 79, 80, 81, 82, 83, 84, 85, 86, 87, 4, 98, 99, 100, 101, 102, 103, 104, 105, 106, 107, 108, 109, 110, 111, 112, 113, 114, 115, 116, 117, 118, 119, 120, 121, 122] (by decide +kernel) (by decide +kernel)
set_option maxRecDepth 20000 in
theorem gX4_sweep_X4_pulses : GoodIn wsX4_sweep (wsV RX4 154 RX4 yX4_pulses wsX4_pulses) := goodIn_app (goodIn_of _ (by decide +kernel)) ggX4_sweep_X4_pulses
set_option maxRecDepth 20000 in
theorem ggX4_sweep_X4_cause : GoodIn wsX4_sweep wsX4_cause := goodIn_r _ [91, 92, 3, 93, 98, 99, 100, 101, 102, 103, 104, 105, 106, 107, 108, 109, 110, 111, 112, 113, 114, 115, 116, 117, 118, 119, 120, 121, 122] (by decide +kernel) (by decide +kernel)
set_option maxRecDepth 20000 in
theorem gX4_sweep_X4_cause : GoodIn wsX4_sweep (wsV RX4 157 RX4 yX4_cause wsX4_cause) := goodIn_app (goodIn_of _ (by decide +kernel)) ggX4_sweep_X4_cause
set_option maxRecDepth 20000 in
theorem ggX4_sweep_X4_inHand : GoodIn wsX4_sweep wsX4_inHand := goodIn_r _ [31, 32, 33, 34, 35, 36, 37, 7, 38, 39, 98, 99, 100, 101, 102, 103, 104, 105, 106, 107, 108, 109, 110, 111, 112, 113, 114, 115, 116, 117, 118, 119, 120, 121, 122] (by decide +kernel) (by decide +kernel)
set_option maxRecDepth 20000 in
theorem gX4_sweep_X4_inHand : GoodIn wsX4_sweep (wsV RX4 92 RX4 yX4_inHand wsX4_inHand) := goodIn_app (goodIn_of _ (by decide +kernel)) ggX4_sweep_X4_inHand
set_option maxRecDepth 20000 in
theorem ggX4_sweep_X4_rests : GoodIn wsX4_sweep wsX4_rests := goodIn_r _ [97, 61, 98, 99, 100, 101, 102, 103, 104, 105, 106, 107, 108, 109, 110, 111, 112, 113, 114, 115, 116, 117, 118, 119, 120, 121, 122] (by decide +kernel) (by decide +kernel)
set_option maxRecDepth 20000 in
theorem gX4_sweep_X4_rests : GoodIn wsX4_sweep (wsV RX4 160 RX4 yX4_rests wsX4_rests) := goodIn_app (goodIn_of _ (by decide +kernel)) ggX4_sweep_X4_rests
theorem dX4_sweep_0 : decode cX4_sweep 0 = .ok (.iload_n 1, 1) := by decide +kernel
theorem dX4_sweep_1 : decode cX4_sweep 1 = .ok (.iload_n 2, 1) := by decide +kernel
theorem dX4_sweep_2 : decode cX4_sweep 2 = .ok (.iload_n 3, 1) := by decide +kernel
theorem dX4_sweep_3 : decode cX4_sweep 3 = .ok (.iload 4, 2) := by decide +kernel
theorem dX4_sweep_5 : decode cX4_sweep 5 = .ok (.iload 5, 2) := by decide +kernel
theorem dX4_sweep_7 : decode cX4_sweep 7 = .ok (.iload 6, 2) := by decide +kernel
theorem dX4_sweep_9 : decode cX4_sweep 9 = .ok (.invokestatic 164, 3) := by decide +kernel
theorem dX4_sweep_12 : decode cX4_sweep 12 = .ok (.ifCond .ne 6, 3) := by decide +kernel
theorem dX4_sweep_15 : decode cX4_sweep 15 = .ok (.bipush (-2), 2) := by decide +kernel
theorem dX4_sweep_17 : decode cX4_sweep 17 = .ok (.ireturn, 1) := by decide +kernel
theorem dX4_sweep_18 : decode cX4_sweep 18 = .ok (.aload_n 0, 1) := by decide +kernel
theorem dX4_sweep_19 : decode cX4_sweep 19 = .ok (.getfield 74, 3) := by decide +kernel
theorem dX4_sweep_22 : decode cX4_sweep 22 = .ok (.ifCond .ne 6, 3) := by decide +kernel
theorem dX4_sweep_25 : decode cX4_sweep 25 = .ok (.bipush (-3), 2) := by decide +kernel
theorem dX4_sweep_27 : decode cX4_sweep 27 = .ok (.ireturn, 1) := by decide +kernel
theorem dX4_sweep_28 : decode cX4_sweep 28 = .ok (.iload_n 2, 1) := by decide +kernel
theorem dX4_sweep_29 : decode cX4_sweep 29 = .ok (.iload_n 1, 1) := by decide +kernel
theorem dX4_sweep_30 : decode cX4_sweep 30 = .ok (.isub, 1) := by decide +kernel
theorem dX4_sweep_31 : decode cX4_sweep 31 = .ok (.invokestatic 119, 3) := by decide +kernel
theorem dX4_sweep_34 : decode cX4_sweep 34 = .ok (.iload_n 3, 1) := by decide +kernel
theorem dX4_sweep_35 : decode cX4_sweep 35 = .ok (.idiv, 1) := by decide +kernel
theorem dX4_sweep_36 : decode cX4_sweep 36 = .ok (.iconst 1, 1) := by decide +kernel
theorem dX4_sweep_37 : decode cX4_sweep 37 = .ok (.iadd, 1) := by decide +kernel
theorem dX4_sweep_38 : decode cX4_sweep 38 = .ok (.istore 7, 2) := by decide +kernel
theorem dX4_sweep_40 : decode cX4_sweep 40 = .ok (.iload 6, 2) := by decide +kernel
theorem dX4_sweep_42 : decode cX4_sweep 42 = .ok (.iconst 1, 1) := by decide +kernel
theorem dX4_sweep_43 : decode cX4_sweep 43 = .ok (.if_icmp .ne 12, 3) := by decide +kernel
theorem dX4_sweep_46 : decode cX4_sweep 46 = .ok (.iconst 2, 1) := by decide +kernel
theorem dX4_sweep_47 : decode cX4_sweep 47 = .ok (.iload 7, 2) := by decide +kernel
theorem dX4_sweep_49 : decode cX4_sweep 49 = .ok (.imul, 1) := by decide +kernel
theorem dX4_sweep_50 : decode cX4_sweep 50 = .ok (.iconst 1, 1) := by decide +kernel
theorem dX4_sweep_51 : decode cX4_sweep 51 = .ok (.isub, 1) := by decide +kernel
theorem dX4_sweep_52 : decode cX4_sweep 52 = .ok (.goto 5, 3) := by decide +kernel
theorem dX4_sweep_55 : decode cX4_sweep 55 = .ok (.iload 7, 2) := by decide +kernel
theorem dX4_sweep_57 : decode cX4_sweep 57 = .ok (.istore 8, 2) := by decide +kernel
theorem dX4_sweep_59 : decode cX4_sweep 59 = .ok (.aload_n 0, 1) := by decide +kernel
theorem dX4_sweep_60 : decode cX4_sweep 60 = .ok (.getfield 142, 3) := by decide +kernel
theorem dX4_sweep_63 : decode cX4_sweep 63 = .ok (.iload 8, 2) := by decide +kernel
theorem dX4_sweep_65 : decode cX4_sweep 65 = .ok (.iadd, 1) := by decide +kernel
theorem dX4_sweep_66 : decode cX4_sweep 66 = .ok (.bipush 60, 2) := by decide +kernel
theorem dX4_sweep_68 : decode cX4_sweep 68 = .ok (.if_icmp .le 6, 3) := by decide +kernel
theorem dX4_sweep_71 : decode cX4_sweep 71 = .ok (.bipush (-4), 2) := by decide +kernel
theorem dX4_sweep_73 : decode cX4_sweep 73 = .ok (.ireturn, 1) := by decide +kernel
theorem dX4_sweep_74 : decode cX4_sweep 74 = .ok (.aload_n 0, 1) := by decide +kernel
theorem dX4_sweep_75 : decode cX4_sweep 75 = .ok (.iconst 0, 1) := by decide +kernel
theorem dX4_sweep_76 : decode cX4_sweep 76 = .ok (.putfield 139, 3) := by decide +kernel
theorem dX4_sweep_79 : decode cX4_sweep 79 = .ok (.iconst 0, 1) := by decide +kernel
theorem dX4_sweep_80 : decode cX4_sweep 80 = .ok (.istore 9, 2) := by decide +kernel
theorem dX4_sweep_82 : decode cX4_sweep 82 = .ok (.iload 9, 2) := by decide +kernel
theorem dX4_sweep_84 : decode cX4_sweep 84 = .ok (.iload 8, 2) := by decide +kernel
theorem dX4_sweep_86 : decode cX4_sweep 86 = .ok (.if_icmp .ge 104, 3) := by decide +kernel
theorem dX4_sweep_89 : decode cX4_sweep 89 = .ok (.iload 9, 2) := by decide +kernel
theorem dX4_sweep_91 : decode cX4_sweep 91 = .ok (.iload 7, 2) := by decide +kernel
theorem dX4_sweep_93 : decode cX4_sweep 93 = .ok (.if_icmp .ge 8, 3) := by decide +kernel
theorem dX4_sweep_96 : decode cX4_sweep 96 = .ok (.iload 9, 2) := by decide +kernel
theorem dX4_sweep_98 : decode cX4_sweep 98 = .ok (.goto 10, 3) := by decide +kernel
theorem dX4_sweep_101 : decode cX4_sweep 101 = .ok (.iload 8, 2) := by decide +kernel
theorem dX4_sweep_103 : decode cX4_sweep 103 = .ok (.iconst 1, 1) := by decide +kernel
theorem dX4_sweep_104 : decode cX4_sweep 104 = .ok (.isub, 1) := by decide +kernel
theorem dX4_sweep_105 : decode cX4_sweep 105 = .ok (.iload 9, 2) := by decide +kernel
theorem dX4_sweep_107 : decode cX4_sweep 107 = .ok (.isub, 1) := by decide +kernel
theorem dX4_sweep_108 : decode cX4_sweep 108 = .ok (.istore 10, 2) := by decide +kernel
theorem dX4_sweep_110 : decode cX4_sweep 110 = .ok (.aload_n 0, 1) := by decide +kernel
theorem dX4_sweep_111 : decode cX4_sweep 111 = .ok (.iload_n 2, 1) := by decide +kernel
theorem dX4_sweep_112 : decode cX4_sweep 112 = .ok (.iload_n 1, 1) := by decide +kernel
theorem dX4_sweep_113 : decode cX4_sweep 113 = .ok (.if_icmp .ge 12, 3) := by decide +kernel
theorem dX4_sweep_116 : decode cX4_sweep 116 = .ok (.iload_n 1, 1) := by decide +kernel
theorem dX4_sweep_117 : decode cX4_sweep 117 = .ok (.iload_n 3, 1) := by decide +kernel
theorem dX4_sweep_118 : decode cX4_sweep 118 = .ok (.iload 10, 2) := by decide +kernel
theorem dX4_sweep_120 : decode cX4_sweep 120 = .ok (.imul, 1) := by decide +kernel
theorem dX4_sweep_121 : decode cX4_sweep 121 = .ok (.isub, 1) := by decide +kernel
theorem dX4_sweep_122 : decode cX4_sweep 122 = .ok (.goto 9, 3) := by decide +kernel
theorem dX4_sweep_125 : decode cX4_sweep 125 = .ok (.iload_n 1, 1) := by decide +kernel
theorem dX4_sweep_126 : decode cX4_sweep 126 = .ok (.iload_n 3, 1) := by decide +kernel
theorem dX4_sweep_127 : decode cX4_sweep 127 = .ok (.iload 10, 2) := by decide +kernel
theorem dX4_sweep_129 : decode cX4_sweep 129 = .ok (.imul, 1) := by decide +kernel
theorem dX4_sweep_130 : decode cX4_sweep 130 = .ok (.iadd, 1) := by decide +kernel
theorem dX4_sweep_131 : decode cX4_sweep 131 = .ok (.iload 4, 2) := by decide +kernel
theorem dX4_sweep_133 : decode cX4_sweep 133 = .ok (.invokevirtual 154, 3) := by decide +kernel
theorem dX4_sweep_136 : decode cX4_sweep 136 = .ok (.aload_n 0, 1) := by decide +kernel
theorem dX4_sweep_137 : decode cX4_sweep 137 = .ok (.getfield 151, 3) := by decide +kernel
theorem dX4_sweep_140 : decode cX4_sweep 140 = .ok (.bipush (-9), 2) := by decide +kernel
theorem dX4_sweep_142 : decode cX4_sweep 142 = .ok (.if_icmp .eq 36, 3) := by decide +kernel
theorem dX4_sweep_145 : decode cX4_sweep 145 = .ok (.aload_n 0, 1) := by decide +kernel
theorem dX4_sweep_146 : decode cX4_sweep 146 = .ok (.iconst 1, 1) := by decide +kernel
theorem dX4_sweep_147 : decode cX4_sweep 147 = .ok (.iload 9, 2) := by decide +kernel
theorem dX4_sweep_149 : decode cX4_sweep 149 = .ok (.invokevirtual 157, 3) := by decide +kernel
theorem dX4_sweep_152 : decode cX4_sweep 152 = .ok (.aload_n 0, 1) := by decide +kernel
theorem dX4_sweep_153 : decode cX4_sweep 153 = .ok (.iconst 2, 1) := by decide +kernel
theorem dX4_sweep_154 : decode cX4_sweep 154 = .ok (.aload_n 0, 1) := by decide +kernel
theorem dX4_sweep_155 : decode cX4_sweep 155 = .ok (.invokevirtual 92, 3) := by decide +kernel
theorem dX4_sweep_158 : decode cX4_sweep 158 = .ok (.invokevirtual 157, 3) := by decide +kernel
theorem dX4_sweep_161 : decode cX4_sweep 161 = .ok (.aload_n 0, 1) := by decide +kernel
theorem dX4_sweep_162 : decode cX4_sweep 162 = .ok (.iconst 3, 1) := by decide +kernel
theorem dX4_sweep_163 : decode cX4_sweep 163 = .ok (.aload_n 0, 1) := by decide +kernel
theorem dX4_sweep_164 : decode cX4_sweep 164 = .ok (.getfield 151, 3) := by decide +kernel
theorem dX4_sweep_167 : decode cX4_sweep 167 = .ok (.invokevirtual 157, 3) := by decide +kernel
theorem dX4_sweep_170 : decode cX4_sweep 170 = .ok (.bipush (-100), 2) := by decide +kernel
theorem dX4_sweep_172 : decode cX4_sweep 172 = .ok (.iload 9, 2) := by decide +kernel
theorem dX4_sweep_174 : decode cX4_sweep 174 = .ok (.iconst 1, 1) := by decide +kernel
theorem dX4_sweep_175 : decode cX4_sweep 175 = .ok (.iadd, 1) := by decide +kernel
theorem dX4_sweep_176 : decode cX4_sweep 176 = .ok (.isub, 1) := by decide +kernel
theorem dX4_sweep_177 : decode cX4_sweep 177 = .ok (.ireturn, 1) := by decide +kernel
theorem dX4_sweep_178 : decode cX4_sweep 178 = .ok (.aload_n 0, 1) := by decide +kernel
theorem dX4_sweep_179 : decode cX4_sweep 179 = .ok (.iload 5, 2) := by decide +kernel
theorem dX4_sweep_181 : decode cX4_sweep 181 = .ok (.invokevirtual 160, 3) := by decide +kernel
theorem dX4_sweep_184 : decode cX4_sweep 184 = .ok (.iinc 9 1, 3) := by decide +kernel
theorem dX4_sweep_187 : decode cX4_sweep 187 = .ok (.goto (-105), 3) := by decide +kernel
theorem dX4_sweep_190 : decode cX4_sweep 190 = .ok (.iload 8, 2) := by decide +kernel
theorem dX4_sweep_192 : decode cX4_sweep 192 = .ok (.ireturn, 1) := by decide +kernel
set_option maxRecDepth 20000 in
theorem ggX4_why_X4_within : GoodIn wsX4_why wsX4_within := goodIn_r _ [7] (by decide +kernel) (by decide +kernel)
set_option maxRecDepth 20000 in
theorem gX4_why_X4_within : GoodIn wsX4_why (va_wsS RX4 66 yX4_within wsX4_within) := goodIn_app (goodIn_of _ (by decide +kernel)) ggX4_why_X4_within
theorem dX4_why_0 : decode cX4_why 0 = .ok (.iload_n 1, 1) := by decide +kernel
theorem dX4_why_1 : decode cX4_why 1 = .ok (.iconst 0, 1) := by decide +kernel
theorem dX4_why_2 : decode cX4_why 2 = .ok (.iconst 2, 1) := by decide +kernel
theorem dX4_why_3 : decode cX4_why 3 = .ok (.invokestatic 66, 3) := by decide +kernel
theorem dX4_why_6 : decode cX4_why 6 = .ok (.ifCond .eq 12, 3) := by decide +kernel
theorem dX4_why_9 : decode cX4_why 9 = .ok (.iload_n 2, 1) := by decide +kernel
theorem dX4_why_10 : decode cX4_why 10 = .ok (.iconst 0, 1) := by decide +kernel
theorem dX4_why_11 : decode cX4_why 11 = .ok (.iconst 1, 1) := by decide +kernel
theorem dX4_why_12 : decode cX4_why 12 = .ok (.invokestatic 66, 3) := by decide +kernel
theorem dX4_why_15 : decode cX4_why 15 = .ok (.ifCond .ne 6, 3) := by decide +kernel
theorem dX4_why_18 : decode cX4_why 18 = .ok (.bipush (-2), 2) := by decide +kernel
theorem dX4_why_20 : decode cX4_why 20 = .ok (.ireturn, 1) := by decide +kernel
theorem dX4_why_21 : decode cX4_why 21 = .ok (.iload_n 1, 1) := by decide +kernel
theorem dX4_why_22 : decode cX4_why 22 = .ok (.aload_n 0, 1) := by decide +kernel
theorem dX4_why_23 : decode cX4_why 23 = .ok (.getfield 139, 3) := by decide +kernel
theorem dX4_why_26 : decode cX4_why 26 = .ok (.if_icmp .lt 8, 3) := by decide +kernel
theorem dX4_why_29 : decode cX4_why 29 = .ok (.bipush (-9), 2) := by decide +kernel
theorem dX4_why_31 : decode cX4_why 31 = .ok (.goto 22, 3) := by decide +kernel
theorem dX4_why_34 : decode cX4_why 34 = .ok (.iload_n 2, 1) := by decide +kernel
theorem dX4_why_35 : decode cX4_why 35 = .ok (.ifCond .ne 12, 3) := by decide +kernel
theorem dX4_why_38 : decode cX4_why 38 = .ok (.aload_n 0, 1) := by decide +kernel
theorem dX4_why_39 : decode cX4_why 39 = .ok (.getfield 60, 3) := by decide +kernel
theorem dX4_why_42 : decode cX4_why 42 = .ok (.iload_n 1, 1) := by decide +kernel
theorem dX4_why_43 : decode cX4_why 43 = .ok (.iaload, 1) := by decide +kernel
theorem dX4_why_44 : decode cX4_why 44 = .ok (.goto 9, 3) := by decide +kernel
theorem dX4_why_47 : decode cX4_why 47 = .ok (.aload_n 0, 1) := by decide +kernel
theorem dX4_why_48 : decode cX4_why 48 = .ok (.getfield 63, 3) := by decide +kernel
theorem dX4_why_51 : decode cX4_why 51 = .ok (.iload_n 1, 1) := by decide +kernel
theorem dX4_why_52 : decode cX4_why 52 = .ok (.iaload, 1) := by decide +kernel
theorem dX4_why_53 : decode cX4_why 53 = .ok (.ireturn, 1) := by decide +kernel
set_option maxRecDepth 20000 in
theorem ggX4_isReading_X4_within : GoodIn wsX4_isReading wsX4_within := goodIn_r _ [5] (by decide +kernel) (by decide +kernel)
set_option maxRecDepth 20000 in
theorem gX4_isReading_X4_within : GoodIn wsX4_isReading (va_wsS RX4 66 yX4_within wsX4_within) := goodIn_app (goodIn_of _ (by decide +kernel)) ggX4_isReading_X4_within
theorem dX4_isReading_0 : decode cX4_isReading 0 = .ok (.iload_n 1, 1) := by decide +kernel
theorem dX4_isReading_1 : decode cX4_isReading 1 = .ok (.iconst 0, 1) := by decide +kernel
theorem dX4_isReading_2 : decode cX4_isReading 2 = .ok (.aload_n 0, 1) := by decide +kernel
theorem dX4_isReading_3 : decode cX4_isReading 3 = .ok (.getfield 142, 3) := by decide +kernel
theorem dX4_isReading_6 : decode cX4_isReading 6 = .ok (.iconst 1, 1) := by decide +kernel
theorem dX4_isReading_7 : decode cX4_isReading 7 = .ok (.isub, 1) := by decide +kernel
theorem dX4_isReading_8 : decode cX4_isReading 8 = .ok (.invokestatic 66, 3) := by decide +kernel
theorem dX4_isReading_11 : decode cX4_isReading 11 = .ok (.ireturn, 1) := by decide +kernel
set_option maxRecDepth 20000 in
theorem ggX4_reading_X4_isReading : GoodIn wsX4_reading wsX4_isReading := goodIn_r _ [10, 11, 12, 13, 9, 14, 15, 16, 17, 18, 19, 20, 21, 22, 23, 24, 25, 26, 27, 28, 29, 30, 31, 32, 33, 34, 35, 36, 37, 38, 39] (by decide +kernel) (by decide +kernel)
set_option maxRecDepth 20000 in
theorem gX4_reading_X4_isReading : GoodIn wsX4_reading (wsV RX4 168 RX4 yX4_isReading wsX4_isReading) := goodIn_app (goodIn_of _ (by decide +kernel)) ggX4_reading_X4_isReading
theorem dX4_reading_0 : decode cX4_reading 0 = .ok (.aload_n 0, 1) := by decide +kernel
theorem dX4_reading_1 : decode cX4_reading 1 = .ok (.iload_n 1, 1) := by decide +kernel
theorem dX4_reading_2 : decode cX4_reading 2 = .ok (.invokevirtual 168, 3) := by decide +kernel
theorem dX4_reading_5 : decode cX4_reading 5 = .ok (.ifCond .ne 5, 3) := by decide +kernel
theorem dX4_reading_8 : decode cX4_reading 8 = .ok (.iconst (-1), 1) := by decide +kernel
theorem dX4_reading_9 : decode cX4_reading 9 = .ok (.ireturn, 1) := by decide +kernel
theorem dX4_reading_10 : decode cX4_reading 10 = .ok (.iload_n 2, 1) := by decide +kernel
theorem dX4_reading_11 : decode cX4_reading 11 = .ok (.tableswitch 68 0 3 #[29, 40, 51, 61], 29) := by decide +kernel
theorem dX4_reading_40 : decode cX4_reading 40 = .ok (.aload_n 0, 1) := by decide +kernel
theorem dX4_reading_41 : decode cX4_reading 41 = .ok (.getfield 48, 3) := by decide +kernel
theorem dX4_reading_44 : decode cX4_reading 44 = .ok (.iload_n 1, 1) := by decide +kernel
theorem dX4_reading_45 : decode cX4_reading 45 = .ok (.iaload, 1) := by decide +kernel
theorem dX4_reading_46 : decode cX4_reading 46 = .ok (.sipush 10000, 3) := by decide +kernel
theorem dX4_reading_49 : decode cX4_reading 49 = .ok (.iadd, 1) := by decide +kernel
theorem dX4_reading_50 : decode cX4_reading 50 = .ok (.ireturn, 1) := by decide +kernel
theorem dX4_reading_51 : decode cX4_reading 51 = .ok (.aload_n 0, 1) := by decide +kernel
theorem dX4_reading_52 : decode cX4_reading 52 = .ok (.getfield 51, 3) := by decide +kernel
theorem dX4_reading_55 : decode cX4_reading 55 = .ok (.iload_n 1, 1) := by decide +kernel
theorem dX4_reading_56 : decode cX4_reading 56 = .ok (.iaload, 1) := by decide +kernel
theorem dX4_reading_57 : decode cX4_reading 57 = .ok (.sipush 10000, 3) := by decide +kernel
theorem dX4_reading_60 : decode cX4_reading 60 = .ok (.iadd, 1) := by decide +kernel
theorem dX4_reading_61 : decode cX4_reading 61 = .ok (.ireturn, 1) := by decide +kernel
theorem dX4_reading_62 : decode cX4_reading 62 = .ok (.aload_n 0, 1) := by decide +kernel
theorem dX4_reading_63 : decode cX4_reading 63 = .ok (.getfield 54, 3) := by decide +kernel
theorem dX4_reading_66 : decode cX4_reading 66 = .ok (.iload_n 1, 1) := by decide +kernel
theorem dX4_reading_67 : decode cX4_reading 67 = .ok (.iaload, 1) := by decide +kernel
theorem dX4_reading_68 : decode cX4_reading 68 = .ok (.ldc 112, 2) := by decide +kernel
theorem dX4_reading_70 : decode cX4_reading 70 = .ok (.iadd, 1) := by decide +kernel
theorem dX4_reading_71 : decode cX4_reading 71 = .ok (.ireturn, 1) := by decide +kernel
theorem dX4_reading_72 : decode cX4_reading 72 = .ok (.aload_n 0, 1) := by decide +kernel
theorem dX4_reading_73 : decode cX4_reading 73 = .ok (.getfield 57, 3) := by decide +kernel
theorem dX4_reading_76 : decode cX4_reading 76 = .ok (.iload_n 1, 1) := by decide +kernel
theorem dX4_reading_77 : decode cX4_reading 77 = .ok (.iaload, 1) := by decide +kernel
theorem dX4_reading_78 : decode cX4_reading 78 = .ok (.ireturn, 1) := by decide +kernel
theorem dX4_reading_79 : decode cX4_reading 79 = .ok (.bipush (-2), 2) := by decide +kernel
theorem dX4_reading_81 : decode cX4_reading 81 = .ok (.ireturn, 1) := by decide +kernel
theorem dX4_clear_0 : decode cX4_clear 0 = .ok (.aload_n 0, 1) := by decide +kernel
theorem dX4_clear_1 : decode cX4_clear 1 = .ok (.getfield 142, 3) := by decide +kernel
theorem dX4_clear_4 : decode cX4_clear 4 = .ok (.istore_n 1, 1) := by decide +kernel
theorem dX4_clear_5 : decode cX4_clear 5 = .ok (.aload_n 0, 1) := by decide +kernel
theorem dX4_clear_6 : decode cX4_clear 6 = .ok (.iconst 0, 1) := by decide +kernel
theorem dX4_clear_7 : decode cX4_clear 7 = .ok (.putfield 142, 3) := by decide +kernel
theorem dX4_clear_10 : decode cX4_clear 10 = .ok (.iload_n 1, 1) := by decide +kernel
theorem dX4_clear_11 : decode cX4_clear 11 = .ok (.ireturn, 1) := by decide +kernel
theorem dX4_off_0 : decode cX4_off 0 = .ok (.aload_n 0, 1) := by decide +kernel
theorem dX4_off_1 : decode cX4_off 1 = .ok (.getfield 51, 3) := by decide +kernel
theorem dX4_off_4 : decode cX4_off 4 = .ok (.iload_n 1, 1) := by decide +kernel
theorem dX4_off_5 : decode cX4_off 5 = .ok (.iaload, 1) := by decide +kernel
theorem dX4_off_6 : decode cX4_off 6 = .ok (.aload_n 0, 1) := by decide +kernel
theorem dX4_off_7 : decode cX4_off 7 = .ok (.getfield 51, 3) := by decide +kernel
theorem dX4_off_10 : decode cX4_off 10 = .ok (.iload_n 2, 1) := by decide +kernel
theorem dX4_off_11 : decode cX4_off 11 = .ok (.iaload, 1) := by decide +kernel
theorem dX4_off_12 : decode cX4_off 12 = .ok (.isub, 1) := by decide +kernel
theorem dX4_off_13 : decode cX4_off 13 = .ok (.i2l, 1) := by decide +kernel
theorem dX4_off_14 : decode cX4_off 14 = .ok (.aload_n 0, 1) := by decide +kernel
theorem dX4_off_15 : decode cX4_off 15 = .ok (.getfield 54, 3) := by decide +kernel
theorem dX4_off_18 : decode cX4_off 18 = .ok (.iload_n 3, 1) := by decide +kernel
theorem dX4_off_19 : decode cX4_off 19 = .ok (.iaload, 1) := by decide +kernel
theorem dX4_off_20 : decode cX4_off 20 = .ok (.aload_n 0, 1) := by decide +kernel
theorem dX4_off_21 : decode cX4_off 21 = .ok (.getfield 54, 3) := by decide +kernel
theorem dX4_off_24 : decode cX4_off 24 = .ok (.iload_n 2, 1) := by decide +kernel
theorem dX4_off_25 : decode cX4_off 25 = .ok (.iaload, 1) := by decide +kernel
theorem dX4_off_26 : decode cX4_off 26 = .ok (.isub, 1) := by decide +kernel
theorem dX4_off_27 : decode cX4_off 27 = .ok (.i2l, 1) := by decide +kernel
theorem dX4_off_28 : decode cX4_off 28 = .ok (.lmul, 1) := by decide +kernel
theorem dX4_off_29 : decode cX4_off 29 = .ok (.aload_n 0, 1) := by decide +kernel
theorem dX4_off_30 : decode cX4_off 30 = .ok (.getfield 54, 3) := by decide +kernel
theorem dX4_off_33 : decode cX4_off 33 = .ok (.iload_n 1, 1) := by decide +kernel
theorem dX4_off_34 : decode cX4_off 34 = .ok (.iaload, 1) := by decide +kernel
theorem dX4_off_35 : decode cX4_off 35 = .ok (.aload_n 0, 1) := by decide +kernel
theorem dX4_off_36 : decode cX4_off 36 = .ok (.getfield 54, 3) := by decide +kernel
theorem dX4_off_39 : decode cX4_off 39 = .ok (.iload_n 2, 1) := by decide +kernel
theorem dX4_off_40 : decode cX4_off 40 = .ok (.iaload, 1) := by decide +kernel
theorem dX4_off_41 : decode cX4_off 41 = .ok (.isub, 1) := by decide +kernel
theorem dX4_off_42 : decode cX4_off 42 = .ok (.i2l, 1) := by decide +kernel
theorem dX4_off_43 : decode cX4_off 43 = .ok (.aload_n 0, 1) := by decide +kernel
theorem dX4_off_44 : decode cX4_off 44 = .ok (.getfield 51, 3) := by decide +kernel
theorem dX4_off_47 : decode cX4_off 47 = .ok (.iload_n 3, 1) := by decide +kernel
theorem dX4_off_48 : decode cX4_off 48 = .ok (.iaload, 1) := by decide +kernel
theorem dX4_off_49 : decode cX4_off 49 = .ok (.aload_n 0, 1) := by decide +kernel
theorem dX4_off_50 : decode cX4_off 50 = .ok (.getfield 51, 3) := by decide +kernel
theorem dX4_off_53 : decode cX4_off 53 = .ok (.iload_n 2, 1) := by decide +kernel
theorem dX4_off_54 : decode cX4_off 54 = .ok (.iaload, 1) := by decide +kernel
theorem dX4_off_55 : decode cX4_off 55 = .ok (.isub, 1) := by decide +kernel
theorem dX4_off_56 : decode cX4_off 56 = .ok (.i2l, 1) := by decide +kernel
theorem dX4_off_57 : decode cX4_off 57 = .ok (.lmul, 1) := by decide +kernel
theorem dX4_off_58 : decode cX4_off 58 = .ok (.lsub, 1) := by decide +kernel
theorem dX4_off_59 : decode cX4_off 59 = .ok (.lstore 4, 2) := by decide +kernel
theorem dX4_off_61 : decode cX4_off 61 = .ok (.lload 4, 2) := by decide +kernel
theorem dX4_off_63 : decode cX4_off 63 = .ok (.lconst 0, 1) := by decide +kernel
theorem dX4_off_64 : decode cX4_off 64 = .ok (.lcmp, 1) := by decide +kernel
theorem dX4_off_65 : decode cX4_off 65 = .ok (.ifCond .ge 9, 3) := by decide +kernel
theorem dX4_off_68 : decode cX4_off 68 = .ok (.lload 4, 2) := by decide +kernel
theorem dX4_off_70 : decode cX4_off 70 = .ok (.lneg, 1) := by decide +kernel
theorem dX4_off_71 : decode cX4_off 71 = .ok (.goto 5, 3) := by decide +kernel
theorem dX4_off_74 : decode cX4_off 74 = .ok (.lload 4, 2) := by decide +kernel
theorem dX4_off_76 : decode cX4_off 76 = .ok (.lreturn, 1) := by decide +kernel
set_option maxRecDepth 20000 in
theorem ggX4_knee_X4_isReading : GoodIn wsX4_knee wsX4_isReading := goodIn_r _ [5, 6, 7, 8, 4, 9, 16, 17, 18, 19, 20, 21, 22, 23, 24, 25, 26, 27, 28, 29, 30, 31, 32, 33, 34, 35, 36, 37, 38, 39, 40] (by decide +kernel) (by decide +kernel)
set_option maxRecDepth 20000 in
theorem gX4_knee_X4_isReading : GoodIn wsX4_knee (wsV RX4 168 RX4 yX4_isReading wsX4_isReading) := goodIn_app (goodIn_of _ (by decide +kernel)) ggX4_knee_X4_isReading
set_option maxRecDepth 20000 in
theorem ggX4_knee_X4_off : GoodIn wsX4_knee wsX4_off := goodIn_r _ [13, 14, 15, 16, 17, 18, 19, 20, 21, 22, 23, 24, 25, 26, 27, 28, 29, 30, 31, 32, 33, 34, 35, 36, 37, 38, 39, 40] (by decide +kernel) (by decide +kernel)
set_option maxRecDepth 20000 in
theorem gX4_knee_X4_off : GoodIn wsX4_knee (wsV RX4 171 RX4 yX4_off wsX4_off) := goodIn_app (goodIn_of _ (by decide +kernel)) ggX4_knee_X4_off
theorem dX4_knee_0 : decode cX4_knee 0 = .ok (.aload_n 0, 1) := by decide +kernel
theorem dX4_knee_1 : decode cX4_knee 1 = .ok (.iload_n 1, 1) := by decide +kernel
theorem dX4_knee_2 : decode cX4_knee 2 = .ok (.invokevirtual 168, 3) := by decide +kernel
theorem dX4_knee_5 : decode cX4_knee 5 = .ok (.ifCond .eq 11, 3) := by decide +kernel
theorem dX4_knee_8 : decode cX4_knee 8 = .ok (.aload_n 0, 1) := by decide +kernel
theorem dX4_knee_9 : decode cX4_knee 9 = .ok (.iload_n 2, 1) := by decide +kernel
theorem dX4_knee_10 : decode cX4_knee 10 = .ok (.invokevirtual 168, 3) := by decide +kernel
theorem dX4_knee_13 : decode cX4_knee 13 = .ok (.ifCond .ne 5, 3) := by decide +kernel
theorem dX4_knee_16 : decode cX4_knee 16 = .ok (.iconst (-1), 1) := by decide +kernel
theorem dX4_knee_17 : decode cX4_knee 17 = .ok (.ireturn, 1) := by decide +kernel
theorem dX4_knee_18 : decode cX4_knee 18 = .ok (.iload_n 1, 1) := by decide +kernel
theorem dX4_knee_19 : decode cX4_knee 19 = .ok (.iload_n 2, 1) := by decide +kernel
theorem dX4_knee_20 : decode cX4_knee 20 = .ok (.if_icmp .le 6, 3) := by decide +kernel
theorem dX4_knee_23 : decode cX4_knee 23 = .ok (.bipush (-2), 2) := by decide +kernel
theorem dX4_knee_25 : decode cX4_knee 25 = .ok (.ireturn, 1) := by decide +kernel
theorem dX4_knee_26 : decode cX4_knee 26 = .ok (.bipush (-9), 2) := by decide +kernel
theorem dX4_knee_28 : decode cX4_knee 28 = .ok (.istore_n 3, 1) := by decide +kernel
theorem dX4_knee_29 : decode cX4_knee 29 = .ok (.lconst 0, 1) := by decide +kernel
theorem dX4_knee_30 : decode cX4_knee 30 = .ok (.lstore 4, 2) := by decide +kernel
theorem dX4_knee_32 : decode cX4_knee 32 = .ok (.iload_n 1, 1) := by decide +kernel
theorem dX4_knee_33 : decode cX4_knee 33 = .ok (.istore 6, 2) := by decide +kernel
theorem dX4_knee_35 : decode cX4_knee 35 = .ok (.iload 6, 2) := by decide +kernel
theorem dX4_knee_37 : decode cX4_knee 37 = .ok (.iload_n 2, 1) := by decide +kernel
theorem dX4_knee_38 : decode cX4_knee 38 = .ok (.if_icmp .gt 62, 3) := by decide +kernel
theorem dX4_knee_41 : decode cX4_knee 41 = .ok (.aload_n 0, 1) := by decide +kernel
theorem dX4_knee_42 : decode cX4_knee 42 = .ok (.iload 6, 2) := by decide +kernel
theorem dX4_knee_44 : decode cX4_knee 44 = .ok (.iload_n 1, 1) := by decide +kernel
theorem dX4_knee_45 : decode cX4_knee 45 = .ok (.iload_n 2, 1) := by decide +kernel
theorem dX4_knee_46 : decode cX4_knee 46 = .ok (.invokevirtual 171, 3) := by decide +kernel
theorem dX4_knee_49 : decode cX4_knee 49 = .ok (.lload 4, 2) := by decide +kernel
theorem dX4_knee_51 : decode cX4_knee 51 = .ok (.lcmp, 1) := by decide +kernel
theorem dX4_knee_52 : decode cX4_knee 52 = .ok (.ifCond .le 7, 3) := by decide +kernel
theorem dX4_knee_55 : decode cX4_knee 55 = .ok (.iconst 1, 1) := by decide +kernel
theorem dX4_knee_56 : decode cX4_knee 56 = .ok (.goto 4, 3) := by decide +kernel
theorem dX4_knee_59 : decode cX4_knee 59 = .ok (.iconst 0, 1) := by decide +kernel
theorem dX4_knee_60 : decode cX4_knee 60 = .ok (.istore 7, 2) := by decide +kernel
theorem dX4_knee_62 : decode cX4_knee 62 = .ok (.iload 7, 2) := by decide +kernel
theorem dX4_knee_64 : decode cX4_knee 64 = .ok (.ifCond .eq 8, 3) := by decide +kernel
theorem dX4_knee_67 : decode cX4_knee 67 = .ok (.iload 6, 2) := by decide +kernel
theorem dX4_knee_69 : decode cX4_knee 69 = .ok (.goto 4, 3) := by decide +kernel
theorem dX4_knee_72 : decode cX4_knee 72 = .ok (.iload_n 3, 1) := by decide +kernel
theorem dX4_knee_73 : decode cX4_knee 73 = .ok (.istore_n 3, 1) := by decide +kernel
theorem dX4_knee_74 : decode cX4_knee 74 = .ok (.iload 7, 2) := by decide +kernel
theorem dX4_knee_76 : decode cX4_knee 76 = .ok (.ifCond .eq 14, 3) := by decide +kernel
theorem dX4_knee_79 : decode cX4_knee 79 = .ok (.aload_n 0, 1) := by decide +kernel
theorem dX4_knee_80 : decode cX4_knee 80 = .ok (.iload 6, 2) := by decide +kernel
theorem dX4_knee_82 : decode cX4_knee 82 = .ok (.iload_n 1, 1) := by decide +kernel
theorem dX4_knee_83 : decode cX4_knee 83 = .ok (.iload_n 2, 1) := by decide +kernel
theorem dX4_knee_84 : decode cX4_knee 84 = .ok (.invokevirtual 171, 3) := by decide +kernel
theorem dX4_knee_87 : decode cX4_knee 87 = .ok (.goto 5, 3) := by decide +kernel
theorem dX4_knee_90 : decode cX4_knee 90 = .ok (.lload 4, 2) := by decide +kernel
theorem dX4_knee_92 : decode cX4_knee 92 = .ok (.lstore 4, 2) := by decide +kernel
theorem dX4_knee_94 : decode cX4_knee 94 = .ok (.iinc 6 1, 3) := by decide +kernel
theorem dX4_knee_97 : decode cX4_knee 97 = .ok (.goto (-62), 3) := by decide +kernel
theorem dX4_knee_100 : decode cX4_knee 100 = .ok (.iload_n 3, 1) := by decide +kernel
theorem dX4_knee_101 : decode cX4_knee 101 = .ok (.ireturn, 1) := by decide +kernel
theorem dX4_fraction_0 : decode cX4_fraction 0 = .ok (.lload_n 0, 1) := by decide +kernel
theorem dX4_fraction_1 : decode cX4_fraction 1 = .ok (.lconst 0, 1) := by decide +kernel
theorem dX4_fraction_2 : decode cX4_fraction 2 = .ok (.lcmp, 1) := by decide +kernel
theorem dX4_fraction_3 : decode cX4_fraction 3 = .ok (.ifCond .ge 8, 3) := by decide +kernel
theorem dX4_fraction_6 : decode cX4_fraction 6 = .ok (.lload_n 0, 1) := by decide +kernel
theorem dX4_fraction_7 : decode cX4_fraction 7 = .ok (.lneg, 1) := by decide +kernel
theorem dX4_fraction_8 : decode cX4_fraction 8 = .ok (.goto 4, 3) := by decide +kernel
theorem dX4_fraction_11 : decode cX4_fraction 11 = .ok (.lload_n 0, 1) := by decide +kernel
theorem dX4_fraction_12 : decode cX4_fraction 12 = .ok (.lstore 5, 2) := by decide +kernel
theorem dX4_fraction_14 : decode cX4_fraction 14 = .ok (.lload_n 2, 1) := by decide +kernel
theorem dX4_fraction_15 : decode cX4_fraction 15 = .ok (.lconst 0, 1) := by decide +kernel
theorem dX4_fraction_16 : decode cX4_fraction 16 = .ok (.lcmp, 1) := by decide +kernel
theorem dX4_fraction_17 : decode cX4_fraction 17 = .ok (.ifCond .ge 8, 3) := by decide +kernel
theorem dX4_fraction_20 : decode cX4_fraction 20 = .ok (.lload_n 2, 1) := by decide +kernel
theorem dX4_fraction_21 : decode cX4_fraction 21 = .ok (.lneg, 1) := by decide +kernel
theorem dX4_fraction_22 : decode cX4_fraction 22 = .ok (.goto 4, 3) := by decide +kernel
theorem dX4_fraction_25 : decode cX4_fraction 25 = .ok (.lload_n 2, 1) := by decide +kernel
theorem dX4_fraction_26 : decode cX4_fraction 26 = .ok (.lstore 7, 2) := by decide +kernel
theorem dX4_fraction_28 : decode cX4_fraction 28 = .ok (.lload 7, 2) := by decide +kernel
theorem dX4_fraction_30 : decode cX4_fraction 30 = .ok (.lconst 0, 1) := by decide +kernel
theorem dX4_fraction_31 : decode cX4_fraction 31 = .ok (.lcmp, 1) := by decide +kernel
theorem dX4_fraction_32 : decode cX4_fraction 32 = .ok (.ifCond .eq 21, 3) := by decide +kernel
theorem dX4_fraction_35 : decode cX4_fraction 35 = .ok (.lload 5, 2) := by decide +kernel
theorem dX4_fraction_37 : decode cX4_fraction 37 = .ok (.lload 7, 2) := by decide +kernel
theorem dX4_fraction_39 : decode cX4_fraction 39 = .ok (.lrem, 1) := by decide +kernel
theorem dX4_fraction_40 : decode cX4_fraction 40 = .ok (.lstore 9, 2) := by decide +kernel
theorem dX4_fraction_42 : decode cX4_fraction 42 = .ok (.lload 7, 2) := by decide +kernel
theorem dX4_fraction_44 : decode cX4_fraction 44 = .ok (.lstore 5, 2) := by decide +kernel
theorem dX4_fraction_46 : decode cX4_fraction 46 = .ok (.lload 9, 2) := by decide +kernel
theorem dX4_fraction_48 : decode cX4_fraction 48 = .ok (.lstore 7, 2) := by decide +kernel
theorem dX4_fraction_50 : decode cX4_fraction 50 = .ok (.goto (-22), 3) := by decide +kernel
theorem dX4_fraction_53 : decode cX4_fraction 53 = .ok (.lload_n 2, 1) := by decide +kernel
theorem dX4_fraction_54 : decode cX4_fraction 54 = .ok (.lconst 0, 1) := by decide +kernel
theorem dX4_fraction_55 : decode cX4_fraction 55 = .ok (.lcmp, 1) := by decide +kernel
theorem dX4_fraction_56 : decode cX4_fraction 56 = .ok (.ifCond .ge 9, 3) := by decide +kernel
theorem dX4_fraction_59 : decode cX4_fraction 59 = .ok (.lload 5, 2) := by decide +kernel
theorem dX4_fraction_61 : decode cX4_fraction 61 = .ok (.lneg, 1) := by decide +kernel
theorem dX4_fraction_62 : decode cX4_fraction 62 = .ok (.goto 5, 3) := by decide +kernel
theorem dX4_fraction_65 : decode cX4_fraction 65 = .ok (.lload 5, 2) := by decide +kernel
theorem dX4_fraction_67 : decode cX4_fraction 67 = .ok (.lstore 9, 2) := by decide +kernel
theorem dX4_fraction_69 : decode cX4_fraction 69 = .ok (.iload 4, 2) := by decide +kernel
theorem dX4_fraction_71 : decode cX4_fraction 71 = .ok (.ifCond .ne 10, 3) := by decide +kernel
theorem dX4_fraction_74 : decode cX4_fraction 74 = .ok (.lload_n 0, 1) := by decide +kernel
theorem dX4_fraction_75 : decode cX4_fraction 75 = .ok (.lload 9, 2) := by decide +kernel
theorem dX4_fraction_77 : decode cX4_fraction 77 = .ok (.ldiv, 1) := by decide +kernel
theorem dX4_fraction_78 : decode cX4_fraction 78 = .ok (.goto 7, 3) := by decide +kernel
theorem dX4_fraction_81 : decode cX4_fraction 81 = .ok (.lload_n 2, 1) := by decide +kernel
theorem dX4_fraction_82 : decode cX4_fraction 82 = .ok (.lload 9, 2) := by decide +kernel
theorem dX4_fraction_84 : decode cX4_fraction 84 = .ok (.ldiv, 1) := by decide +kernel
theorem dX4_fraction_85 : decode cX4_fraction 85 = .ok (.lreturn, 1) := by decide +kernel
set_option maxRecDepth 20000 in
theorem ggX4_fit_X4_isReading : GoodIn wsX4_fit wsX4_isReading := goodIn_r _ [8, 9, 10, 11, 7, 12, 16, 17, 18, 19, 20, 21, 22, 23, 24, 25, 26, 27, 28, 29, 30, 31, 32, 33, 34, 35, 36, 37, 38, 39, 40] (by decide +kernel) (by decide +kernel)
set_option maxRecDepth 20000 in
theorem gX4_fit_X4_isReading : GoodIn wsX4_fit (wsV RX4 168 RX4 yX4_isReading wsX4_isReading) := goodIn_app (goodIn_of _ (by decide +kernel)) ggX4_fit_X4_isReading
set_option maxRecDepth 20000 in
theorem ggX4_fit_X4_within : GoodIn wsX4_fit wsX4_within := goodIn_r _ [12] (by decide +kernel) (by decide +kernel)
set_option maxRecDepth 20000 in
theorem gX4_fit_X4_within : GoodIn wsX4_fit (va_wsS RX4 66 yX4_within wsX4_within) := goodIn_app (goodIn_of _ (by decide +kernel)) ggX4_fit_X4_within
set_option maxRecDepth 20000 in
theorem ggX4_fit_X4_fraction : GoodIn wsX4_fit wsX4_fraction := goodIn_r _ [15] (by decide +kernel) (by decide +kernel)
set_option maxRecDepth 20000 in
theorem gX4_fit_X4_fraction : GoodIn wsX4_fit (va_wsS RX4 177 yX4_fraction wsX4_fraction) := goodIn_app (goodIn_of _ (by decide +kernel)) ggX4_fit_X4_fraction
theorem dX4_fit_0 : decode cX4_fit 0 = .ok (.aload_n 0, 1) := by decide +kernel
theorem dX4_fit_1 : decode cX4_fit 1 = .ok (.iload_n 1, 1) := by decide +kernel
theorem dX4_fit_2 : decode cX4_fit 2 = .ok (.invokevirtual 168, 3) := by decide +kernel
theorem dX4_fit_5 : decode cX4_fit 5 = .ok (.ifCond .eq 25, 3) := by decide +kernel
theorem dX4_fit_8 : decode cX4_fit 8 = .ok (.aload_n 0, 1) := by decide +kernel
theorem dX4_fit_9 : decode cX4_fit 9 = .ok (.iload_n 2, 1) := by decide +kernel
theorem dX4_fit_10 : decode cX4_fit 10 = .ok (.invokevirtual 168, 3) := by decide +kernel
theorem dX4_fit_13 : decode cX4_fit 13 = .ok (.ifCond .eq 17, 3) := by decide +kernel
theorem dX4_fit_16 : decode cX4_fit 16 = .ok (.iload_n 1, 1) := by decide +kernel
theorem dX4_fit_17 : decode cX4_fit 17 = .ok (.iload_n 2, 1) := by decide +kernel
theorem dX4_fit_18 : decode cX4_fit 18 = .ok (.if_icmp .gt 12, 3) := by decide +kernel
theorem dX4_fit_21 : decode cX4_fit 21 = .ok (.iload_n 3, 1) := by decide +kernel
theorem dX4_fit_22 : decode cX4_fit 22 = .ok (.iconst 0, 1) := by decide +kernel
theorem dX4_fit_23 : decode cX4_fit 23 = .ok (.iconst 5, 1) := by decide +kernel
theorem dX4_fit_24 : decode cX4_fit 24 = .ok (.invokestatic 66, 3) := by decide +kernel
theorem dX4_fit_27 : decode cX4_fit 27 = .ok (.ifCond .ne 7, 3) := by decide +kernel
theorem dX4_fit_30 : decode cX4_fit 30 = .ok (.ldc2_w 175, 3) := by decide +kernel
theorem dX4_fit_33 : decode cX4_fit 33 = .ok (.lreturn, 1) := by decide +kernel
theorem dX4_fit_34 : decode cX4_fit 34 = .ok (.iload_n 2, 1) := by decide +kernel
theorem dX4_fit_35 : decode cX4_fit 35 = .ok (.iload_n 1, 1) := by decide +kernel
theorem dX4_fit_36 : decode cX4_fit 36 = .ok (.isub, 1) := by decide +kernel
theorem dX4_fit_37 : decode cX4_fit 37 = .ok (.iconst 1, 1) := by decide +kernel
theorem dX4_fit_38 : decode cX4_fit 38 = .ok (.iadd, 1) := by decide +kernel
theorem dX4_fit_39 : decode cX4_fit 39 = .ok (.i2l, 1) := by decide +kernel
theorem dX4_fit_40 : decode cX4_fit 40 = .ok (.lstore 4, 2) := by decide +kernel
theorem dX4_fit_42 : decode cX4_fit 42 = .ok (.lconst 0, 1) := by decide +kernel
theorem dX4_fit_43 : decode cX4_fit 43 = .ok (.lstore 6, 2) := by decide +kernel
theorem dX4_fit_45 : decode cX4_fit 45 = .ok (.lconst 0, 1) := by decide +kernel
theorem dX4_fit_46 : decode cX4_fit 46 = .ok (.lstore 8, 2) := by decide +kernel
theorem dX4_fit_48 : decode cX4_fit 48 = .ok (.lconst 0, 1) := by decide +kernel
theorem dX4_fit_49 : decode cX4_fit 49 = .ok (.lstore 10, 2) := by decide +kernel
theorem dX4_fit_51 : decode cX4_fit 51 = .ok (.lconst 0, 1) := by decide +kernel
theorem dX4_fit_52 : decode cX4_fit 52 = .ok (.lstore 12, 2) := by decide +kernel
theorem dX4_fit_54 : decode cX4_fit 54 = .ok (.iload_n 1, 1) := by decide +kernel
theorem dX4_fit_55 : decode cX4_fit 55 = .ok (.istore 14, 2) := by decide +kernel
theorem dX4_fit_57 : decode cX4_fit 57 = .ok (.iload 14, 2) := by decide +kernel
theorem dX4_fit_59 : decode cX4_fit 59 = .ok (.iload_n 2, 1) := by decide +kernel
theorem dX4_fit_60 : decode cX4_fit 60 = .ok (.if_icmp .gt 63, 3) := by decide +kernel
theorem dX4_fit_63 : decode cX4_fit 63 = .ok (.aload_n 0, 1) := by decide +kernel
theorem dX4_fit_64 : decode cX4_fit 64 = .ok (.getfield 51, 3) := by decide +kernel
theorem dX4_fit_67 : decode cX4_fit 67 = .ok (.iload 14, 2) := by decide +kernel
theorem dX4_fit_69 : decode cX4_fit 69 = .ok (.iaload, 1) := by decide +kernel
theorem dX4_fit_70 : decode cX4_fit 70 = .ok (.i2l, 1) := by decide +kernel
theorem dX4_fit_71 : decode cX4_fit 71 = .ok (.lstore 15, 2) := by decide +kernel
theorem dX4_fit_73 : decode cX4_fit 73 = .ok (.aload_n 0, 1) := by decide +kernel
theorem dX4_fit_74 : decode cX4_fit 74 = .ok (.getfield 54, 3) := by decide +kernel
theorem dX4_fit_77 : decode cX4_fit 77 = .ok (.iload 14, 2) := by decide +kernel
theorem dX4_fit_79 : decode cX4_fit 79 = .ok (.iaload, 1) := by decide +kernel
theorem dX4_fit_80 : decode cX4_fit 80 = .ok (.i2l, 1) := by decide +kernel
theorem dX4_fit_81 : decode cX4_fit 81 = .ok (.lstore 17, 2) := by decide +kernel
theorem dX4_fit_83 : decode cX4_fit 83 = .ok (.lload 6, 2) := by decide +kernel
theorem dX4_fit_85 : decode cX4_fit 85 = .ok (.lload 15, 2) := by decide +kernel
theorem dX4_fit_87 : decode cX4_fit 87 = .ok (.ladd, 1) := by decide +kernel
theorem dX4_fit_88 : decode cX4_fit 88 = .ok (.lstore 6, 2) := by decide +kernel
theorem dX4_fit_90 : decode cX4_fit 90 = .ok (.lload 8, 2) := by decide +kernel
theorem dX4_fit_92 : decode cX4_fit 92 = .ok (.lload 17, 2) := by decide +kernel
theorem dX4_fit_94 : decode cX4_fit 94 = .ok (.ladd, 1) := by decide +kernel
theorem dX4_fit_95 : decode cX4_fit 95 = .ok (.lstore 8, 2) := by decide +kernel
theorem dX4_fit_97 : decode cX4_fit 97 = .ok (.lload 10, 2) := by decide +kernel
theorem dX4_fit_99 : decode cX4_fit 99 = .ok (.lload 15, 2) := by decide +kernel
theorem dX4_fit_101 : decode cX4_fit 101 = .ok (.lload 17, 2) := by decide +kernel
theorem dX4_fit_103 : decode cX4_fit 103 = .ok (.lmul, 1) := by decide +kernel
theorem dX4_fit_104 : decode cX4_fit 104 = .ok (.ladd, 1) := by decide +kernel
theorem dX4_fit_105 : decode cX4_fit 105 = .ok (.lstore 10, 2) := by decide +kernel
theorem dX4_fit_107 : decode cX4_fit 107 = .ok (.lload 12, 2) := by decide +kernel
theorem dX4_fit_109 : decode cX4_fit 109 = .ok (.lload 15, 2) := by decide +kernel
theorem dX4_fit_111 : decode cX4_fit 111 = .ok (.lload 15, 2) := by decide +kernel
theorem dX4_fit_113 : decode cX4_fit 113 = .ok (.lmul, 1) := by decide +kernel
theorem dX4_fit_114 : decode cX4_fit 114 = .ok (.ladd, 1) := by decide +kernel
theorem dX4_fit_115 : decode cX4_fit 115 = .ok (.lstore 12, 2) := by decide +kernel
theorem dX4_fit_117 : decode cX4_fit 117 = .ok (.iinc 14 1, 3) := by decide +kernel
theorem dX4_fit_120 : decode cX4_fit 120 = .ok (.goto (-63), 3) := by decide +kernel
theorem dX4_fit_123 : decode cX4_fit 123 = .ok (.lload 4, 2) := by decide +kernel
theorem dX4_fit_125 : decode cX4_fit 125 = .ok (.lload 12, 2) := by decide +kernel
theorem dX4_fit_127 : decode cX4_fit 127 = .ok (.lmul, 1) := by decide +kernel
theorem dX4_fit_128 : decode cX4_fit 128 = .ok (.lload 6, 2) := by decide +kernel
theorem dX4_fit_130 : decode cX4_fit 130 = .ok (.lload 6, 2) := by decide +kernel
theorem dX4_fit_132 : decode cX4_fit 132 = .ok (.lmul, 1) := by decide +kernel
theorem dX4_fit_133 : decode cX4_fit 133 = .ok (.lsub, 1) := by decide +kernel
theorem dX4_fit_134 : decode cX4_fit 134 = .ok (.lstore 14, 2) := by decide +kernel
theorem dX4_fit_136 : decode cX4_fit 136 = .ok (.lload 4, 2) := by decide +kernel
theorem dX4_fit_138 : decode cX4_fit 138 = .ok (.lload 10, 2) := by decide +kernel
theorem dX4_fit_140 : decode cX4_fit 140 = .ok (.lmul, 1) := by decide +kernel
theorem dX4_fit_141 : decode cX4_fit 141 = .ok (.lload 6, 2) := by decide +kernel
theorem dX4_fit_143 : decode cX4_fit 143 = .ok (.lload 8, 2) := by decide +kernel
theorem dX4_fit_145 : decode cX4_fit 145 = .ok (.lmul, 1) := by decide +kernel
theorem dX4_fit_146 : decode cX4_fit 146 = .ok (.lsub, 1) := by decide +kernel
theorem dX4_fit_147 : decode cX4_fit 147 = .ok (.lstore 16, 2) := by decide +kernel
theorem dX4_fit_149 : decode cX4_fit 149 = .ok (.lload 8, 2) := by decide +kernel
theorem dX4_fit_151 : decode cX4_fit 151 = .ok (.lload 12, 2) := by decide +kernel
theorem dX4_fit_153 : decode cX4_fit 153 = .ok (.lmul, 1) := by decide +kernel
theorem dX4_fit_154 : decode cX4_fit 154 = .ok (.lload 6, 2) := by decide +kernel
theorem dX4_fit_156 : decode cX4_fit 156 = .ok (.lload 10, 2) := by decide +kernel
theorem dX4_fit_158 : decode cX4_fit 158 = .ok (.lmul, 1) := by decide +kernel
theorem dX4_fit_159 : decode cX4_fit 159 = .ok (.lsub, 1) := by decide +kernel
theorem dX4_fit_160 : decode cX4_fit 160 = .ok (.lstore 18, 2) := by decide +kernel
theorem dX4_fit_162 : decode cX4_fit 162 = .ok (.lload 14, 2) := by decide +kernel
theorem dX4_fit_164 : decode cX4_fit 164 = .ok (.lconst 0, 1) := by decide +kernel
theorem dX4_fit_165 : decode cX4_fit 165 = .ok (.lcmp, 1) := by decide +kernel
theorem dX4_fit_166 : decode cX4_fit 166 = .ok (.ifCond .eq 15, 3) := by decide +kernel
theorem dX4_fit_169 : decode cX4_fit 169 = .ok (.iload_n 3, 1) := by decide +kernel
theorem dX4_fit_170 : decode cX4_fit 170 = .ok (.iconst 3, 1) := by decide +kernel
theorem dX4_fit_171 : decode cX4_fit 171 = .ok (.if_icmp .le 14, 3) := by decide +kernel
theorem dX4_fit_174 : decode cX4_fit 174 = .ok (.lload 16, 2) := by decide +kernel
theorem dX4_fit_176 : decode cX4_fit 176 = .ok (.lconst 0, 1) := by decide +kernel
theorem dX4_fit_177 : decode cX4_fit 177 = .ok (.lcmp, 1) := by decide +kernel
theorem dX4_fit_178 : decode cX4_fit 178 = .ok (.ifCond .ne 7, 3) := by decide +kernel
theorem dX4_fit_181 : decode cX4_fit 181 = .ok (.ldc2_w 175, 3) := by decide +kernel
theorem dX4_fit_184 : decode cX4_fit 184 = .ok (.lreturn, 1) := by decide +kernel
theorem dX4_fit_185 : decode cX4_fit 185 = .ok (.iload_n 3, 1) := by decide +kernel
theorem dX4_fit_186 : decode cX4_fit 186 = .ok (.iconst 2, 1) := by decide +kernel
theorem dX4_fit_187 : decode cX4_fit 187 = .ok (.if_icmp .ge 14, 3) := by decide +kernel
theorem dX4_fit_190 : decode cX4_fit 190 = .ok (.lload 16, 2) := by decide +kernel
theorem dX4_fit_192 : decode cX4_fit 192 = .ok (.lload 14, 2) := by decide +kernel
theorem dX4_fit_194 : decode cX4_fit 194 = .ok (.iload_n 3, 1) := by decide +kernel
theorem dX4_fit_195 : decode cX4_fit 195 = .ok (.invokestatic 177, 3) := by decide +kernel
theorem dX4_fit_198 : decode cX4_fit 198 = .ok (.goto 32, 3) := by decide +kernel
theorem dX4_fit_201 : decode cX4_fit 201 = .ok (.iload_n 3, 1) := by decide +kernel
theorem dX4_fit_202 : decode cX4_fit 202 = .ok (.iconst 4, 1) := by decide +kernel
theorem dX4_fit_203 : decode cX4_fit 203 = .ok (.if_icmp .ge 16, 3) := by decide +kernel
theorem dX4_fit_206 : decode cX4_fit 206 = .ok (.lload 18, 2) := by decide +kernel
theorem dX4_fit_208 : decode cX4_fit 208 = .ok (.lload 14, 2) := by decide +kernel
theorem dX4_fit_210 : decode cX4_fit 210 = .ok (.iload_n 3, 1) := by decide +kernel
theorem dX4_fit_211 : decode cX4_fit 211 = .ok (.iconst 2, 1) := by decide +kernel
theorem dX4_fit_212 : decode cX4_fit 212 = .ok (.isub, 1) := by decide +kernel
theorem dX4_fit_213 : decode cX4_fit 213 = .ok (.invokestatic 177, 3) := by decide +kernel
theorem dX4_fit_216 : decode cX4_fit 216 = .ok (.goto 14, 3) := by decide +kernel
theorem dX4_fit_219 : decode cX4_fit 219 = .ok (.lload 18, 2) := by decide +kernel
theorem dX4_fit_221 : decode cX4_fit 221 = .ok (.lneg, 1) := by decide +kernel
theorem dX4_fit_222 : decode cX4_fit 222 = .ok (.lload 16, 2) := by decide +kernel
theorem dX4_fit_224 : decode cX4_fit 224 = .ok (.iload_n 3, 1) := by decide +kernel
theorem dX4_fit_225 : decode cX4_fit 225 = .ok (.iconst 4, 1) := by decide +kernel
theorem dX4_fit_226 : decode cX4_fit 226 = .ok (.isub, 1) := by decide +kernel
theorem dX4_fit_227 : decode cX4_fit 227 = .ok (.invokestatic 177, 3) := by decide +kernel
theorem dX4_fit_230 : decode cX4_fit 230 = .ok (.lreturn, 1) := by decide +kernel
set_option maxRecDepth 20000 in
theorem ggX4_gap_X4_isReading : GoodIn wsX4_gap wsX4_isReading := goodIn_r _ [7, 8, 9, 10, 6, 11, 15, 16, 17, 18, 19, 20, 21, 22, 23, 24, 25, 26, 27, 28, 29, 30, 31, 32, 33, 34, 35, 36, 37, 38, 39] (by decide +kernel) (by decide +kernel)
set_option maxRecDepth 20000 in
theorem gX4_gap_X4_isReading : GoodIn wsX4_gap (wsV RX4 168 RX4 yX4_isReading wsX4_isReading) := goodIn_app (goodIn_of _ (by decide +kernel)) ggX4_gap_X4_isReading
set_option maxRecDepth 20000 in
theorem ggX4_gap_X4_size : GoodIn wsX4_gap wsX4_size := goodIn_r _ [14] (by decide +kernel) (by decide +kernel)
set_option maxRecDepth 20000 in
theorem gX4_gap_X4_size : GoodIn wsX4_gap (va_wsS RX4 119 yX4_size wsX4_size) := goodIn_app (goodIn_of _ (by decide +kernel)) ggX4_gap_X4_size
theorem dX4_gap_0 : decode cX4_gap 0 = .ok (.aload_n 0, 1) := by decide +kernel
theorem dX4_gap_1 : decode cX4_gap 1 = .ok (.iload_n 1, 1) := by decide +kernel
theorem dX4_gap_2 : decode cX4_gap 2 = .ok (.invokevirtual 168, 3) := by decide +kernel
theorem dX4_gap_5 : decode cX4_gap 5 = .ok (.ifCond .eq 11, 3) := by decide +kernel
theorem dX4_gap_8 : decode cX4_gap 8 = .ok (.aload_n 0, 1) := by decide +kernel
theorem dX4_gap_9 : decode cX4_gap 9 = .ok (.iload_n 2, 1) := by decide +kernel
theorem dX4_gap_10 : decode cX4_gap 10 = .ok (.invokevirtual 168, 3) := by decide +kernel
theorem dX4_gap_13 : decode cX4_gap 13 = .ok (.ifCond .ne 5, 3) := by decide +kernel
theorem dX4_gap_16 : decode cX4_gap 16 = .ok (.iconst (-1), 1) := by decide +kernel
theorem dX4_gap_17 : decode cX4_gap 17 = .ok (.ireturn, 1) := by decide +kernel
theorem dX4_gap_18 : decode cX4_gap 18 = .ok (.iload_n 1, 1) := by decide +kernel
theorem dX4_gap_19 : decode cX4_gap 19 = .ok (.iload_n 2, 1) := by decide +kernel
theorem dX4_gap_20 : decode cX4_gap 20 = .ok (.if_icmp .le 6, 3) := by decide +kernel
theorem dX4_gap_23 : decode cX4_gap 23 = .ok (.bipush (-2), 2) := by decide +kernel
theorem dX4_gap_25 : decode cX4_gap 25 = .ok (.ireturn, 1) := by decide +kernel
theorem dX4_gap_26 : decode cX4_gap 26 = .ok (.iconst 0, 1) := by decide +kernel
theorem dX4_gap_27 : decode cX4_gap 27 = .ok (.istore_n 3, 1) := by decide +kernel
theorem dX4_gap_28 : decode cX4_gap 28 = .ok (.iload_n 1, 1) := by decide +kernel
theorem dX4_gap_29 : decode cX4_gap 29 = .ok (.istore 4, 2) := by decide +kernel
theorem dX4_gap_31 : decode cX4_gap 31 = .ok (.iload 4, 2) := by decide +kernel
theorem dX4_gap_33 : decode cX4_gap 33 = .ok (.iload_n 2, 1) := by decide +kernel
theorem dX4_gap_34 : decode cX4_gap 34 = .ok (.if_icmp .gt 79, 3) := by decide +kernel
theorem dX4_gap_37 : decode cX4_gap 37 = .ok (.iload_n 1, 1) := by decide +kernel
theorem dX4_gap_38 : decode cX4_gap 38 = .ok (.istore 5, 2) := by decide +kernel
theorem dX4_gap_40 : decode cX4_gap 40 = .ok (.iload 5, 2) := by decide +kernel
theorem dX4_gap_42 : decode cX4_gap 42 = .ok (.iload 4, 2) := by decide +kernel
theorem dX4_gap_44 : decode cX4_gap 44 = .ok (.if_icmp .ge 63, 3) := by decide +kernel
theorem dX4_gap_47 : decode cX4_gap 47 = .ok (.aload_n 0, 1) := by decide +kernel
theorem dX4_gap_48 : decode cX4_gap 48 = .ok (.getfield 48, 3) := by decide +kernel
theorem dX4_gap_51 : decode cX4_gap 51 = .ok (.iload 4, 2) := by decide +kernel
theorem dX4_gap_53 : decode cX4_gap 53 = .ok (.iaload, 1) := by decide +kernel
theorem dX4_gap_54 : decode cX4_gap 54 = .ok (.aload_n 0, 1) := by decide +kernel
theorem dX4_gap_55 : decode cX4_gap 55 = .ok (.getfield 48, 3) := by decide +kernel
theorem dX4_gap_58 : decode cX4_gap 58 = .ok (.iload 5, 2) := by decide +kernel
theorem dX4_gap_60 : decode cX4_gap 60 = .ok (.iaload, 1) := by decide +kernel
theorem dX4_gap_61 : decode cX4_gap 61 = .ok (.if_icmp .ne 24, 3) := by decide +kernel
theorem dX4_gap_64 : decode cX4_gap 64 = .ok (.aload_n 0, 1) := by decide +kernel
theorem dX4_gap_65 : decode cX4_gap 65 = .ok (.getfield 54, 3) := by decide +kernel
theorem dX4_gap_68 : decode cX4_gap 68 = .ok (.iload 4, 2) := by decide +kernel
theorem dX4_gap_70 : decode cX4_gap 70 = .ok (.iaload, 1) := by decide +kernel
theorem dX4_gap_71 : decode cX4_gap 71 = .ok (.aload_n 0, 1) := by decide +kernel
theorem dX4_gap_72 : decode cX4_gap 72 = .ok (.getfield 54, 3) := by decide +kernel
theorem dX4_gap_75 : decode cX4_gap 75 = .ok (.iload 5, 2) := by decide +kernel
theorem dX4_gap_77 : decode cX4_gap 77 = .ok (.iaload, 1) := by decide +kernel
theorem dX4_gap_78 : decode cX4_gap 78 = .ok (.isub, 1) := by decide +kernel
theorem dX4_gap_79 : decode cX4_gap 79 = .ok (.invokestatic 119, 3) := by decide +kernel
theorem dX4_gap_82 : decode cX4_gap 82 = .ok (.goto 4, 3) := by decide +kernel
theorem dX4_gap_85 : decode cX4_gap 85 = .ok (.iconst 0, 1) := by decide +kernel
theorem dX4_gap_86 : decode cX4_gap 86 = .ok (.istore 6, 2) := by decide +kernel
theorem dX4_gap_88 : decode cX4_gap 88 = .ok (.iload 6, 2) := by decide +kernel
theorem dX4_gap_90 : decode cX4_gap 90 = .ok (.iload_n 3, 1) := by decide +kernel
theorem dX4_gap_91 : decode cX4_gap 91 = .ok (.if_icmp .le 8, 3) := by decide +kernel
theorem dX4_gap_94 : decode cX4_gap 94 = .ok (.iload 6, 2) := by decide +kernel
theorem dX4_gap_96 : decode cX4_gap 96 = .ok (.goto 4, 3) := by decide +kernel
theorem dX4_gap_99 : decode cX4_gap 99 = .ok (.iload_n 3, 1) := by decide +kernel
theorem dX4_gap_100 : decode cX4_gap 100 = .ok (.istore_n 3, 1) := by decide +kernel
theorem dX4_gap_101 : decode cX4_gap 101 = .ok (.iinc 5 1, 3) := by decide +kernel
theorem dX4_gap_104 : decode cX4_gap 104 = .ok (.goto (-64), 3) := by decide +kernel
theorem dX4_gap_107 : decode cX4_gap 107 = .ok (.iinc 4 1, 3) := by decide +kernel
theorem dX4_gap_110 : decode cX4_gap 110 = .ok (.goto (-79), 3) := by decide +kernel
theorem dX4_gap_113 : decode cX4_gap 113 = .ok (.iload_n 3, 1) := by decide +kernel
theorem dX4_gap_114 : decode cX4_gap 114 = .ok (.ireturn, 1) := by decide +kernel
theorem dX4_manyRule_0 : decode cX4_manyRule 0 = .ok (.iconst 0, 1) := by decide +kernel
theorem dX4_manyRule_1 : decode cX4_manyRule 1 = .ok (.istore_n 2, 1) := by decide +kernel
theorem dX4_manyRule_2 : decode cX4_manyRule 2 = .ok (.iconst 0, 1) := by decide +kernel
theorem dX4_manyRule_3 : decode cX4_manyRule 3 = .ok (.istore_n 3, 1) := by decide +kernel
theorem dX4_manyRule_4 : decode cX4_manyRule 4 = .ok (.iload_n 3, 1) := by decide +kernel
theorem dX4_manyRule_5 : decode cX4_manyRule 5 = .ok (.aload_n 0, 1) := by decide +kernel
theorem dX4_manyRule_6 : decode cX4_manyRule 6 = .ok (.getfield 142, 3) := by decide +kernel
theorem dX4_manyRule_9 : decode cX4_manyRule 9 = .ok (.if_icmp .ge 27, 3) := by decide +kernel
theorem dX4_manyRule_12 : decode cX4_manyRule 12 = .ok (.iload_n 2, 1) := by decide +kernel
theorem dX4_manyRule_13 : decode cX4_manyRule 13 = .ok (.aload_n 0, 1) := by decide +kernel
theorem dX4_manyRule_14 : decode cX4_manyRule 14 = .ok (.getfield 57, 3) := by decide +kernel
theorem dX4_manyRule_17 : decode cX4_manyRule 17 = .ok (.iload_n 3, 1) := by decide +kernel
theorem dX4_manyRule_18 : decode cX4_manyRule 18 = .ok (.iaload, 1) := by decide +kernel
theorem dX4_manyRule_19 : decode cX4_manyRule 19 = .ok (.iload_n 1, 1) := by decide +kernel
theorem dX4_manyRule_20 : decode cX4_manyRule 20 = .ok (.if_icmp .ne 7, 3) := by decide +kernel
theorem dX4_manyRule_23 : decode cX4_manyRule 23 = .ok (.iconst 1, 1) := by decide +kernel
theorem dX4_manyRule_24 : decode cX4_manyRule 24 = .ok (.goto 4, 3) := by decide +kernel
theorem dX4_manyRule_27 : decode cX4_manyRule 27 = .ok (.iconst 0, 1) := by decide +kernel
theorem dX4_manyRule_28 : decode cX4_manyRule 28 = .ok (.iadd, 1) := by decide +kernel
theorem dX4_manyRule_29 : decode cX4_manyRule 29 = .ok (.istore_n 2, 1) := by decide +kernel
theorem dX4_manyRule_30 : decode cX4_manyRule 30 = .ok (.iinc 3 1, 3) := by decide +kernel
theorem dX4_manyRule_33 : decode cX4_manyRule 33 = .ok (.goto (-29), 3) := by decide +kernel
theorem dX4_manyRule_36 : decode cX4_manyRule 36 = .ok (.iload_n 2, 1) := by decide +kernel
theorem dX4_manyRule_37 : decode cX4_manyRule 37 = .ok (.ireturn, 1) := by decide +kernel
set_option maxRecDepth 20000 in
theorem ggX4_many_X4_manyRule : GoodIn wsX4_many wsX4_manyRule := goodIn_r _ [9, 4, 10, 11, 12, 13, 14, 15, 16, 17, 18, 19, 20, 21, 22, 23, 24, 25, 26, 27, 28, 29, 30, 31, 32, 33, 34, 35] (by decide +kernel) (by decide +kernel)
set_option maxRecDepth 20000 in
theorem gX4_many_X4_manyRule : GoodIn wsX4_many (wsV RX4 181 RX4 yX4_manyRule wsX4_manyRule) := goodIn_app (goodIn_of _ (by decide +kernel)) ggX4_many_X4_manyRule
theorem dX4_many_0 : decode cX4_many 0 = .ok (.iconst 0, 1) := by decide +kernel
theorem dX4_many_1 : decode cX4_many 1 = .ok (.istore_n 2, 1) := by decide +kernel
theorem dX4_many_2 : decode cX4_many 2 = .ok (.iconst 0, 1) := by decide +kernel
theorem dX4_many_3 : decode cX4_many 3 = .ok (.istore_n 3, 1) := by decide +kernel
theorem dX4_many_4 : decode cX4_many 4 = .ok (.iconst 0, 1) := by decide +kernel
theorem dX4_many_5 : decode cX4_many 5 = .ok (.istore 4, 2) := by decide +kernel
theorem dX4_many_7 : decode cX4_many 7 = .ok (.iconst 0, 1) := by decide +kernel
theorem dX4_many_8 : decode cX4_many 8 = .ok (.istore 5, 2) := by decide +kernel
theorem dX4_many_10 : decode cX4_many 10 = .ok (.iload 5, 2) := by decide +kernel
theorem dX4_many_12 : decode cX4_many 12 = .ok (.iconst 4, 1) := by decide +kernel
theorem dX4_many_13 : decode cX4_many 13 = .ok (.if_icmp .ge 88, 3) := by decide +kernel
theorem dX4_many_16 : decode cX4_many 16 = .ok (.iload_n 2, 1) := by decide +kernel
theorem dX4_many_17 : decode cX4_many 17 = .ok (.aload_n 0, 1) := by decide +kernel
theorem dX4_many_18 : decode cX4_many 18 = .ok (.getfield 7, 3) := by decide +kernel
theorem dX4_many_21 : decode cX4_many 21 = .ok (.iload 5, 2) := by decide +kernel
theorem dX4_many_23 : decode cX4_many 23 = .ok (.baload, 1) := by decide +kernel
theorem dX4_many_24 : decode cX4_many 24 = .ok (.ifCond .eq 7, 3) := by decide +kernel
theorem dX4_many_27 : decode cX4_many 27 = .ok (.iconst 1, 1) := by decide +kernel
theorem dX4_many_28 : decode cX4_many 28 = .ok (.goto 4, 3) := by decide +kernel
theorem dX4_many_31 : decode cX4_many 31 = .ok (.iconst 0, 1) := by decide +kernel
theorem dX4_many_32 : decode cX4_many 32 = .ok (.iadd, 1) := by decide +kernel
theorem dX4_many_33 : decode cX4_many 33 = .ok (.istore_n 2, 1) := by decide +kernel
theorem dX4_many_34 : decode cX4_many 34 = .ok (.iload_n 3, 1) := by decide +kernel
theorem dX4_many_35 : decode cX4_many 35 = .ok (.aload_n 0, 1) := by decide +kernel
theorem dX4_many_36 : decode cX4_many 36 = .ok (.getfield 7, 3) := by decide +kernel
theorem dX4_many_39 : decode cX4_many 39 = .ok (.iload 5, 2) := by decide +kernel
theorem dX4_many_41 : decode cX4_many 41 = .ok (.baload, 1) := by decide +kernel
theorem dX4_many_42 : decode cX4_many 42 = .ok (.ifCond .eq 17, 3) := by decide +kernel
theorem dX4_many_45 : decode cX4_many 45 = .ok (.aload_n 0, 1) := by decide +kernel
theorem dX4_many_46 : decode cX4_many 46 = .ok (.getfield 35, 3) := by decide +kernel
theorem dX4_many_49 : decode cX4_many 49 = .ok (.iload 5, 2) := by decide +kernel
theorem dX4_many_51 : decode cX4_many 51 = .ok (.baload, 1) := by decide +kernel
theorem dX4_many_52 : decode cX4_many 52 = .ok (.ifCond .eq 7, 3) := by decide +kernel
theorem dX4_many_55 : decode cX4_many 55 = .ok (.iconst 1, 1) := by decide +kernel
theorem dX4_many_56 : decode cX4_many 56 = .ok (.goto 4, 3) := by decide +kernel
theorem dX4_many_59 : decode cX4_many 59 = .ok (.iconst 0, 1) := by decide +kernel
theorem dX4_many_60 : decode cX4_many 60 = .ok (.iadd, 1) := by decide +kernel
theorem dX4_many_61 : decode cX4_many 61 = .ok (.istore_n 3, 1) := by decide +kernel
theorem dX4_many_62 : decode cX4_many 62 = .ok (.iconst 0, 1) := by decide +kernel
theorem dX4_many_63 : decode cX4_many 63 = .ok (.istore 6, 2) := by decide +kernel
theorem dX4_many_65 : decode cX4_many 65 = .ok (.iload 6, 2) := by decide +kernel
theorem dX4_many_67 : decode cX4_many 67 = .ok (.bipush 8, 2) := by decide +kernel
theorem dX4_many_69 : decode cX4_many 69 = .ok (.if_icmp .ge 26, 3) := by decide +kernel
theorem dX4_many_72 : decode cX4_many 72 = .ok (.iload 4, 2) := by decide +kernel
theorem dX4_many_74 : decode cX4_many 74 = .ok (.aload_n 0, 1) := by decide +kernel
theorem dX4_many_75 : decode cX4_many 75 = .ok (.getfield 41, 3) := by decide +kernel
theorem dX4_many_78 : decode cX4_many 78 = .ok (.iload 5, 2) := by decide +kernel
theorem dX4_many_80 : decode cX4_many 80 = .ok (.iaload, 1) := by decide +kernel
theorem dX4_many_81 : decode cX4_many 81 = .ok (.iload 6, 2) := by decide +kernel
theorem dX4_many_83 : decode cX4_many 83 = .ok (.ishr, 1) := by decide +kernel
theorem dX4_many_84 : decode cX4_many 84 = .ok (.iconst 1, 1) := by decide +kernel
theorem dX4_many_85 : decode cX4_many 85 = .ok (.iand, 1) := by decide +kernel
theorem dX4_many_86 : decode cX4_many 86 = .ok (.iadd, 1) := by decide +kernel
theorem dX4_many_87 : decode cX4_many 87 = .ok (.istore 4, 2) := by decide +kernel
theorem dX4_many_89 : decode cX4_many 89 = .ok (.iinc 6 1, 3) := by decide +kernel
theorem dX4_many_92 : decode cX4_many 92 = .ok (.goto (-27), 3) := by decide +kernel
theorem dX4_many_95 : decode cX4_many 95 = .ok (.iinc 5 1, 3) := by decide +kernel
theorem dX4_many_98 : decode cX4_many 98 = .ok (.goto (-88), 3) := by decide +kernel
theorem dX4_many_101 : decode cX4_many 101 = .ok (.iload_n 1, 1) := by decide +kernel
theorem dX4_many_102 : decode cX4_many 102 = .ok (.tableswitch 58 0 5 #[38, 40, 45, 48, 50, 50], 38) := by decide +kernel
theorem dX4_many_140 : decode cX4_many 140 = .ok (.iload_n 2, 1) := by decide +kernel
theorem dX4_many_141 : decode cX4_many 141 = .ok (.ireturn, 1) := by decide +kernel
theorem dX4_many_142 : decode cX4_many 142 = .ok (.aload_n 0, 1) := by decide +kernel
theorem dX4_many_143 : decode cX4_many 143 = .ok (.getfield 142, 3) := by decide +kernel
theorem dX4_many_146 : decode cX4_many 146 = .ok (.ireturn, 1) := by decide +kernel
theorem dX4_many_147 : decode cX4_many 147 = .ok (.iload 4, 2) := by decide +kernel
theorem dX4_many_149 : decode cX4_many 149 = .ok (.ireturn, 1) := by decide +kernel
theorem dX4_many_150 : decode cX4_many 150 = .ok (.iload_n 3, 1) := by decide +kernel
theorem dX4_many_151 : decode cX4_many 151 = .ok (.ireturn, 1) := by decide +kernel
theorem dX4_many_152 : decode cX4_many 152 = .ok (.aload_n 0, 1) := by decide +kernel
theorem dX4_many_153 : decode cX4_many 153 = .ok (.iload_n 1, 1) := by decide +kernel
theorem dX4_many_154 : decode cX4_many 154 = .ok (.iconst 3, 1) := by decide +kernel
theorem dX4_many_155 : decode cX4_many 155 = .ok (.isub, 1) := by decide +kernel
theorem dX4_many_156 : decode cX4_many 156 = .ok (.invokevirtual 181, 3) := by decide +kernel
theorem dX4_many_159 : decode cX4_many 159 = .ok (.ireturn, 1) := by decide +kernel
theorem dX4_many_160 : decode cX4_many 160 = .ok (.bipush (-2), 2) := by decide +kernel
theorem dX4_many_162 : decode cX4_many 162 = .ok (.ireturn, 1) := by decide +kernel
theorem dJ6_bitCount_0f7a4_0 : decode cJ6_bitCount_0f7a4 0 = .ok (.iload_n 0, 1) := by decide +kernel
theorem dJ6_bitCount_0f7a4_1 : decode cJ6_bitCount_0f7a4 1 = .ok (.iload_n 0, 1) := by decide +kernel
theorem dJ6_bitCount_0f7a4_2 : decode cJ6_bitCount_0f7a4 2 = .ok (.iconst 1, 1) := by decide +kernel
theorem dJ6_bitCount_0f7a4_3 : decode cJ6_bitCount_0f7a4 3 = .ok (.iushr, 1) := by decide +kernel
theorem dJ6_bitCount_0f7a4_4 : decode cJ6_bitCount_0f7a4 4 = .ok (.ldc_w 265, 3) := by decide +kernel
theorem dJ6_bitCount_0f7a4_7 : decode cJ6_bitCount_0f7a4 7 = .ok (.iand, 1) := by decide +kernel
theorem dJ6_bitCount_0f7a4_8 : decode cJ6_bitCount_0f7a4 8 = .ok (.isub, 1) := by decide +kernel
theorem dJ6_bitCount_0f7a4_9 : decode cJ6_bitCount_0f7a4 9 = .ok (.istore_n 0, 1) := by decide +kernel
theorem dJ6_bitCount_0f7a4_10 : decode cJ6_bitCount_0f7a4 10 = .ok (.iload_n 0, 1) := by decide +kernel
theorem dJ6_bitCount_0f7a4_11 : decode cJ6_bitCount_0f7a4 11 = .ok (.ldc_w 266, 3) := by decide +kernel
theorem dJ6_bitCount_0f7a4_14 : decode cJ6_bitCount_0f7a4 14 = .ok (.iand, 1) := by decide +kernel
theorem dJ6_bitCount_0f7a4_15 : decode cJ6_bitCount_0f7a4 15 = .ok (.iload_n 0, 1) := by decide +kernel
theorem dJ6_bitCount_0f7a4_16 : decode cJ6_bitCount_0f7a4 16 = .ok (.iconst 2, 1) := by decide +kernel
theorem dJ6_bitCount_0f7a4_17 : decode cJ6_bitCount_0f7a4 17 = .ok (.iushr, 1) := by decide +kernel
theorem dJ6_bitCount_0f7a4_18 : decode cJ6_bitCount_0f7a4 18 = .ok (.ldc_w 266, 3) := by decide +kernel
theorem dJ6_bitCount_0f7a4_21 : decode cJ6_bitCount_0f7a4 21 = .ok (.iand, 1) := by decide +kernel
theorem dJ6_bitCount_0f7a4_22 : decode cJ6_bitCount_0f7a4 22 = .ok (.iadd, 1) := by decide +kernel
theorem dJ6_bitCount_0f7a4_23 : decode cJ6_bitCount_0f7a4 23 = .ok (.istore_n 0, 1) := by decide +kernel
theorem dJ6_bitCount_0f7a4_24 : decode cJ6_bitCount_0f7a4 24 = .ok (.iload_n 0, 1) := by decide +kernel
theorem dJ6_bitCount_0f7a4_25 : decode cJ6_bitCount_0f7a4 25 = .ok (.iload_n 0, 1) := by decide +kernel
theorem dJ6_bitCount_0f7a4_26 : decode cJ6_bitCount_0f7a4 26 = .ok (.iconst 4, 1) := by decide +kernel
theorem dJ6_bitCount_0f7a4_27 : decode cJ6_bitCount_0f7a4 27 = .ok (.iushr, 1) := by decide +kernel
theorem dJ6_bitCount_0f7a4_28 : decode cJ6_bitCount_0f7a4 28 = .ok (.iadd, 1) := by decide +kernel
theorem dJ6_bitCount_0f7a4_29 : decode cJ6_bitCount_0f7a4 29 = .ok (.ldc_w 267, 3) := by decide +kernel
theorem dJ6_bitCount_0f7a4_32 : decode cJ6_bitCount_0f7a4 32 = .ok (.iand, 1) := by decide +kernel
theorem dJ6_bitCount_0f7a4_33 : decode cJ6_bitCount_0f7a4 33 = .ok (.istore_n 0, 1) := by decide +kernel
theorem dJ6_bitCount_0f7a4_34 : decode cJ6_bitCount_0f7a4 34 = .ok (.iload_n 0, 1) := by decide +kernel
theorem dJ6_bitCount_0f7a4_35 : decode cJ6_bitCount_0f7a4 35 = .ok (.iload_n 0, 1) := by decide +kernel
theorem dJ6_bitCount_0f7a4_36 : decode cJ6_bitCount_0f7a4 36 = .ok (.bipush 8, 2) := by decide +kernel
theorem dJ6_bitCount_0f7a4_38 : decode cJ6_bitCount_0f7a4 38 = .ok (.iushr, 1) := by decide +kernel
theorem dJ6_bitCount_0f7a4_39 : decode cJ6_bitCount_0f7a4 39 = .ok (.iadd, 1) := by decide +kernel
theorem dJ6_bitCount_0f7a4_40 : decode cJ6_bitCount_0f7a4 40 = .ok (.istore_n 0, 1) := by decide +kernel
theorem dJ6_bitCount_0f7a4_41 : decode cJ6_bitCount_0f7a4 41 = .ok (.iload_n 0, 1) := by decide +kernel
theorem dJ6_bitCount_0f7a4_42 : decode cJ6_bitCount_0f7a4 42 = .ok (.iload_n 0, 1) := by decide +kernel
theorem dJ6_bitCount_0f7a4_43 : decode cJ6_bitCount_0f7a4 43 = .ok (.bipush 16, 2) := by decide +kernel
theorem dJ6_bitCount_0f7a4_45 : decode cJ6_bitCount_0f7a4 45 = .ok (.iushr, 1) := by decide +kernel
theorem dJ6_bitCount_0f7a4_46 : decode cJ6_bitCount_0f7a4 46 = .ok (.iadd, 1) := by decide +kernel
theorem dJ6_bitCount_0f7a4_47 : decode cJ6_bitCount_0f7a4 47 = .ok (.istore_n 0, 1) := by decide +kernel
theorem dJ6_bitCount_0f7a4_48 : decode cJ6_bitCount_0f7a4 48 = .ok (.iload_n 0, 1) := by decide +kernel
theorem dJ6_bitCount_0f7a4_49 : decode cJ6_bitCount_0f7a4 49 = .ok (.bipush 63, 2) := by decide +kernel
theorem dJ6_bitCount_0f7a4_51 : decode cJ6_bitCount_0f7a4 51 = .ok (.iand, 1) := by decide +kernel
theorem dJ6_bitCount_0f7a4_52 : decode cJ6_bitCount_0f7a4 52 = .ok (.ireturn, 1) := by decide +kernel
theorem dJ9_floorDiv_7cf53_0 : decode cJ9_floorDiv_7cf53 0 = .ok (.iload_n 0, 1) := by decide +kernel
theorem dJ9_floorDiv_7cf53_1 : decode cJ9_floorDiv_7cf53 1 = .ok (.iload_n 1, 1) := by decide +kernel
theorem dJ9_floorDiv_7cf53_2 : decode cJ9_floorDiv_7cf53 2 = .ok (.idiv, 1) := by decide +kernel
theorem dJ9_floorDiv_7cf53_3 : decode cJ9_floorDiv_7cf53 3 = .ok (.istore_n 2, 1) := by decide +kernel
theorem dJ9_floorDiv_7cf53_4 : decode cJ9_floorDiv_7cf53 4 = .ok (.iload_n 0, 1) := by decide +kernel
theorem dJ9_floorDiv_7cf53_5 : decode cJ9_floorDiv_7cf53 5 = .ok (.iload_n 1, 1) := by decide +kernel
theorem dJ9_floorDiv_7cf53_6 : decode cJ9_floorDiv_7cf53 6 = .ok (.ixor, 1) := by decide +kernel
theorem dJ9_floorDiv_7cf53_7 : decode cJ9_floorDiv_7cf53 7 = .ok (.ifCond .ge 14, 3) := by decide +kernel
theorem dJ9_floorDiv_7cf53_10 : decode cJ9_floorDiv_7cf53 10 = .ok (.iload_n 2, 1) := by decide +kernel
theorem dJ9_floorDiv_7cf53_11 : decode cJ9_floorDiv_7cf53 11 = .ok (.iload_n 1, 1) := by decide +kernel
theorem dJ9_floorDiv_7cf53_12 : decode cJ9_floorDiv_7cf53 12 = .ok (.imul, 1) := by decide +kernel
theorem dJ9_floorDiv_7cf53_13 : decode cJ9_floorDiv_7cf53 13 = .ok (.iload_n 0, 1) := by decide +kernel
theorem dJ9_floorDiv_7cf53_14 : decode cJ9_floorDiv_7cf53 14 = .ok (.if_icmp .eq 7, 3) := by decide +kernel
theorem dJ9_floorDiv_7cf53_17 : decode cJ9_floorDiv_7cf53 17 = .ok (.iload_n 2, 1) := by decide +kernel
theorem dJ9_floorDiv_7cf53_18 : decode cJ9_floorDiv_7cf53 18 = .ok (.iconst 1, 1) := by decide +kernel
theorem dJ9_floorDiv_7cf53_19 : decode cJ9_floorDiv_7cf53 19 = .ok (.isub, 1) := by decide +kernel
theorem dJ9_floorDiv_7cf53_20 : decode cJ9_floorDiv_7cf53 20 = .ok (.ireturn, 1) := by decide +kernel
theorem dJ9_floorDiv_7cf53_21 : decode cJ9_floorDiv_7cf53 21 = .ok (.iload_n 2, 1) := by decide +kernel
theorem dJ9_floorDiv_7cf53_22 : decode cJ9_floorDiv_7cf53 22 = .ok (.ireturn, 1) := by decide +kernel
theorem dJ9_abs_0f7a4_0 : decode cJ9_abs_0f7a4 0 = .ok (.iload_n 0, 1) := by decide +kernel
theorem dJ9_abs_0f7a4_1 : decode cJ9_abs_0f7a4 1 = .ok (.ifCond .ge 8, 3) := by decide +kernel
theorem dJ9_abs_0f7a4_4 : decode cJ9_abs_0f7a4 4 = .ok (.iload_n 0, 1) := by decide +kernel
theorem dJ9_abs_0f7a4_5 : decode cJ9_abs_0f7a4 5 = .ok (.ineg, 1) := by decide +kernel
theorem dJ9_abs_0f7a4_6 : decode cJ9_abs_0f7a4 6 = .ok (.goto 4, 3) := by decide +kernel
theorem dJ9_abs_0f7a4_9 : decode cJ9_abs_0f7a4 9 = .ok (.iload_n 0, 1) := by decide +kernel
theorem dJ9_abs_0f7a4_10 : decode cJ9_abs_0f7a4 10 = .ok (.ireturn, 1) := by decide +kernel
theorem dJ9_abs_067f4_0 : decode cJ9_abs_067f4 0 = .ok (.lload_n 0, 1) := by decide +kernel
theorem dJ9_abs_067f4_1 : decode cJ9_abs_067f4 1 = .ok (.lconst 0, 1) := by decide +kernel
theorem dJ9_abs_067f4_2 : decode cJ9_abs_067f4 2 = .ok (.lcmp, 1) := by decide +kernel
theorem dJ9_abs_067f4_3 : decode cJ9_abs_067f4 3 = .ok (.ifCond .ge 8, 3) := by decide +kernel
theorem dJ9_abs_067f4_6 : decode cJ9_abs_067f4 6 = .ok (.lload_n 0, 1) := by decide +kernel
theorem dJ9_abs_067f4_7 : decode cJ9_abs_067f4 7 = .ok (.lneg, 1) := by decide +kernel
theorem dJ9_abs_067f4_8 : decode cJ9_abs_067f4 8 = .ok (.goto 4, 3) := by decide +kernel
theorem dJ9_abs_067f4_11 : decode cJ9_abs_067f4 11 = .ok (.lload_n 0, 1) := by decide +kernel
theorem dJ9_abs_067f4_12 : decode cJ9_abs_067f4 12 = .ok (.lreturn, 1) := by decide +kernel
theorem dJ9_max_7cf53_0 : decode cJ9_max_7cf53 0 = .ok (.iload_n 0, 1) := by decide +kernel
theorem dJ9_max_7cf53_1 : decode cJ9_max_7cf53 1 = .ok (.iload_n 1, 1) := by decide +kernel
theorem dJ9_max_7cf53_2 : decode cJ9_max_7cf53 2 = .ok (.if_icmp .lt 7, 3) := by decide +kernel
theorem dJ9_max_7cf53_5 : decode cJ9_max_7cf53 5 = .ok (.iload_n 0, 1) := by decide +kernel
theorem dJ9_max_7cf53_6 : decode cJ9_max_7cf53 6 = .ok (.goto 4, 3) := by decide +kernel
theorem dJ9_max_7cf53_9 : decode cJ9_max_7cf53 9 = .ok (.iload_n 1, 1) := by decide +kernel
theorem dJ9_max_7cf53_10 : decode cJ9_max_7cf53 10 = .ok (.ireturn, 1) := by decide +kernel
theorem dJ9_min_7cf53_0 : decode cJ9_min_7cf53 0 = .ok (.iload_n 0, 1) := by decide +kernel
theorem dJ9_min_7cf53_1 : decode cJ9_min_7cf53 1 = .ok (.iload_n 1, 1) := by decide +kernel
theorem dJ9_min_7cf53_2 : decode cJ9_min_7cf53 2 = .ok (.if_icmp .gt 7, 3) := by decide +kernel
theorem dJ9_min_7cf53_5 : decode cJ9_min_7cf53 5 = .ok (.iload_n 0, 1) := by decide +kernel
theorem dJ9_min_7cf53_6 : decode cJ9_min_7cf53 6 = .ok (.goto 4, 3) := by decide +kernel
theorem dJ9_min_7cf53_9 : decode cJ9_min_7cf53 9 = .ok (.iload_n 1, 1) := by decide +kernel
theorem dJ9_min_7cf53_10 : decode cJ9_min_7cf53 10 = .ok (.ireturn, 1) := by decide +kernel
end
section
set_option maxRecDepth 20000 in
theorem ggL_law_X3_init : GoodIn wsL_law wsX3_init := goodIn_r _ [8, 9, 10, 11, 12, 13, 14, 15, 16, 17, 18, 19, 20, 21, 22, 23, 24, 25, 26, 27, 28, 29, 30, 31, 32, 33, 34, 35, 36, 37, 38, 39, 40, 41, 42, 43, 44, 45, 579, 580, 581, 582, 583, 584, 585, 611, 612, 613, 614, 615, 616, 617, 618, 619, 620, 621, 622, 623, 624, 625, 626, 627, 628, 629, 630] (by decide +kernel) (by decide +kernel)
set_option maxRecDepth 20000 in
theorem gL_law_X3_init : GoodIn wsL_law (wsX3_init) := ggL_law_X3_init
set_option maxRecDepth 20000 in
theorem ggL_law_X4_init : GoodIn wsL_law wsX4_init := goodIn_r _ [48, 49, 10, 11, 50, 51, 14, 52, 53, 54, 55, 56, 57, 58, 59, 60, 61, 62, 63, 64, 65, 66, 67, 68, 586, 587, 588, 589, 590, 591, 592, 593, 594, 595, 596, 597, 598, 599, 600, 601, 602, 603, 604, 605, 606, 607, 608, 609, 610] (by decide +kernel) (by decide +kernel)
set_option maxRecDepth 20000 in
theorem gL_law_X4_init : GoodIn wsL_law (wsX4_init) := ggL_law_X4_init
set_option maxRecDepth 20000 in
theorem ggL_law_X3_part : GoodIn wsL_law wsX3_part := goodIn_r _ [72, 24, 13, 73, 74, 75, 2, 76, 77, 78, 79, 28, 80, 81, 82, 83, 84, 85, 86, 87, 88, 89, 90, 91, 92, 579, 580, 581, 582, 583, 584, 585, 619, 620, 621, 622, 623, 624, 625, 626, 627, 628, 629, 630] (by decide +kernel) (by decide +kernel)
set_option maxRecDepth 20000 in
theorem gL_law_X3_part : GoodIn wsL_law (wsV RL 13 RX3 yX3_part wsX3_part) := goodIn_app (goodIn_of _ (by decide +kernel)) ggL_law_X3_part
set_option maxRecDepth 20000 in
theorem ggL_law_X4_part : GoodIn wsL_law wsX4_part := goodIn_r _ [96, 97, 51, 52, 53, 54, 55, 58, 59, 60, 98, 99, 5, 100, 101, 102, 103, 586, 587, 588, 589, 590, 591, 592, 593, 594, 595, 596, 597, 598, 599, 600, 601, 602, 603, 604, 605, 606, 607, 608, 609, 610] (by decide +kernel) (by decide +kernel)
set_option maxRecDepth 20000 in
theorem gL_law_X4_part : GoodIn wsL_law (wsV RL 17 RX4 yX4_part wsX4_part) := goodIn_app (goodIn_of _ (by decide +kernel)) ggL_law_X4_part
set_option maxRecDepth 20000 in
theorem ggL_law_X3_remove : GoodIn wsL_law wsX3_remove := goodIn_r _ [107, 24, 73, 108, 109, 110, 2, 111, 13, 74, 75, 76, 579, 580, 581, 582, 583, 584, 585, 619, 620, 621, 622, 623, 624, 625, 626, 627, 628, 629, 630] (by decide +kernel) (by decide +kernel)
set_option maxRecDepth 20000 in
theorem gL_law_X3_remove : GoodIn wsL_law (wsV RL 18 RX3 yX3_remove wsX3_remove) := goodIn_app (goodIn_of _ (by decide +kernel)) ggL_law_X3_remove
set_option maxRecDepth 20000 in
theorem ggL_law_X4_remove : GoodIn wsL_law wsX4_remove := goodIn_r _ [115, 97, 51, 116, 117, 118, 5, 119, 98, 99, 100, 586, 587, 588, 589, 590, 591, 592, 593, 594, 595, 596, 597, 598, 599, 600, 601, 602, 603, 604, 605, 606, 607, 608, 609, 610] (by decide +kernel) (by decide +kernel)
set_option maxRecDepth 20000 in
theorem gL_law_X4_remove : GoodIn wsL_law (wsV RL 22 RX4 yX4_remove wsX4_remove) := goodIn_app (goodIn_of _ (by decide +kernel)) ggL_law_X4_remove
set_option maxRecDepth 20000 in
theorem ggL_law_X3_set : GoodIn wsL_law wsX3_set := goodIn_r _ [123, 108, 109, 110, 2, 111, 13, 73, 74, 75, 76, 124, 125, 28, 126, 127, 128, 129, 130, 131, 132, 88, 89, 90, 91, 92, 133, 134, 135, 136, 579, 580, 581, 582, 583, 584, 585, 619, 620, 621, 622, 623, 624, 625, 626, 627, 628, 629, 630] (by decide +kernel) (by decide +kernel)
set_option maxRecDepth 20000 in
theorem gL_law_X3_set : GoodIn wsL_law (wsV RL 23 RX3 yX3_set wsX3_set) := goodIn_app (goodIn_of _ (by decide +kernel)) ggL_law_X3_set
set_option maxRecDepth 20000 in
theorem ggL_law_X4_set : GoodIn wsL_law wsX4_set := goodIn_r _ [140, 56, 57, 55, 116, 117, 118, 5, 119, 51, 98, 99, 100, 141, 142, 143, 144, 586, 587, 588, 589, 590, 591, 592, 593, 594, 595, 596, 597, 598, 599, 600, 601, 602, 603, 604, 605, 606, 607, 608, 609, 610] (by decide +kernel) (by decide +kernel)
set_option maxRecDepth 20000 in
theorem gL_law_X4_set : GoodIn wsL_law (wsV RL 27 RX4 yX4_set wsX4_set) := goodIn_app (goodIn_of _ (by decide +kernel)) ggL_law_X4_set
set_option maxRecDepth 20000 in
theorem ggL_law_X3_ofPart : GoodIn wsL_law wsX3_ofPart := goodIn_r _ [148, 149, 150, 151, 152, 153, 154, 108, 109, 110, 2, 111, 13, 73, 74, 75, 76, 129, 130, 131, 28, 132, 88, 89, 90, 91, 92, 619, 620, 621, 622, 623, 624, 625, 626, 627, 628, 629, 630, 579, 580, 581, 582, 583, 584, 585] (by decide +kernel) (by decide +kernel)
set_option maxRecDepth 20000 in
theorem gL_law_X3_ofPart : GoodIn wsL_law (wsV RL 28 RX3 yX3_ofPart wsX3_ofPart) := goodIn_app (goodIn_of _ (by decide +kernel)) ggL_law_X3_ofPart
set_option maxRecDepth 20000 in
theorem ggL_law_X4_ofPart : GoodIn wsL_law wsX4_ofPart := goodIn_r _ [158, 52, 53, 54, 58, 59, 60, 116, 117, 118, 5, 119, 51, 98, 99, 100, 141, 142, 143, 144, 55, 586, 587, 588, 589, 590, 591, 592, 593, 594, 595, 596, 597, 598, 599, 600, 601, 602, 603, 604, 605, 606, 607, 608, 609, 610] (by decide +kernel) (by decide +kernel)
set_option maxRecDepth 20000 in
theorem gL_law_X4_ofPart : GoodIn wsL_law (wsV RL 32 RX4 yX4_ofPart wsX4_ofPart) := goodIn_app (goodIn_of _ (by decide +kernel)) ggL_law_X4_ofPart
set_option maxRecDepth 20000 in
theorem ggL_law_X3_relay : GoodIn wsL_law wsX3_relay := goodIn_r _ [162, 24, 15, 74, 75, 2, 76, 163, 164, 165, 166, 579, 580, 581, 582, 583, 584, 585] (by decide +kernel) (by decide +kernel)
set_option maxRecDepth 20000 in
theorem gL_law_X3_relay : GoodIn wsL_law (wsV RL 33 RX3 yX3_relay wsX3_relay) := goodIn_app (goodIn_of _ (by decide +kernel)) ggL_law_X3_relay
set_option maxRecDepth 20000 in
theorem ggL_law_X4_relay : GoodIn wsL_law wsX4_relay := goodIn_r _ [170, 61, 97, 171, 172, 5, 173, 98, 99, 100, 101, 102, 103, 586, 587, 588, 589, 590, 591, 592, 593, 594, 595, 596, 597, 598, 599, 600, 601, 602, 603, 604, 605, 606, 607, 608, 609, 610] (by decide +kernel) (by decide +kernel)
set_option maxRecDepth 20000 in
theorem gL_law_X4_relay : GoodIn wsL_law (wsV RL 36 RX4 yX4_relay wsX4_relay) := goodIn_app (goodIn_of _ (by decide +kernel)) ggL_law_X4_relay
set_option maxRecDepth 20000 in
theorem ggL_law_X3_pins : GoodIn wsL_law wsX3_pins := goodIn_r _ [177, 15, 74, 75, 2, 76, 579, 580, 581, 582, 583, 584, 585] (by decide +kernel) (by decide +kernel)
set_option maxRecDepth 20000 in
theorem gL_law_X3_pins : GoodIn wsL_law (wsV RL 37 RX3 yX3_pins wsX3_pins) := goodIn_app (goodIn_of _ (by decide +kernel)) ggL_law_X3_pins
set_option maxRecDepth 20000 in
theorem ggL_law_X4_pins : GoodIn wsL_law wsX4_pins := goodIn_r _ [181, 61, 171, 172, 5, 173, 98, 99, 100, 586, 587, 588, 589, 590, 591, 592, 593, 594, 595, 596, 597, 598, 599, 600, 601, 602, 603, 604, 605, 606, 607, 608, 609, 610] (by decide +kernel) (by decide +kernel)
set_option maxRecDepth 20000 in
theorem gL_law_X4_pins : GoodIn wsL_law (wsV RL 40 RX4 yX4_pins wsX4_pins) := goodIn_app (goodIn_of _ (by decide +kernel)) ggL_law_X4_pins
set_option maxRecDepth 20000 in
theorem ggL_law_X3_power : GoodIn wsL_law wsX3_power := goodIn_r _ [185, 24, 74, 75, 2, 76, 186, 187, 188, 189, 13, 73, 190, 191, 192, 193, 15, 194, 195, 196, 197, 198, 199, 200, 201, 202, 203, 204, 149, 150, 579, 580, 581, 582, 583, 584, 585, 619, 620, 621, 622, 623, 624, 625, 626, 627, 628, 629, 630] (by decide +kernel) (by decide +kernel)
set_option maxRecDepth 20000 in
theorem gL_law_X3_power : GoodIn wsL_law (wsV RL 41 RX3 yX3_power wsX3_power) := goodIn_app (goodIn_of _ (by decide +kernel)) ggL_law_X3_power
set_option maxRecDepth 20000 in
theorem ggL_law_X4_power : GoodIn wsL_law wsX4_power := goodIn_r _ [208, 97, 98, 99, 5, 100, 209, 210, 211, 212, 52, 53, 51, 213, 214, 215, 216, 61, 586, 587, 588, 589, 590, 591, 592, 593, 594, 595, 596, 597, 598, 599, 600, 601, 602, 603, 604, 605, 606, 607, 608, 609, 610] (by decide +kernel) (by decide +kernel)
set_option maxRecDepth 20000 in
theorem gL_law_X4_power : GoodIn wsL_law (wsV RL 44 RX4 yX4_power wsX4_power) := goodIn_app (goodIn_of _ (by decide +kernel)) ggL_law_X4_power
set_option maxRecDepth 20000 in
theorem ggL_law_X3_limit : GoodIn wsL_law wsX3_limit := goodIn_r _ [220, 25, 74, 75, 2, 76, 579, 580, 581, 582, 583, 584, 585] (by decide +kernel) (by decide +kernel)
set_option maxRecDepth 20000 in
theorem gL_law_X3_limit : GoodIn wsL_law (wsV RL 45 RX3 yX3_limit wsX3_limit) := goodIn_app (goodIn_of _ (by decide +kernel)) ggL_law_X3_limit
set_option maxRecDepth 20000 in
theorem ggL_law_X4_limit : GoodIn wsL_law wsX4_limit := goodIn_r _ [224, 62, 98, 99, 5, 100, 586, 587, 588, 589, 590, 591, 592, 593, 594, 595, 596, 597, 598, 599, 600, 601, 602, 603, 604, 605, 606, 607, 608, 609, 610] (by decide +kernel) (by decide +kernel)
set_option maxRecDepth 20000 in
theorem gL_law_X4_limit : GoodIn wsL_law (wsV RL 48 RX4 yX4_limit wsX4_limit) := goodIn_app (goodIn_of _ (by decide +kernel)) ggL_law_X4_limit
set_option maxRecDepth 20000 in
theorem ggL_law_X3_leads : GoodIn wsL_law wsX3_leads := goodIn_r _ [228, 26, 74, 75, 2, 76, 579, 580, 581, 582, 583, 584, 585] (by decide +kernel) (by decide +kernel)
set_option maxRecDepth 20000 in
theorem gL_law_X3_leads : GoodIn wsL_law (wsV RL 49 RX3 yX3_leads wsX3_leads) := goodIn_app (goodIn_of _ (by decide +kernel)) ggL_law_X3_leads
set_option maxRecDepth 20000 in
theorem ggL_law_X4_leads : GoodIn wsL_law wsX4_leads := goodIn_r _ [232, 233, 98, 99, 5, 100, 586, 587, 588, 589, 590, 591, 592, 593, 594, 595, 596, 597, 598, 599, 600, 601, 602, 603, 604, 605, 606, 607, 608, 609, 610] (by decide +kernel) (by decide +kernel)
set_option maxRecDepth 20000 in
theorem gL_law_X4_leads : GoodIn wsL_law (wsV RL 52 RX4 yX4_leads wsX4_leads) := goodIn_app (goodIn_of _ (by decide +kernel)) ggL_law_X4_leads
set_option maxRecDepth 20000 in
theorem ggL_law_X3_now : GoodIn wsL_law wsX3_now := goodIn_r _ [237, 24, 25, 26, 186, 187, 188, 2, 189, 13, 73, 190, 191, 192, 193, 15, 194, 195, 196, 197, 198, 199, 200, 201, 202, 203, 204, 149, 150, 238, 239, 240, 241, 579, 580, 581, 582, 583, 584, 585, 619, 620, 621, 622, 623, 624, 625, 626, 627, 628, 629, 630] (by decide +kernel) (by decide +kernel)
set_option maxRecDepth 20000 in
theorem gL_law_X3_now : GoodIn wsL_law (wsV RL 53 RX3 yX3_now wsX3_now) := goodIn_app (goodIn_of _ (by decide +kernel)) ggL_law_X3_now
set_option maxRecDepth 20000 in
theorem ggL_law_X4_now : GoodIn wsL_law wsX4_now := goodIn_r _ [245, 97, 62, 233, 209, 210, 211, 5, 212, 52, 53, 51, 213, 214, 215, 216, 61, 246, 247, 248, 249, 586, 587, 588, 589, 590, 591, 592, 593, 594, 595, 596, 597, 598, 599, 600, 601, 602, 603, 604, 605, 606, 607, 608, 609, 610] (by decide +kernel) (by decide +kernel)
set_option maxRecDepth 20000 in
theorem gL_law_X4_now : GoodIn wsL_law (wsV RL 56 RX4 yX4_now wsX4_now) := goodIn_app (goodIn_of _ (by decide +kernel)) ggL_law_X4_now
set_option maxRecDepth 20000 in
theorem ggL_law_X3_amps : GoodIn wsL_law wsX3_amps := goodIn_r _ [253, 254, 108, 109, 110, 2, 111, 13, 73, 74, 75, 76, 255, 256, 257, 258, 259, 260, 28, 261, 92, 87, 82, 262, 263, 264, 265, 86, 83, 88, 90, 89, 266, 267, 268, 269, 579, 580, 581, 582, 583, 584, 585, 619, 620, 621, 622, 623, 624, 625, 626, 627, 628, 629, 630] (by decide +kernel) (by decide +kernel)
set_option maxRecDepth 20000 in
theorem gL_law_X3_amps : GoodIn wsL_law (wsV RL 57 RX3 yX3_amps wsX3_amps) := goodIn_app (goodIn_of _ (by decide +kernel)) ggL_law_X3_amps
set_option maxRecDepth 20000 in
theorem ggL_law_X4_amps : GoodIn wsL_law wsX4_amps := goodIn_r _ [273, 274, 116, 117, 118, 5, 119, 51, 98, 99, 100, 275, 276, 277, 278, 59, 58, 279, 280, 281, 282, 54, 60, 141, 142, 143, 144, 55, 283, 284, 285, 586, 587, 588, 589, 590, 591, 592, 593, 594, 595, 596, 597, 598, 599, 600, 601, 602, 603, 604, 605, 606, 607, 608, 609, 610] (by decide +kernel) (by decide +kernel)
set_option maxRecDepth 20000 in
theorem gL_law_X4_amps : GoodIn wsL_law (wsV RL 60 RX4 yX4_amps wsX4_amps) := goodIn_app (goodIn_of _ (by decide +kernel)) ggL_law_X4_amps
set_option maxRecDepth 20000 in
theorem ggL_law_X3_would : GoodIn wsL_law wsX3_would := goodIn_r _ [289, 254, 255, 256, 2, 257, 74, 75, 76, 186, 187, 188, 189, 13, 73, 190, 191, 192, 193, 15, 194, 195, 196, 197, 198, 199, 200, 201, 202, 203, 204, 149, 150, 108, 109, 110, 111, 290, 291, 292, 293, 294, 295, 296, 297, 298, 299, 300, 301, 25, 302, 303, 304, 305, 306, 307, 308, 309, 258, 259, 260, 28, 261, 92, 87, 82, 262, 263, 264, 265, 86, 83, 88, 90, 89, 266, 267, 268, 269, 238, 239, 240, 241, 310, 311, 312, 313, 26, 314, 315, 316, 317, 318, 319, 320, 321, 322, 579, 580, 581, 582, 583, 584, 585, 619, 620, 621, 622, 623, 624, 625, 626, 627, 628, 629, 630] (by decide +kernel) (by decide +kernel)
set_option maxRecDepth 20000 in
theorem gL_law_X3_would : GoodIn wsL_law (wsV RL 61 RX3 yX3_would wsX3_would) := goodIn_app (goodIn_of _ (by decide +kernel)) ggL_law_X3_would
set_option maxRecDepth 20000 in
theorem ggL_law_X4_would : GoodIn wsL_law wsX4_would := goodIn_r _ [326, 327, 274, 328, 98, 99, 5, 100, 209, 210, 211, 212, 52, 53, 51, 213, 214, 215, 216, 61, 329, 330, 331, 332, 333, 334, 335, 336, 62, 337, 338, 339, 340, 341, 342, 343, 344, 275, 276, 277, 278, 59, 58, 279, 280, 281, 282, 54, 60, 141, 142, 143, 144, 55, 283, 284, 285, 345, 346, 347, 246, 247, 248, 249, 348, 349, 350, 351, 233, 586, 587, 588, 589, 590, 591, 592, 593, 594, 595, 596, 597, 598, 599, 600, 601, 602, 603, 604, 605, 606, 607, 608, 609, 610] (by decide +kernel) (by decide +kernel)
set_option maxRecDepth 20000 in
theorem gL_law_X4_would : GoodIn wsL_law (wsV RL 64 RX4 yX4_would wsX4_would) := goodIn_app (goodIn_of _ (by decide +kernel)) ggL_law_X4_would
set_option maxRecDepth 20000 in
theorem ggL_law_X3_pulse : GoodIn wsL_law wsX3_pulse := goodIn_r _ [355, 24, 19, 23, 356, 255, 256, 2, 257, 74, 75, 76, 186, 187, 188, 189, 13, 73, 190, 191, 192, 193, 15, 194, 195, 196, 197, 198, 199, 200, 201, 202, 203, 204, 149, 150, 108, 109, 110, 111, 357, 358, 359, 18, 360, 36, 361, 362, 363, 22, 364, 42, 365, 366, 367, 368, 154, 290, 291, 292, 293, 294, 295, 296, 297, 298, 299, 300, 301, 25, 302, 303, 304, 305, 306, 307, 308, 309, 258, 259, 260, 28, 261, 92, 87, 82, 262, 263, 264, 265, 86, 83, 88, 90, 89, 266, 267, 268, 269, 238, 239, 240, 241, 310, 311, 312, 313, 26, 314, 369, 370, 371, 372, 315, 316, 317, 318, 319, 320, 321, 322, 373, 374, 375, 376, 32, 33, 34, 35, 377, 378, 379, 380, 381, 382, 383, 384, 385, 386, 387, 388, 389, 390, 391, 392, 91, 393, 394, 395, 396, 397, 398, 399, 400, 40, 41, 579, 580, 581, 582, 583, 584, 585, 611, 612, 613, 614, 615, 619, 620, 621, 622, 623, 624, 625, 626, 627, 628, 629, 630, 616, 617, 618] (by decide +kernel) (by decide +kernel)
set_option maxRecDepth 20000 in
theorem gL_law_X3_pulse : GoodIn wsL_law (wsV RL 65 RX3 yX3_pulse wsX3_pulse) := goodIn_app (goodIn_of _ (by decide +kernel)) ggL_law_X3_pulse
set_option maxRecDepth 20000 in
theorem ggL_law_X4_pulse : GoodIn wsL_law wsX4_pulse := goodIn_r _ [404, 97, 405, 406, 407, 98, 99, 5, 100, 408, 409, 410, 411, 327, 54, 60, 59, 63, 64, 65, 66, 328, 209, 210, 211, 212, 52, 53, 51, 213, 214, 215, 216, 61, 329, 330, 331, 332, 333, 334, 335, 336, 62, 337, 338, 339, 340, 341, 342, 343, 344, 275, 276, 277, 278, 58, 279, 280, 281, 282, 141, 142, 143, 144, 55, 283, 284, 285, 345, 346, 347, 246, 247, 248, 249, 348, 349, 350, 351, 233, 412, 413, 414, 415, 416, 417, 418, 419, 420, 67, 68, 586, 587, 588, 589, 590, 591, 592, 593, 594, 595, 596, 597, 598, 599, 600, 601, 602, 603, 604, 605, 606, 607, 608, 609, 610] (by decide +kernel) (by decide +kernel)
set_option maxRecDepth 20000 in
theorem gL_law_X4_pulse : GoodIn wsL_law (wsV RL 68 RX4 yX4_pulse wsX4_pulse) := goodIn_app (goodIn_of _ (by decide +kernel)) ggL_law_X4_pulse
set_option maxRecDepth 20000 in
theorem ggL_law_X3_rest : GoodIn wsL_law wsX3_rest := goodIn_r _ [424, 13, 73, 152, 425, 426, 296, 427, 74, 75, 2, 76, 428, 429, 430, 431, 432, 433, 434, 28, 435, 87, 579, 580, 581, 582, 583, 584, 585, 619, 620, 621, 622, 623, 624, 625, 626, 627, 628, 629, 630] (by decide +kernel) (by decide +kernel)
set_option maxRecDepth 20000 in
theorem gL_law_X3_rest : GoodIn wsL_law (wsV RL 69 RX3 yX3_rest wsX3_rest) := goodIn_app (goodIn_of _ (by decide +kernel)) ggL_law_X3_rest
set_option maxRecDepth 20000 in
theorem ggL_law_X4_rest : GoodIn wsL_law wsX4_rest := goodIn_r _ [439, 51, 58, 98, 99, 5, 100, 440, 441, 442, 443, 586, 587, 588, 589, 590, 591, 592, 593, 594, 595, 596, 597, 598, 599, 600, 601, 602, 603, 604, 605, 606, 607, 608, 609, 610] (by decide +kernel) (by decide +kernel)
set_option maxRecDepth 20000 in
theorem gL_law_X4_rest : GoodIn wsL_law (wsV RL 72 RX4 yX4_rest wsX4_rest) := goodIn_app (goodIn_of _ (by decide +kernel)) ggL_law_X4_rest
set_option maxRecDepth 20000 in
theorem ggL_law_X3_sweep : GoodIn wsL_law wsX3_sweep := goodIn_r _ [447, 24, 294, 295, 296, 297, 19, 23, 255, 256, 2, 257, 74, 75, 76, 186, 187, 188, 189, 13, 73, 190, 191, 192, 193, 15, 194, 195, 196, 197, 198, 199, 200, 201, 202, 203, 204, 149, 150, 108, 109, 110, 111, 357, 358, 359, 18, 360, 36, 361, 362, 363, 22, 364, 42, 365, 366, 367, 368, 154, 290, 291, 292, 293, 298, 299, 300, 301, 25, 302, 303, 304, 305, 306, 307, 308, 309, 258, 259, 260, 28, 261, 92, 87, 82, 262, 263, 264, 265, 86, 83, 88, 90, 89, 266, 267, 268, 269, 238, 239, 240, 241, 310, 311, 312, 313, 26, 314, 369, 370, 371, 372, 315, 316, 317, 318, 319, 320, 321, 322, 373, 374, 375, 376, 32, 33, 34, 35, 377, 378, 379, 380, 381, 382, 383, 384, 385, 386, 387, 388, 389, 390, 391, 392, 91, 397, 398, 399, 400, 40, 41, 393, 394, 395, 396, 428, 429, 430, 431, 432, 433, 434, 435, 579, 580, 581, 582, 583, 584, 585, 619, 620, 621, 622, 623, 624, 625, 626, 627, 628, 629, 630, 611, 612, 613, 614, 615, 616, 617, 618] (by decide +kernel) (by decide +kernel)
set_option maxRecDepth 20000 in
theorem gL_law_X3_sweep : GoodIn wsL_law (wsV RL 73 RX3 yX3_sweep wsX3_sweep) := goodIn_app (goodIn_of _ (by decide +kernel)) ggL_law_X3_sweep
set_option maxRecDepth 20000 in
theorem ggL_law_X4_sweep : GoodIn wsL_law wsX4_sweep := goodIn_r _ [451, 97, 405, 406, 407, 452, 453, 5, 454, 98, 99, 100, 345, 346, 347, 408, 409, 410, 411, 327, 54, 60, 59, 63, 64, 65, 66, 328, 209, 210, 211, 212, 52, 53, 51, 213, 214, 215, 216, 61, 329, 330, 331, 332, 333, 334, 335, 336, 62, 337, 338, 339, 340, 341, 342, 343, 344, 275, 276, 277, 278, 58, 279, 280, 281, 282, 141, 142, 143, 144, 55, 283, 284, 285, 246, 247, 248, 249, 348, 349, 350, 351, 233, 412, 413, 414, 415, 416, 417, 418, 419, 420, 67, 68, 440, 441, 442, 443, 586, 587, 588, 589, 590, 591, 592, 593, 594, 595, 596, 597, 598, 599, 600, 601, 602, 603, 604, 605, 606, 607, 608, 609, 610] (by decide +kernel) (by decide +kernel)
set_option maxRecDepth 20000 in
theorem gL_law_X4_sweep : GoodIn wsL_law (wsV RL 77 RX4 yX4_sweep wsX4_sweep) := goodIn_app (goodIn_of _ (by decide +kernel)) ggL_law_X4_sweep
set_option maxRecDepth 20000 in
theorem ggL_law_X3_why : GoodIn wsL_law wsX3_why := goodIn_r _ [458, 23, 459, 460, 461, 74, 75, 2, 76, 579, 580, 581, 582, 583, 584, 585, 616, 617, 618] (by decide +kernel) (by decide +kernel)
set_option maxRecDepth 20000 in
theorem gL_law_X3_why : GoodIn wsL_law (wsV RL 78 RX3 yX3_why wsX3_why) := goodIn_app (goodIn_of _ (by decide +kernel)) ggL_law_X3_why
set_option maxRecDepth 20000 in
theorem ggL_law_X4_why : GoodIn wsL_law wsX4_why := goodIn_r _ [465, 406, 67, 68, 98, 99, 5, 100, 586, 587, 588, 589, 590, 591, 592, 593, 594, 595, 596, 597, 598, 599, 600, 601, 602, 603, 604, 605, 606, 607, 608, 609, 610] (by decide +kernel) (by decide +kernel)
set_option maxRecDepth 20000 in
theorem gL_law_X4_why : GoodIn wsL_law (wsV RL 81 RX4 yX4_why wsX4_why) := goodIn_app (goodIn_of _ (by decide +kernel)) ggL_law_X4_why
set_option maxRecDepth 20000 in
theorem ggL_law_X3_reading : GoodIn wsL_law wsX3_reading := goodIn_r _ [469, 19, 470, 471, 472, 254, 473, 474, 475, 476, 18, 477, 36, 579, 580, 581, 582, 583, 584, 585, 611, 612, 613, 614, 615] (by decide +kernel) (by decide +kernel)
set_option maxRecDepth 20000 in
theorem gL_law_X3_reading : GoodIn wsL_law (wsV RL 82 RX3 yX3_reading wsX3_reading) := goodIn_app (goodIn_of _ (by decide +kernel)) ggL_law_X3_reading
set_option maxRecDepth 20000 in
theorem ggL_law_X4_reading : GoodIn wsL_law wsX4_reading := goodIn_r _ [481, 63, 64, 65, 274, 66, 482, 483, 484, 5, 485, 405, 98, 99, 100, 586, 587, 588, 589, 590, 591, 592, 593, 594, 595, 596, 597, 598, 599, 600, 601, 602, 603, 604, 605, 606, 607, 608, 609, 610] (by decide +kernel) (by decide +kernel)
set_option maxRecDepth 20000 in
theorem gL_law_X4_reading : GoodIn wsL_law (wsV RL 85 RX4 yX4_reading wsX4_reading) := goodIn_app (goodIn_of _ (by decide +kernel)) ggL_law_X4_reading
set_option maxRecDepth 20000 in
theorem ggL_law_X3_clear : GoodIn wsL_law wsX3_clear := goodIn_r _ [489, 19, 356, 579, 580, 581, 582, 583, 584, 585, 611, 612, 613, 614, 615] (by decide +kernel) (by decide +kernel)
set_option maxRecDepth 20000 in
theorem gL_law_X3_clear : GoodIn wsL_law (wsV RL 86 RX3 yX3_clear wsX3_clear) := goodIn_app (goodIn_of _ (by decide +kernel)) ggL_law_X3_clear
set_option maxRecDepth 20000 in
theorem ggL_law_X4_clear : GoodIn wsL_law wsX4_clear := goodIn_r _ [493, 405, 586, 587, 588, 589, 590, 591, 592, 593, 594, 595, 596, 597, 598, 599, 600, 601, 602, 603, 604, 605, 606, 607, 608, 609, 610] (by decide +kernel) (by decide +kernel)
set_option maxRecDepth 20000 in
theorem gL_law_X4_clear : GoodIn wsL_law (wsV RL 90 RX4 yX4_clear wsX4_clear) := goodIn_app (goodIn_of _ (by decide +kernel)) ggL_law_X4_clear
set_option maxRecDepth 20000 in
theorem ggL_law_X3_knee : GoodIn wsL_law wsX3_knee := goodIn_r _ [497, 19, 474, 475, 476, 18, 477, 36, 498, 499, 500, 501, 33, 34, 502, 383, 296, 384, 579, 580, 581, 582, 583, 584, 585, 611, 612, 613, 614, 615] (by decide +kernel) (by decide +kernel)
set_option maxRecDepth 20000 in
theorem gL_law_X3_knee : GoodIn wsL_law (wsV RL 91 RX3 yX3_knee wsX3_knee) := goodIn_app (goodIn_of _ (by decide +kernel)) ggL_law_X3_knee
set_option maxRecDepth 20000 in
theorem ggL_law_X4_knee : GoodIn wsL_law wsX4_knee := goodIn_r _ [506, 482, 483, 484, 5, 485, 405, 98, 99, 100, 507, 508, 509, 510, 64, 65, 586, 587, 588, 589, 590, 591, 592, 593, 594, 595, 596, 597, 598, 599, 600, 601, 602, 603, 604, 605, 606, 607, 608, 609, 610] (by decide +kernel) (by decide +kernel)
set_option maxRecDepth 20000 in
theorem gL_law_X4_knee : GoodIn wsL_law (wsV RL 94 RX4 yX4_knee wsX4_knee) := goodIn_app (goodIn_of _ (by decide +kernel)) ggL_law_X4_knee
set_option maxRecDepth 20000 in
theorem ggL_law_X3_fit : GoodIn wsL_law wsX3_fit := goodIn_r _ [514, 19, 515, 474, 475, 476, 18, 477, 36, 74, 75, 2, 76, 516, 517, 518, 519, 33, 34, 520, 521, 522, 523, 524, 525, 526, 527, 528, 529, 502, 383, 296, 384, 530, 531, 532, 579, 580, 581, 582, 583, 584, 585, 611, 612, 613, 614, 615] (by decide +kernel) (by decide +kernel)
set_option maxRecDepth 20000 in
theorem gL_law_X3_fit : GoodIn wsL_law (wsV RL 95 RX3 yX3_fit wsX3_fit) := goodIn_app (goodIn_of _ (by decide +kernel)) ggL_law_X3_fit
set_option maxRecDepth 20000 in
theorem ggL_law_X4_fit : GoodIn wsL_law wsX4_fit := goodIn_r _ [536, 537, 64, 65, 482, 483, 484, 5, 485, 405, 98, 99, 100, 538, 539, 540, 586, 587, 588, 589, 590, 591, 592, 593, 594, 595, 596, 597, 598, 599, 600, 601, 602, 603, 604, 605, 606, 607, 608, 609, 610] (by decide +kernel) (by decide +kernel)
set_option maxRecDepth 20000 in
theorem gL_law_X4_fit : GoodIn wsL_law (wsV RL 99 RX4 yX4_fit wsX4_fit) := goodIn_app (goodIn_of _ (by decide +kernel)) ggL_law_X4_fit
set_option maxRecDepth 20000 in
theorem ggL_law_X3_gap : GoodIn wsL_law wsX3_gap := goodIn_r _ [544, 19, 474, 475, 476, 18, 477, 36, 545, 546, 547, 548, 32, 34, 549, 295, 296, 297, 550, 426, 427, 579, 580, 581, 582, 583, 584, 585, 611, 612, 613, 614, 615] (by decide +kernel) (by decide +kernel)
set_option maxRecDepth 20000 in
theorem gL_law_X3_gap : GoodIn wsL_law (wsV RL 100 RX3 yX3_gap wsX3_gap) := goodIn_app (goodIn_of _ (by decide +kernel)) ggL_law_X3_gap
set_option maxRecDepth 20000 in
theorem ggL_law_X4_gap : GoodIn wsL_law wsX4_gap := goodIn_r _ [554, 63, 65, 482, 483, 484, 5, 485, 405, 98, 99, 100, 345, 346, 347, 586, 587, 588, 589, 590, 591, 592, 593, 594, 595, 596, 597, 598, 599, 600, 601, 602, 603, 604, 605, 606, 607, 608, 609, 610] (by decide +kernel) (by decide +kernel)
set_option maxRecDepth 20000 in
theorem gL_law_X4_gap : GoodIn wsL_law (wsV RL 103 RX4 yX4_gap wsX4_gap) := goodIn_app (goodIn_of _ (by decide +kernel)) ggL_law_X4_gap
set_option maxRecDepth 20000 in
theorem ggL_law_X3_many : GoodIn wsL_law wsX3_many := goodIn_r _ [558, 19, 356, 559, 560, 561, 2, 562, 13, 73, 153, 563, 564, 565, 566, 15, 194, 195, 196, 197, 198, 199, 200, 567, 568, 569, 18, 570, 36, 35, 579, 580, 581, 582, 583, 584, 585, 611, 612, 613, 614, 615, 619, 620, 621, 622, 623, 624, 625, 626, 627, 628, 629, 630] (by decide +kernel) (by decide +kernel)
set_option maxRecDepth 20000 in
theorem gL_law_X3_many : GoodIn wsL_law (wsV RL 104 RX3 yX3_many wsX3_many) := goodIn_app (goodIn_of _ (by decide +kernel)) ggL_law_X3_many
set_option maxRecDepth 20000 in
theorem ggL_law_X4_many : GoodIn wsL_law wsX4_many := goodIn_r _ [574, 51, 59, 61, 405, 575, 576, 577, 5, 578, 66, 586, 587, 588, 589, 590, 591, 592, 593, 594, 595, 596, 597, 598, 599, 600, 601, 602, 603, 604, 605, 606, 607, 608, 609, 610] (by decide +kernel) (by decide +kernel)
set_option maxRecDepth 20000 in
theorem gL_law_X4_many : GoodIn wsL_law (wsV RL 107 RX4 yX4_many wsX4_many) := goodIn_app (goodIn_of _ (by decide +kernel)) ggL_law_X4_many
theorem dL_law_0 : decode cL_law 0 = .ok (.new 7, 3) := by decide +kernel
theorem dL_law_3 : decode cL_law 3 = .ok (.dup, 1) := by decide +kernel
theorem dL_law_4 : decode cL_law 4 = .ok (.invokespecial 9, 3) := by decide +kernel
theorem dL_law_7 : decode cL_law 7 = .ok (.astore_n 1, 1) := by decide +kernel
theorem dL_law_8 : decode cL_law 8 = .ok (.new 10, 3) := by decide +kernel
theorem dL_law_11 : decode cL_law 11 = .ok (.dup, 1) := by decide +kernel
theorem dL_law_12 : decode cL_law 12 = .ok (.invokespecial 12, 3) := by decide +kernel
theorem dL_law_15 : decode cL_law 15 = .ok (.astore_n 2, 1) := by decide +kernel
theorem dL_law_16 : decode cL_law 16 = .ok (.iconst 0, 1) := by decide +kernel
theorem dL_law_17 : decode cL_law 17 = .ok (.istore_n 3, 1) := by decide +kernel
theorem dL_law_18 : decode cL_law 18 = .ok (.iload_n 3, 1) := by decide +kernel
theorem dL_law_19 : decode cL_law 19 = .ok (.aload_n 0, 1) := by decide +kernel
theorem dL_law_20 : decode cL_law 20 = .ok (.arraylength, 1) := by decide +kernel
theorem dL_law_21 : decode cL_law 21 = .ok (.bipush 7, 2) := by decide +kernel
theorem dL_law_23 : decode cL_law 23 = .ok (.isub, 1) := by decide +kernel
theorem dL_law_24 : decode cL_law 24 = .ok (.if_icmp .gt 837, 3) := by decide +kernel
theorem dL_law_27 : decode cL_law 27 = .ok (.aload_n 0, 1) := by decide +kernel
theorem dL_law_28 : decode cL_law 28 = .ok (.iload_n 3, 1) := by decide +kernel
theorem dL_law_29 : decode cL_law 29 = .ok (.iaload, 1) := by decide +kernel
theorem dL_law_30 : decode cL_law 30 = .ok (.bipush 31, 2) := by decide +kernel
theorem dL_law_32 : decode cL_law 32 = .ok (.iand, 1) := by decide +kernel
theorem dL_law_33 : decode cL_law 33 = .ok (.tableswitch 822 0 21 #[103, 156, 179, 222, 255, 298, 321, 344, 367, 390, 413, 446, 479, 512, 535, 610, 643, 676, 689, 722, 766, 799], 103) := by decide +kernel
theorem dL_law_136 : decode cL_law 136 = .ok (.aload_n 1, 1) := by decide +kernel
theorem dL_law_137 : decode cL_law 137 = .ok (.aload_n 0, 1) := by decide +kernel
theorem dL_law_138 : decode cL_law 138 = .ok (.iload_n 3, 1) := by decide +kernel
theorem dL_law_139 : decode cL_law 139 = .ok (.iconst 1, 1) := by decide +kernel
theorem dL_law_140 : decode cL_law 140 = .ok (.iadd, 1) := by decide +kernel
theorem dL_law_141 : decode cL_law 141 = .ok (.iaload, 1) := by decide +kernel
theorem dL_law_142 : decode cL_law 142 = .ok (.aload_n 0, 1) := by decide +kernel
theorem dL_law_143 : decode cL_law 143 = .ok (.iload_n 3, 1) := by decide +kernel
theorem dL_law_144 : decode cL_law 144 = .ok (.iconst 2, 1) := by decide +kernel
theorem dL_law_145 : decode cL_law 145 = .ok (.iadd, 1) := by decide +kernel
theorem dL_law_146 : decode cL_law 146 = .ok (.iaload, 1) := by decide +kernel
theorem dL_law_147 : decode cL_law 147 = .ok (.aload_n 0, 1) := by decide +kernel
theorem dL_law_148 : decode cL_law 148 = .ok (.iload_n 3, 1) := by decide +kernel
theorem dL_law_149 : decode cL_law 149 = .ok (.iconst 3, 1) := by decide +kernel
theorem dL_law_150 : decode cL_law 150 = .ok (.iadd, 1) := by decide +kernel
theorem dL_law_151 : decode cL_law 151 = .ok (.iaload, 1) := by decide +kernel
theorem dL_law_152 : decode cL_law 152 = .ok (.aload_n 0, 1) := by decide +kernel
theorem dL_law_153 : decode cL_law 153 = .ok (.iload_n 3, 1) := by decide +kernel
theorem dL_law_154 : decode cL_law 154 = .ok (.iconst 4, 1) := by decide +kernel
theorem dL_law_155 : decode cL_law 155 = .ok (.iadd, 1) := by decide +kernel
theorem dL_law_156 : decode cL_law 156 = .ok (.iaload, 1) := by decide +kernel
theorem dL_law_157 : decode cL_law 157 = .ok (.invokevirtual 13, 3) := by decide +kernel
theorem dL_law_160 : decode cL_law 160 = .ok (.aload_n 2, 1) := by decide +kernel
theorem dL_law_161 : decode cL_law 161 = .ok (.aload_n 0, 1) := by decide +kernel
theorem dL_law_162 : decode cL_law 162 = .ok (.iload_n 3, 1) := by decide +kernel
theorem dL_law_163 : decode cL_law 163 = .ok (.iconst 1, 1) := by decide +kernel
theorem dL_law_164 : decode cL_law 164 = .ok (.iadd, 1) := by decide +kernel
theorem dL_law_165 : decode cL_law 165 = .ok (.iaload, 1) := by decide +kernel
theorem dL_law_166 : decode cL_law 166 = .ok (.aload_n 0, 1) := by decide +kernel
theorem dL_law_167 : decode cL_law 167 = .ok (.iload_n 3, 1) := by decide +kernel
theorem dL_law_168 : decode cL_law 168 = .ok (.iconst 2, 1) := by decide +kernel
theorem dL_law_169 : decode cL_law 169 = .ok (.iadd, 1) := by decide +kernel
theorem dL_law_170 : decode cL_law 170 = .ok (.iaload, 1) := by decide +kernel
theorem dL_law_171 : decode cL_law 171 = .ok (.aload_n 0, 1) := by decide +kernel
theorem dL_law_172 : decode cL_law 172 = .ok (.iload_n 3, 1) := by decide +kernel
theorem dL_law_173 : decode cL_law 173 = .ok (.iconst 3, 1) := by decide +kernel
theorem dL_law_174 : decode cL_law 174 = .ok (.iadd, 1) := by decide +kernel
theorem dL_law_175 : decode cL_law 175 = .ok (.iaload, 1) := by decide +kernel
theorem dL_law_176 : decode cL_law 176 = .ok (.aload_n 0, 1) := by decide +kernel
theorem dL_law_177 : decode cL_law 177 = .ok (.iload_n 3, 1) := by decide +kernel
theorem dL_law_178 : decode cL_law 178 = .ok (.iconst 4, 1) := by decide +kernel
theorem dL_law_179 : decode cL_law 179 = .ok (.iadd, 1) := by decide +kernel
theorem dL_law_180 : decode cL_law 180 = .ok (.iaload, 1) := by decide +kernel
theorem dL_law_181 : decode cL_law 181 = .ok (.invokevirtual 17, 3) := by decide +kernel
theorem dL_law_184 : decode cL_law 184 = .ok (.if_icmp .eq 671, 3) := by decide +kernel
theorem dL_law_187 : decode cL_law 187 = .ok (.iconst 0, 1) := by decide +kernel
theorem dL_law_188 : decode cL_law 188 = .ok (.ireturn, 1) := by decide +kernel
theorem dL_law_189 : decode cL_law 189 = .ok (.aload_n 1, 1) := by decide +kernel
theorem dL_law_190 : decode cL_law 190 = .ok (.aload_n 0, 1) := by decide +kernel
theorem dL_law_191 : decode cL_law 191 = .ok (.iload_n 3, 1) := by decide +kernel
theorem dL_law_192 : decode cL_law 192 = .ok (.iconst 1, 1) := by decide +kernel
theorem dL_law_193 : decode cL_law 193 = .ok (.iadd, 1) := by decide +kernel
theorem dL_law_194 : decode cL_law 194 = .ok (.iaload, 1) := by decide +kernel
theorem dL_law_195 : decode cL_law 195 = .ok (.invokevirtual 18, 3) := by decide +kernel
theorem dL_law_198 : decode cL_law 198 = .ok (.aload_n 2, 1) := by decide +kernel
theorem dL_law_199 : decode cL_law 199 = .ok (.aload_n 0, 1) := by decide +kernel
theorem dL_law_200 : decode cL_law 200 = .ok (.iload_n 3, 1) := by decide +kernel
theorem dL_law_201 : decode cL_law 201 = .ok (.iconst 1, 1) := by decide +kernel
theorem dL_law_202 : decode cL_law 202 = .ok (.iadd, 1) := by decide +kernel
theorem dL_law_203 : decode cL_law 203 = .ok (.iaload, 1) := by decide +kernel
theorem dL_law_204 : decode cL_law 204 = .ok (.invokevirtual 22, 3) := by decide +kernel
theorem dL_law_207 : decode cL_law 207 = .ok (.if_icmp .eq 648, 3) := by decide +kernel
theorem dL_law_210 : decode cL_law 210 = .ok (.iconst 0, 1) := by decide +kernel
theorem dL_law_211 : decode cL_law 211 = .ok (.ireturn, 1) := by decide +kernel
theorem dL_law_212 : decode cL_law 212 = .ok (.aload_n 1, 1) := by decide +kernel
theorem dL_law_213 : decode cL_law 213 = .ok (.aload_n 0, 1) := by decide +kernel
theorem dL_law_214 : decode cL_law 214 = .ok (.iload_n 3, 1) := by decide +kernel
theorem dL_law_215 : decode cL_law 215 = .ok (.iconst 1, 1) := by decide +kernel
theorem dL_law_216 : decode cL_law 216 = .ok (.iadd, 1) := by decide +kernel
theorem dL_law_217 : decode cL_law 217 = .ok (.iaload, 1) := by decide +kernel
theorem dL_law_218 : decode cL_law 218 = .ok (.aload_n 0, 1) := by decide +kernel
theorem dL_law_219 : decode cL_law 219 = .ok (.iload_n 3, 1) := by decide +kernel
theorem dL_law_220 : decode cL_law 220 = .ok (.iconst 2, 1) := by decide +kernel
theorem dL_law_221 : decode cL_law 221 = .ok (.iadd, 1) := by decide +kernel
theorem dL_law_222 : decode cL_law 222 = .ok (.iaload, 1) := by decide +kernel
theorem dL_law_223 : decode cL_law 223 = .ok (.aload_n 0, 1) := by decide +kernel
theorem dL_law_224 : decode cL_law 224 = .ok (.iload_n 3, 1) := by decide +kernel
theorem dL_law_225 : decode cL_law 225 = .ok (.iconst 3, 1) := by decide +kernel
theorem dL_law_226 : decode cL_law 226 = .ok (.iadd, 1) := by decide +kernel
theorem dL_law_227 : decode cL_law 227 = .ok (.iaload, 1) := by decide +kernel
theorem dL_law_228 : decode cL_law 228 = .ok (.invokevirtual 23, 3) := by decide +kernel
theorem dL_law_231 : decode cL_law 231 = .ok (.aload_n 2, 1) := by decide +kernel
theorem dL_law_232 : decode cL_law 232 = .ok (.aload_n 0, 1) := by decide +kernel
theorem dL_law_233 : decode cL_law 233 = .ok (.iload_n 3, 1) := by decide +kernel
theorem dL_law_234 : decode cL_law 234 = .ok (.iconst 1, 1) := by decide +kernel
theorem dL_law_235 : decode cL_law 235 = .ok (.iadd, 1) := by decide +kernel
theorem dL_law_236 : decode cL_law 236 = .ok (.iaload, 1) := by decide +kernel
theorem dL_law_237 : decode cL_law 237 = .ok (.aload_n 0, 1) := by decide +kernel
theorem dL_law_238 : decode cL_law 238 = .ok (.iload_n 3, 1) := by decide +kernel
theorem dL_law_239 : decode cL_law 239 = .ok (.iconst 2, 1) := by decide +kernel
theorem dL_law_240 : decode cL_law 240 = .ok (.iadd, 1) := by decide +kernel
theorem dL_law_241 : decode cL_law 241 = .ok (.iaload, 1) := by decide +kernel
theorem dL_law_242 : decode cL_law 242 = .ok (.aload_n 0, 1) := by decide +kernel
theorem dL_law_243 : decode cL_law 243 = .ok (.iload_n 3, 1) := by decide +kernel
theorem dL_law_244 : decode cL_law 244 = .ok (.iconst 3, 1) := by decide +kernel
theorem dL_law_245 : decode cL_law 245 = .ok (.iadd, 1) := by decide +kernel
theorem dL_law_246 : decode cL_law 246 = .ok (.iaload, 1) := by decide +kernel
theorem dL_law_247 : decode cL_law 247 = .ok (.invokevirtual 27, 3) := by decide +kernel
theorem dL_law_250 : decode cL_law 250 = .ok (.if_icmp .eq 605, 3) := by decide +kernel
theorem dL_law_253 : decode cL_law 253 = .ok (.iconst 0, 1) := by decide +kernel
theorem dL_law_254 : decode cL_law 254 = .ok (.ireturn, 1) := by decide +kernel
theorem dL_law_255 : decode cL_law 255 = .ok (.aload_n 1, 1) := by decide +kernel
theorem dL_law_256 : decode cL_law 256 = .ok (.aload_n 0, 1) := by decide +kernel
theorem dL_law_257 : decode cL_law 257 = .ok (.iload_n 3, 1) := by decide +kernel
theorem dL_law_258 : decode cL_law 258 = .ok (.iconst 1, 1) := by decide +kernel
theorem dL_law_259 : decode cL_law 259 = .ok (.iadd, 1) := by decide +kernel
theorem dL_law_260 : decode cL_law 260 = .ok (.iaload, 1) := by decide +kernel
theorem dL_law_261 : decode cL_law 261 = .ok (.aload_n 0, 1) := by decide +kernel
theorem dL_law_262 : decode cL_law 262 = .ok (.iload_n 3, 1) := by decide +kernel
theorem dL_law_263 : decode cL_law 263 = .ok (.iconst 2, 1) := by decide +kernel
theorem dL_law_264 : decode cL_law 264 = .ok (.iadd, 1) := by decide +kernel
theorem dL_law_265 : decode cL_law 265 = .ok (.iaload, 1) := by decide +kernel
theorem dL_law_266 : decode cL_law 266 = .ok (.invokevirtual 28, 3) := by decide +kernel
theorem dL_law_269 : decode cL_law 269 = .ok (.aload_n 2, 1) := by decide +kernel
theorem dL_law_270 : decode cL_law 270 = .ok (.aload_n 0, 1) := by decide +kernel
theorem dL_law_271 : decode cL_law 271 = .ok (.iload_n 3, 1) := by decide +kernel
theorem dL_law_272 : decode cL_law 272 = .ok (.iconst 1, 1) := by decide +kernel
theorem dL_law_273 : decode cL_law 273 = .ok (.iadd, 1) := by decide +kernel
theorem dL_law_274 : decode cL_law 274 = .ok (.iaload, 1) := by decide +kernel
theorem dL_law_275 : decode cL_law 275 = .ok (.aload_n 0, 1) := by decide +kernel
theorem dL_law_276 : decode cL_law 276 = .ok (.iload_n 3, 1) := by decide +kernel
theorem dL_law_277 : decode cL_law 277 = .ok (.iconst 2, 1) := by decide +kernel
theorem dL_law_278 : decode cL_law 278 = .ok (.iadd, 1) := by decide +kernel
theorem dL_law_279 : decode cL_law 279 = .ok (.iaload, 1) := by decide +kernel
theorem dL_law_280 : decode cL_law 280 = .ok (.invokevirtual 32, 3) := by decide +kernel
theorem dL_law_283 : decode cL_law 283 = .ok (.if_icmp .eq 572, 3) := by decide +kernel
theorem dL_law_286 : decode cL_law 286 = .ok (.iconst 0, 1) := by decide +kernel
theorem dL_law_287 : decode cL_law 287 = .ok (.ireturn, 1) := by decide +kernel
theorem dL_law_288 : decode cL_law 288 = .ok (.aload_n 1, 1) := by decide +kernel
theorem dL_law_289 : decode cL_law 289 = .ok (.aload_n 0, 1) := by decide +kernel
theorem dL_law_290 : decode cL_law 290 = .ok (.iload_n 3, 1) := by decide +kernel
theorem dL_law_291 : decode cL_law 291 = .ok (.iconst 1, 1) := by decide +kernel
theorem dL_law_292 : decode cL_law 292 = .ok (.iadd, 1) := by decide +kernel
theorem dL_law_293 : decode cL_law 293 = .ok (.iaload, 1) := by decide +kernel
theorem dL_law_294 : decode cL_law 294 = .ok (.aload_n 0, 1) := by decide +kernel
theorem dL_law_295 : decode cL_law 295 = .ok (.iload_n 3, 1) := by decide +kernel
theorem dL_law_296 : decode cL_law 296 = .ok (.iconst 2, 1) := by decide +kernel
theorem dL_law_297 : decode cL_law 297 = .ok (.iadd, 1) := by decide +kernel
theorem dL_law_298 : decode cL_law 298 = .ok (.iaload, 1) := by decide +kernel
theorem dL_law_299 : decode cL_law 299 = .ok (.aload_n 0, 1) := by decide +kernel
theorem dL_law_300 : decode cL_law 300 = .ok (.iload_n 3, 1) := by decide +kernel
theorem dL_law_301 : decode cL_law 301 = .ok (.iconst 3, 1) := by decide +kernel
theorem dL_law_302 : decode cL_law 302 = .ok (.iadd, 1) := by decide +kernel
theorem dL_law_303 : decode cL_law 303 = .ok (.iaload, 1) := by decide +kernel
theorem dL_law_304 : decode cL_law 304 = .ok (.invokevirtual 33, 3) := by decide +kernel
theorem dL_law_307 : decode cL_law 307 = .ok (.aload_n 2, 1) := by decide +kernel
theorem dL_law_308 : decode cL_law 308 = .ok (.aload_n 0, 1) := by decide +kernel
theorem dL_law_309 : decode cL_law 309 = .ok (.iload_n 3, 1) := by decide +kernel
theorem dL_law_310 : decode cL_law 310 = .ok (.iconst 1, 1) := by decide +kernel
theorem dL_law_311 : decode cL_law 311 = .ok (.iadd, 1) := by decide +kernel
theorem dL_law_312 : decode cL_law 312 = .ok (.iaload, 1) := by decide +kernel
theorem dL_law_313 : decode cL_law 313 = .ok (.aload_n 0, 1) := by decide +kernel
theorem dL_law_314 : decode cL_law 314 = .ok (.iload_n 3, 1) := by decide +kernel
theorem dL_law_315 : decode cL_law 315 = .ok (.iconst 2, 1) := by decide +kernel
theorem dL_law_316 : decode cL_law 316 = .ok (.iadd, 1) := by decide +kernel
theorem dL_law_317 : decode cL_law 317 = .ok (.iaload, 1) := by decide +kernel
theorem dL_law_318 : decode cL_law 318 = .ok (.aload_n 0, 1) := by decide +kernel
theorem dL_law_319 : decode cL_law 319 = .ok (.iload_n 3, 1) := by decide +kernel
theorem dL_law_320 : decode cL_law 320 = .ok (.iconst 3, 1) := by decide +kernel
theorem dL_law_321 : decode cL_law 321 = .ok (.iadd, 1) := by decide +kernel
theorem dL_law_322 : decode cL_law 322 = .ok (.iaload, 1) := by decide +kernel
theorem dL_law_323 : decode cL_law 323 = .ok (.invokevirtual 36, 3) := by decide +kernel
theorem dL_law_326 : decode cL_law 326 = .ok (.if_icmp .eq 529, 3) := by decide +kernel
theorem dL_law_329 : decode cL_law 329 = .ok (.iconst 0, 1) := by decide +kernel
theorem dL_law_330 : decode cL_law 330 = .ok (.ireturn, 1) := by decide +kernel
theorem dL_law_331 : decode cL_law 331 = .ok (.aload_n 1, 1) := by decide +kernel
theorem dL_law_332 : decode cL_law 332 = .ok (.aload_n 0, 1) := by decide +kernel
theorem dL_law_333 : decode cL_law 333 = .ok (.iload_n 3, 1) := by decide +kernel
theorem dL_law_334 : decode cL_law 334 = .ok (.iconst 1, 1) := by decide +kernel
theorem dL_law_335 : decode cL_law 335 = .ok (.iadd, 1) := by decide +kernel
theorem dL_law_336 : decode cL_law 336 = .ok (.iaload, 1) := by decide +kernel
theorem dL_law_337 : decode cL_law 337 = .ok (.invokevirtual 37, 3) := by decide +kernel
theorem dL_law_340 : decode cL_law 340 = .ok (.aload_n 2, 1) := by decide +kernel
theorem dL_law_341 : decode cL_law 341 = .ok (.aload_n 0, 1) := by decide +kernel
theorem dL_law_342 : decode cL_law 342 = .ok (.iload_n 3, 1) := by decide +kernel
theorem dL_law_343 : decode cL_law 343 = .ok (.iconst 1, 1) := by decide +kernel
theorem dL_law_344 : decode cL_law 344 = .ok (.iadd, 1) := by decide +kernel
theorem dL_law_345 : decode cL_law 345 = .ok (.iaload, 1) := by decide +kernel
theorem dL_law_346 : decode cL_law 346 = .ok (.invokevirtual 40, 3) := by decide +kernel
theorem dL_law_349 : decode cL_law 349 = .ok (.if_icmp .eq 506, 3) := by decide +kernel
theorem dL_law_352 : decode cL_law 352 = .ok (.iconst 0, 1) := by decide +kernel
theorem dL_law_353 : decode cL_law 353 = .ok (.ireturn, 1) := by decide +kernel
theorem dL_law_354 : decode cL_law 354 = .ok (.aload_n 1, 1) := by decide +kernel
theorem dL_law_355 : decode cL_law 355 = .ok (.aload_n 0, 1) := by decide +kernel
theorem dL_law_356 : decode cL_law 356 = .ok (.iload_n 3, 1) := by decide +kernel
theorem dL_law_357 : decode cL_law 357 = .ok (.iconst 1, 1) := by decide +kernel
theorem dL_law_358 : decode cL_law 358 = .ok (.iadd, 1) := by decide +kernel
theorem dL_law_359 : decode cL_law 359 = .ok (.iaload, 1) := by decide +kernel
theorem dL_law_360 : decode cL_law 360 = .ok (.invokevirtual 41, 3) := by decide +kernel
theorem dL_law_363 : decode cL_law 363 = .ok (.aload_n 2, 1) := by decide +kernel
theorem dL_law_364 : decode cL_law 364 = .ok (.aload_n 0, 1) := by decide +kernel
theorem dL_law_365 : decode cL_law 365 = .ok (.iload_n 3, 1) := by decide +kernel
theorem dL_law_366 : decode cL_law 366 = .ok (.iconst 1, 1) := by decide +kernel
theorem dL_law_367 : decode cL_law 367 = .ok (.iadd, 1) := by decide +kernel
theorem dL_law_368 : decode cL_law 368 = .ok (.iaload, 1) := by decide +kernel
theorem dL_law_369 : decode cL_law 369 = .ok (.invokevirtual 44, 3) := by decide +kernel
theorem dL_law_372 : decode cL_law 372 = .ok (.if_icmp .eq 483, 3) := by decide +kernel
theorem dL_law_375 : decode cL_law 375 = .ok (.iconst 0, 1) := by decide +kernel
theorem dL_law_376 : decode cL_law 376 = .ok (.ireturn, 1) := by decide +kernel
theorem dL_law_377 : decode cL_law 377 = .ok (.aload_n 1, 1) := by decide +kernel
theorem dL_law_378 : decode cL_law 378 = .ok (.aload_n 0, 1) := by decide +kernel
theorem dL_law_379 : decode cL_law 379 = .ok (.iload_n 3, 1) := by decide +kernel
theorem dL_law_380 : decode cL_law 380 = .ok (.iconst 1, 1) := by decide +kernel
theorem dL_law_381 : decode cL_law 381 = .ok (.iadd, 1) := by decide +kernel
theorem dL_law_382 : decode cL_law 382 = .ok (.iaload, 1) := by decide +kernel
theorem dL_law_383 : decode cL_law 383 = .ok (.invokevirtual 45, 3) := by decide +kernel
theorem dL_law_386 : decode cL_law 386 = .ok (.aload_n 2, 1) := by decide +kernel
theorem dL_law_387 : decode cL_law 387 = .ok (.aload_n 0, 1) := by decide +kernel
theorem dL_law_388 : decode cL_law 388 = .ok (.iload_n 3, 1) := by decide +kernel
theorem dL_law_389 : decode cL_law 389 = .ok (.iconst 1, 1) := by decide +kernel
theorem dL_law_390 : decode cL_law 390 = .ok (.iadd, 1) := by decide +kernel
theorem dL_law_391 : decode cL_law 391 = .ok (.iaload, 1) := by decide +kernel
theorem dL_law_392 : decode cL_law 392 = .ok (.invokevirtual 48, 3) := by decide +kernel
theorem dL_law_395 : decode cL_law 395 = .ok (.if_icmp .eq 460, 3) := by decide +kernel
theorem dL_law_398 : decode cL_law 398 = .ok (.iconst 0, 1) := by decide +kernel
theorem dL_law_399 : decode cL_law 399 = .ok (.ireturn, 1) := by decide +kernel
theorem dL_law_400 : decode cL_law 400 = .ok (.aload_n 1, 1) := by decide +kernel
theorem dL_law_401 : decode cL_law 401 = .ok (.aload_n 0, 1) := by decide +kernel
theorem dL_law_402 : decode cL_law 402 = .ok (.iload_n 3, 1) := by decide +kernel
theorem dL_law_403 : decode cL_law 403 = .ok (.iconst 1, 1) := by decide +kernel
theorem dL_law_404 : decode cL_law 404 = .ok (.iadd, 1) := by decide +kernel
theorem dL_law_405 : decode cL_law 405 = .ok (.iaload, 1) := by decide +kernel
theorem dL_law_406 : decode cL_law 406 = .ok (.invokevirtual 49, 3) := by decide +kernel
theorem dL_law_409 : decode cL_law 409 = .ok (.aload_n 2, 1) := by decide +kernel
theorem dL_law_410 : decode cL_law 410 = .ok (.aload_n 0, 1) := by decide +kernel
theorem dL_law_411 : decode cL_law 411 = .ok (.iload_n 3, 1) := by decide +kernel
theorem dL_law_412 : decode cL_law 412 = .ok (.iconst 1, 1) := by decide +kernel
theorem dL_law_413 : decode cL_law 413 = .ok (.iadd, 1) := by decide +kernel
theorem dL_law_414 : decode cL_law 414 = .ok (.iaload, 1) := by decide +kernel
theorem dL_law_415 : decode cL_law 415 = .ok (.invokevirtual 52, 3) := by decide +kernel
theorem dL_law_418 : decode cL_law 418 = .ok (.if_icmp .eq 437, 3) := by decide +kernel
theorem dL_law_421 : decode cL_law 421 = .ok (.iconst 0, 1) := by decide +kernel
theorem dL_law_422 : decode cL_law 422 = .ok (.ireturn, 1) := by decide +kernel
theorem dL_law_423 : decode cL_law 423 = .ok (.aload_n 1, 1) := by decide +kernel
theorem dL_law_424 : decode cL_law 424 = .ok (.aload_n 0, 1) := by decide +kernel
theorem dL_law_425 : decode cL_law 425 = .ok (.iload_n 3, 1) := by decide +kernel
theorem dL_law_426 : decode cL_law 426 = .ok (.iconst 1, 1) := by decide +kernel
theorem dL_law_427 : decode cL_law 427 = .ok (.iadd, 1) := by decide +kernel
theorem dL_law_428 : decode cL_law 428 = .ok (.iaload, 1) := by decide +kernel
theorem dL_law_429 : decode cL_law 429 = .ok (.invokevirtual 53, 3) := by decide +kernel
theorem dL_law_432 : decode cL_law 432 = .ok (.aload_n 2, 1) := by decide +kernel
theorem dL_law_433 : decode cL_law 433 = .ok (.aload_n 0, 1) := by decide +kernel
theorem dL_law_434 : decode cL_law 434 = .ok (.iload_n 3, 1) := by decide +kernel
theorem dL_law_435 : decode cL_law 435 = .ok (.iconst 1, 1) := by decide +kernel
theorem dL_law_436 : decode cL_law 436 = .ok (.iadd, 1) := by decide +kernel
theorem dL_law_437 : decode cL_law 437 = .ok (.iaload, 1) := by decide +kernel
theorem dL_law_438 : decode cL_law 438 = .ok (.invokevirtual 56, 3) := by decide +kernel
theorem dL_law_441 : decode cL_law 441 = .ok (.if_icmp .eq 414, 3) := by decide +kernel
theorem dL_law_444 : decode cL_law 444 = .ok (.iconst 0, 1) := by decide +kernel
theorem dL_law_445 : decode cL_law 445 = .ok (.ireturn, 1) := by decide +kernel
theorem dL_law_446 : decode cL_law 446 = .ok (.aload_n 1, 1) := by decide +kernel
theorem dL_law_447 : decode cL_law 447 = .ok (.aload_n 0, 1) := by decide +kernel
theorem dL_law_448 : decode cL_law 448 = .ok (.iload_n 3, 1) := by decide +kernel
theorem dL_law_449 : decode cL_law 449 = .ok (.iconst 1, 1) := by decide +kernel
theorem dL_law_450 : decode cL_law 450 = .ok (.iadd, 1) := by decide +kernel
theorem dL_law_451 : decode cL_law 451 = .ok (.iaload, 1) := by decide +kernel
theorem dL_law_452 : decode cL_law 452 = .ok (.aload_n 0, 1) := by decide +kernel
theorem dL_law_453 : decode cL_law 453 = .ok (.iload_n 3, 1) := by decide +kernel
theorem dL_law_454 : decode cL_law 454 = .ok (.iconst 2, 1) := by decide +kernel
theorem dL_law_455 : decode cL_law 455 = .ok (.iadd, 1) := by decide +kernel
theorem dL_law_456 : decode cL_law 456 = .ok (.iaload, 1) := by decide +kernel
theorem dL_law_457 : decode cL_law 457 = .ok (.invokevirtual 57, 3) := by decide +kernel
theorem dL_law_460 : decode cL_law 460 = .ok (.aload_n 2, 1) := by decide +kernel
theorem dL_law_461 : decode cL_law 461 = .ok (.aload_n 0, 1) := by decide +kernel
theorem dL_law_462 : decode cL_law 462 = .ok (.iload_n 3, 1) := by decide +kernel
theorem dL_law_463 : decode cL_law 463 = .ok (.iconst 1, 1) := by decide +kernel
theorem dL_law_464 : decode cL_law 464 = .ok (.iadd, 1) := by decide +kernel
theorem dL_law_465 : decode cL_law 465 = .ok (.iaload, 1) := by decide +kernel
theorem dL_law_466 : decode cL_law 466 = .ok (.aload_n 0, 1) := by decide +kernel
theorem dL_law_467 : decode cL_law 467 = .ok (.iload_n 3, 1) := by decide +kernel
theorem dL_law_468 : decode cL_law 468 = .ok (.iconst 2, 1) := by decide +kernel
theorem dL_law_469 : decode cL_law 469 = .ok (.iadd, 1) := by decide +kernel
theorem dL_law_470 : decode cL_law 470 = .ok (.iaload, 1) := by decide +kernel
theorem dL_law_471 : decode cL_law 471 = .ok (.invokevirtual 60, 3) := by decide +kernel
theorem dL_law_474 : decode cL_law 474 = .ok (.if_icmp .eq 381, 3) := by decide +kernel
theorem dL_law_477 : decode cL_law 477 = .ok (.iconst 0, 1) := by decide +kernel
theorem dL_law_478 : decode cL_law 478 = .ok (.ireturn, 1) := by decide +kernel
theorem dL_law_479 : decode cL_law 479 = .ok (.aload_n 1, 1) := by decide +kernel
theorem dL_law_480 : decode cL_law 480 = .ok (.aload_n 0, 1) := by decide +kernel
theorem dL_law_481 : decode cL_law 481 = .ok (.iload_n 3, 1) := by decide +kernel
theorem dL_law_482 : decode cL_law 482 = .ok (.iconst 1, 1) := by decide +kernel
theorem dL_law_483 : decode cL_law 483 = .ok (.iadd, 1) := by decide +kernel
theorem dL_law_484 : decode cL_law 484 = .ok (.iaload, 1) := by decide +kernel
theorem dL_law_485 : decode cL_law 485 = .ok (.aload_n 0, 1) := by decide +kernel
theorem dL_law_486 : decode cL_law 486 = .ok (.iload_n 3, 1) := by decide +kernel
theorem dL_law_487 : decode cL_law 487 = .ok (.iconst 2, 1) := by decide +kernel
theorem dL_law_488 : decode cL_law 488 = .ok (.iadd, 1) := by decide +kernel
theorem dL_law_489 : decode cL_law 489 = .ok (.iaload, 1) := by decide +kernel
theorem dL_law_490 : decode cL_law 490 = .ok (.invokevirtual 61, 3) := by decide +kernel
theorem dL_law_493 : decode cL_law 493 = .ok (.aload_n 2, 1) := by decide +kernel
theorem dL_law_494 : decode cL_law 494 = .ok (.aload_n 0, 1) := by decide +kernel
theorem dL_law_495 : decode cL_law 495 = .ok (.iload_n 3, 1) := by decide +kernel
theorem dL_law_496 : decode cL_law 496 = .ok (.iconst 1, 1) := by decide +kernel
theorem dL_law_497 : decode cL_law 497 = .ok (.iadd, 1) := by decide +kernel
theorem dL_law_498 : decode cL_law 498 = .ok (.iaload, 1) := by decide +kernel
theorem dL_law_499 : decode cL_law 499 = .ok (.aload_n 0, 1) := by decide +kernel
theorem dL_law_500 : decode cL_law 500 = .ok (.iload_n 3, 1) := by decide +kernel
theorem dL_law_501 : decode cL_law 501 = .ok (.iconst 2, 1) := by decide +kernel
theorem dL_law_502 : decode cL_law 502 = .ok (.iadd, 1) := by decide +kernel
theorem dL_law_503 : decode cL_law 503 = .ok (.iaload, 1) := by decide +kernel
theorem dL_law_504 : decode cL_law 504 = .ok (.invokevirtual 64, 3) := by decide +kernel
theorem dL_law_507 : decode cL_law 507 = .ok (.if_icmp .eq 348, 3) := by decide +kernel
theorem dL_law_510 : decode cL_law 510 = .ok (.iconst 0, 1) := by decide +kernel
theorem dL_law_511 : decode cL_law 511 = .ok (.ireturn, 1) := by decide +kernel
theorem dL_law_512 : decode cL_law 512 = .ok (.aload_n 1, 1) := by decide +kernel
theorem dL_law_513 : decode cL_law 513 = .ok (.aload_n 0, 1) := by decide +kernel
theorem dL_law_514 : decode cL_law 514 = .ok (.iload_n 3, 1) := by decide +kernel
theorem dL_law_515 : decode cL_law 515 = .ok (.iconst 1, 1) := by decide +kernel
theorem dL_law_516 : decode cL_law 516 = .ok (.iadd, 1) := by decide +kernel
theorem dL_law_517 : decode cL_law 517 = .ok (.iaload, 1) := by decide +kernel
theorem dL_law_518 : decode cL_law 518 = .ok (.aload_n 0, 1) := by decide +kernel
theorem dL_law_519 : decode cL_law 519 = .ok (.iload_n 3, 1) := by decide +kernel
theorem dL_law_520 : decode cL_law 520 = .ok (.iconst 2, 1) := by decide +kernel
theorem dL_law_521 : decode cL_law 521 = .ok (.iadd, 1) := by decide +kernel
theorem dL_law_522 : decode cL_law 522 = .ok (.iaload, 1) := by decide +kernel
theorem dL_law_523 : decode cL_law 523 = .ok (.invokevirtual 65, 3) := by decide +kernel
theorem dL_law_526 : decode cL_law 526 = .ok (.aload_n 2, 1) := by decide +kernel
theorem dL_law_527 : decode cL_law 527 = .ok (.aload_n 0, 1) := by decide +kernel
theorem dL_law_528 : decode cL_law 528 = .ok (.iload_n 3, 1) := by decide +kernel
theorem dL_law_529 : decode cL_law 529 = .ok (.iconst 1, 1) := by decide +kernel
theorem dL_law_530 : decode cL_law 530 = .ok (.iadd, 1) := by decide +kernel
theorem dL_law_531 : decode cL_law 531 = .ok (.iaload, 1) := by decide +kernel
theorem dL_law_532 : decode cL_law 532 = .ok (.aload_n 0, 1) := by decide +kernel
theorem dL_law_533 : decode cL_law 533 = .ok (.iload_n 3, 1) := by decide +kernel
theorem dL_law_534 : decode cL_law 534 = .ok (.iconst 2, 1) := by decide +kernel
theorem dL_law_535 : decode cL_law 535 = .ok (.iadd, 1) := by decide +kernel
theorem dL_law_536 : decode cL_law 536 = .ok (.iaload, 1) := by decide +kernel
theorem dL_law_537 : decode cL_law 537 = .ok (.invokevirtual 68, 3) := by decide +kernel
theorem dL_law_540 : decode cL_law 540 = .ok (.if_icmp .eq 315, 3) := by decide +kernel
theorem dL_law_543 : decode cL_law 543 = .ok (.iconst 0, 1) := by decide +kernel
theorem dL_law_544 : decode cL_law 544 = .ok (.ireturn, 1) := by decide +kernel
theorem dL_law_545 : decode cL_law 545 = .ok (.aload_n 1, 1) := by decide +kernel
theorem dL_law_546 : decode cL_law 546 = .ok (.aload_n 0, 1) := by decide +kernel
theorem dL_law_547 : decode cL_law 547 = .ok (.iload_n 3, 1) := by decide +kernel
theorem dL_law_548 : decode cL_law 548 = .ok (.iconst 1, 1) := by decide +kernel
theorem dL_law_549 : decode cL_law 549 = .ok (.iadd, 1) := by decide +kernel
theorem dL_law_550 : decode cL_law 550 = .ok (.iaload, 1) := by decide +kernel
theorem dL_law_551 : decode cL_law 551 = .ok (.invokevirtual 69, 3) := by decide +kernel
theorem dL_law_554 : decode cL_law 554 = .ok (.aload_n 2, 1) := by decide +kernel
theorem dL_law_555 : decode cL_law 555 = .ok (.aload_n 0, 1) := by decide +kernel
theorem dL_law_556 : decode cL_law 556 = .ok (.iload_n 3, 1) := by decide +kernel
theorem dL_law_557 : decode cL_law 557 = .ok (.iconst 1, 1) := by decide +kernel
theorem dL_law_558 : decode cL_law 558 = .ok (.iadd, 1) := by decide +kernel
theorem dL_law_559 : decode cL_law 559 = .ok (.iaload, 1) := by decide +kernel
theorem dL_law_560 : decode cL_law 560 = .ok (.invokevirtual 72, 3) := by decide +kernel
theorem dL_law_563 : decode cL_law 563 = .ok (.if_icmp .eq 292, 3) := by decide +kernel
theorem dL_law_566 : decode cL_law 566 = .ok (.iconst 0, 1) := by decide +kernel
theorem dL_law_567 : decode cL_law 567 = .ok (.ireturn, 1) := by decide +kernel
theorem dL_law_568 : decode cL_law 568 = .ok (.aload_n 1, 1) := by decide +kernel
theorem dL_law_569 : decode cL_law 569 = .ok (.aload_n 0, 1) := by decide +kernel
theorem dL_law_570 : decode cL_law 570 = .ok (.iload_n 3, 1) := by decide +kernel
theorem dL_law_571 : decode cL_law 571 = .ok (.iconst 1, 1) := by decide +kernel
theorem dL_law_572 : decode cL_law 572 = .ok (.iadd, 1) := by decide +kernel
theorem dL_law_573 : decode cL_law 573 = .ok (.iaload, 1) := by decide +kernel
theorem dL_law_574 : decode cL_law 574 = .ok (.aload_n 0, 1) := by decide +kernel
theorem dL_law_575 : decode cL_law 575 = .ok (.iload_n 3, 1) := by decide +kernel
theorem dL_law_576 : decode cL_law 576 = .ok (.iconst 2, 1) := by decide +kernel
theorem dL_law_577 : decode cL_law 577 = .ok (.iadd, 1) := by decide +kernel
theorem dL_law_578 : decode cL_law 578 = .ok (.iaload, 1) := by decide +kernel
theorem dL_law_579 : decode cL_law 579 = .ok (.aload_n 0, 1) := by decide +kernel
theorem dL_law_580 : decode cL_law 580 = .ok (.iload_n 3, 1) := by decide +kernel
theorem dL_law_581 : decode cL_law 581 = .ok (.iconst 3, 1) := by decide +kernel
theorem dL_law_582 : decode cL_law 582 = .ok (.iadd, 1) := by decide +kernel
theorem dL_law_583 : decode cL_law 583 = .ok (.iaload, 1) := by decide +kernel
theorem dL_law_584 : decode cL_law 584 = .ok (.aload_n 0, 1) := by decide +kernel
theorem dL_law_585 : decode cL_law 585 = .ok (.iload_n 3, 1) := by decide +kernel
theorem dL_law_586 : decode cL_law 586 = .ok (.iconst 4, 1) := by decide +kernel
theorem dL_law_587 : decode cL_law 587 = .ok (.iadd, 1) := by decide +kernel
theorem dL_law_588 : decode cL_law 588 = .ok (.iaload, 1) := by decide +kernel
theorem dL_law_589 : decode cL_law 589 = .ok (.aload_n 0, 1) := by decide +kernel
theorem dL_law_590 : decode cL_law 590 = .ok (.iload_n 3, 1) := by decide +kernel
theorem dL_law_591 : decode cL_law 591 = .ok (.iconst 5, 1) := by decide +kernel
theorem dL_law_592 : decode cL_law 592 = .ok (.iadd, 1) := by decide +kernel
theorem dL_law_593 : decode cL_law 593 = .ok (.iaload, 1) := by decide +kernel
theorem dL_law_594 : decode cL_law 594 = .ok (.aload_n 0, 1) := by decide +kernel
theorem dL_law_595 : decode cL_law 595 = .ok (.iload_n 3, 1) := by decide +kernel
theorem dL_law_596 : decode cL_law 596 = .ok (.bipush 6, 2) := by decide +kernel
theorem dL_law_598 : decode cL_law 598 = .ok (.iadd, 1) := by decide +kernel
theorem dL_law_599 : decode cL_law 599 = .ok (.iaload, 1) := by decide +kernel
theorem dL_law_600 : decode cL_law 600 = .ok (.invokevirtual 73, 3) := by decide +kernel
theorem dL_law_603 : decode cL_law 603 = .ok (.aload_n 2, 1) := by decide +kernel
theorem dL_law_604 : decode cL_law 604 = .ok (.aload_n 0, 1) := by decide +kernel
theorem dL_law_605 : decode cL_law 605 = .ok (.iload_n 3, 1) := by decide +kernel
theorem dL_law_606 : decode cL_law 606 = .ok (.iconst 1, 1) := by decide +kernel
theorem dL_law_607 : decode cL_law 607 = .ok (.iadd, 1) := by decide +kernel
theorem dL_law_608 : decode cL_law 608 = .ok (.iaload, 1) := by decide +kernel
theorem dL_law_609 : decode cL_law 609 = .ok (.aload_n 0, 1) := by decide +kernel
theorem dL_law_610 : decode cL_law 610 = .ok (.iload_n 3, 1) := by decide +kernel
theorem dL_law_611 : decode cL_law 611 = .ok (.iconst 2, 1) := by decide +kernel
theorem dL_law_612 : decode cL_law 612 = .ok (.iadd, 1) := by decide +kernel
theorem dL_law_613 : decode cL_law 613 = .ok (.iaload, 1) := by decide +kernel
theorem dL_law_614 : decode cL_law 614 = .ok (.aload_n 0, 1) := by decide +kernel
theorem dL_law_615 : decode cL_law 615 = .ok (.iload_n 3, 1) := by decide +kernel
theorem dL_law_616 : decode cL_law 616 = .ok (.iconst 3, 1) := by decide +kernel
theorem dL_law_617 : decode cL_law 617 = .ok (.iadd, 1) := by decide +kernel
theorem dL_law_618 : decode cL_law 618 = .ok (.iaload, 1) := by decide +kernel
theorem dL_law_619 : decode cL_law 619 = .ok (.aload_n 0, 1) := by decide +kernel
theorem dL_law_620 : decode cL_law 620 = .ok (.iload_n 3, 1) := by decide +kernel
theorem dL_law_621 : decode cL_law 621 = .ok (.iconst 4, 1) := by decide +kernel
theorem dL_law_622 : decode cL_law 622 = .ok (.iadd, 1) := by decide +kernel
theorem dL_law_623 : decode cL_law 623 = .ok (.iaload, 1) := by decide +kernel
theorem dL_law_624 : decode cL_law 624 = .ok (.aload_n 0, 1) := by decide +kernel
theorem dL_law_625 : decode cL_law 625 = .ok (.iload_n 3, 1) := by decide +kernel
theorem dL_law_626 : decode cL_law 626 = .ok (.iconst 5, 1) := by decide +kernel
theorem dL_law_627 : decode cL_law 627 = .ok (.iadd, 1) := by decide +kernel
theorem dL_law_628 : decode cL_law 628 = .ok (.iaload, 1) := by decide +kernel
theorem dL_law_629 : decode cL_law 629 = .ok (.aload_n 0, 1) := by decide +kernel
theorem dL_law_630 : decode cL_law 630 = .ok (.iload_n 3, 1) := by decide +kernel
theorem dL_law_631 : decode cL_law 631 = .ok (.bipush 6, 2) := by decide +kernel
theorem dL_law_633 : decode cL_law 633 = .ok (.iadd, 1) := by decide +kernel
theorem dL_law_634 : decode cL_law 634 = .ok (.iaload, 1) := by decide +kernel
theorem dL_law_635 : decode cL_law 635 = .ok (.invokevirtual 77, 3) := by decide +kernel
theorem dL_law_638 : decode cL_law 638 = .ok (.if_icmp .eq 217, 3) := by decide +kernel
theorem dL_law_641 : decode cL_law 641 = .ok (.iconst 0, 1) := by decide +kernel
theorem dL_law_642 : decode cL_law 642 = .ok (.ireturn, 1) := by decide +kernel
theorem dL_law_643 : decode cL_law 643 = .ok (.aload_n 1, 1) := by decide +kernel
theorem dL_law_644 : decode cL_law 644 = .ok (.aload_n 0, 1) := by decide +kernel
theorem dL_law_645 : decode cL_law 645 = .ok (.iload_n 3, 1) := by decide +kernel
theorem dL_law_646 : decode cL_law 646 = .ok (.iconst 1, 1) := by decide +kernel
theorem dL_law_647 : decode cL_law 647 = .ok (.iadd, 1) := by decide +kernel
theorem dL_law_648 : decode cL_law 648 = .ok (.iaload, 1) := by decide +kernel
theorem dL_law_649 : decode cL_law 649 = .ok (.aload_n 0, 1) := by decide +kernel
theorem dL_law_650 : decode cL_law 650 = .ok (.iload_n 3, 1) := by decide +kernel
theorem dL_law_651 : decode cL_law 651 = .ok (.iconst 2, 1) := by decide +kernel
theorem dL_law_652 : decode cL_law 652 = .ok (.iadd, 1) := by decide +kernel
theorem dL_law_653 : decode cL_law 653 = .ok (.iaload, 1) := by decide +kernel
theorem dL_law_654 : decode cL_law 654 = .ok (.invokevirtual 78, 3) := by decide +kernel
theorem dL_law_657 : decode cL_law 657 = .ok (.aload_n 2, 1) := by decide +kernel
theorem dL_law_658 : decode cL_law 658 = .ok (.aload_n 0, 1) := by decide +kernel
theorem dL_law_659 : decode cL_law 659 = .ok (.iload_n 3, 1) := by decide +kernel
theorem dL_law_660 : decode cL_law 660 = .ok (.iconst 1, 1) := by decide +kernel
theorem dL_law_661 : decode cL_law 661 = .ok (.iadd, 1) := by decide +kernel
theorem dL_law_662 : decode cL_law 662 = .ok (.iaload, 1) := by decide +kernel
theorem dL_law_663 : decode cL_law 663 = .ok (.aload_n 0, 1) := by decide +kernel
theorem dL_law_664 : decode cL_law 664 = .ok (.iload_n 3, 1) := by decide +kernel
theorem dL_law_665 : decode cL_law 665 = .ok (.iconst 2, 1) := by decide +kernel
theorem dL_law_666 : decode cL_law 666 = .ok (.iadd, 1) := by decide +kernel
theorem dL_law_667 : decode cL_law 667 = .ok (.iaload, 1) := by decide +kernel
theorem dL_law_668 : decode cL_law 668 = .ok (.invokevirtual 81, 3) := by decide +kernel
theorem dL_law_671 : decode cL_law 671 = .ok (.if_icmp .eq 184, 3) := by decide +kernel
theorem dL_law_674 : decode cL_law 674 = .ok (.iconst 0, 1) := by decide +kernel
theorem dL_law_675 : decode cL_law 675 = .ok (.ireturn, 1) := by decide +kernel
theorem dL_law_676 : decode cL_law 676 = .ok (.aload_n 1, 1) := by decide +kernel
theorem dL_law_677 : decode cL_law 677 = .ok (.aload_n 0, 1) := by decide +kernel
theorem dL_law_678 : decode cL_law 678 = .ok (.iload_n 3, 1) := by decide +kernel
theorem dL_law_679 : decode cL_law 679 = .ok (.iconst 1, 1) := by decide +kernel
theorem dL_law_680 : decode cL_law 680 = .ok (.iadd, 1) := by decide +kernel
theorem dL_law_681 : decode cL_law 681 = .ok (.iaload, 1) := by decide +kernel
theorem dL_law_682 : decode cL_law 682 = .ok (.aload_n 0, 1) := by decide +kernel
theorem dL_law_683 : decode cL_law 683 = .ok (.iload_n 3, 1) := by decide +kernel
theorem dL_law_684 : decode cL_law 684 = .ok (.iconst 2, 1) := by decide +kernel
theorem dL_law_685 : decode cL_law 685 = .ok (.iadd, 1) := by decide +kernel
theorem dL_law_686 : decode cL_law 686 = .ok (.iaload, 1) := by decide +kernel
theorem dL_law_687 : decode cL_law 687 = .ok (.invokevirtual 82, 3) := by decide +kernel
theorem dL_law_690 : decode cL_law 690 = .ok (.aload_n 2, 1) := by decide +kernel
theorem dL_law_691 : decode cL_law 691 = .ok (.aload_n 0, 1) := by decide +kernel
theorem dL_law_692 : decode cL_law 692 = .ok (.iload_n 3, 1) := by decide +kernel
theorem dL_law_693 : decode cL_law 693 = .ok (.iconst 1, 1) := by decide +kernel
theorem dL_law_694 : decode cL_law 694 = .ok (.iadd, 1) := by decide +kernel
theorem dL_law_695 : decode cL_law 695 = .ok (.iaload, 1) := by decide +kernel
theorem dL_law_696 : decode cL_law 696 = .ok (.aload_n 0, 1) := by decide +kernel
theorem dL_law_697 : decode cL_law 697 = .ok (.iload_n 3, 1) := by decide +kernel
theorem dL_law_698 : decode cL_law 698 = .ok (.iconst 2, 1) := by decide +kernel
theorem dL_law_699 : decode cL_law 699 = .ok (.iadd, 1) := by decide +kernel
theorem dL_law_700 : decode cL_law 700 = .ok (.iaload, 1) := by decide +kernel
theorem dL_law_701 : decode cL_law 701 = .ok (.invokevirtual 85, 3) := by decide +kernel
theorem dL_law_704 : decode cL_law 704 = .ok (.if_icmp .eq 151, 3) := by decide +kernel
theorem dL_law_707 : decode cL_law 707 = .ok (.iconst 0, 1) := by decide +kernel
theorem dL_law_708 : decode cL_law 708 = .ok (.ireturn, 1) := by decide +kernel
theorem dL_law_709 : decode cL_law 709 = .ok (.aload_n 1, 1) := by decide +kernel
theorem dL_law_710 : decode cL_law 710 = .ok (.invokevirtual 86, 3) := by decide +kernel
theorem dL_law_713 : decode cL_law 713 = .ok (.aload_n 2, 1) := by decide +kernel
theorem dL_law_714 : decode cL_law 714 = .ok (.invokevirtual 90, 3) := by decide +kernel
theorem dL_law_717 : decode cL_law 717 = .ok (.if_icmp .eq 138, 3) := by decide +kernel
theorem dL_law_720 : decode cL_law 720 = .ok (.iconst 0, 1) := by decide +kernel
theorem dL_law_721 : decode cL_law 721 = .ok (.ireturn, 1) := by decide +kernel
theorem dL_law_722 : decode cL_law 722 = .ok (.aload_n 1, 1) := by decide +kernel
theorem dL_law_723 : decode cL_law 723 = .ok (.aload_n 0, 1) := by decide +kernel
theorem dL_law_724 : decode cL_law 724 = .ok (.iload_n 3, 1) := by decide +kernel
theorem dL_law_725 : decode cL_law 725 = .ok (.iconst 1, 1) := by decide +kernel
theorem dL_law_726 : decode cL_law 726 = .ok (.iadd, 1) := by decide +kernel
theorem dL_law_727 : decode cL_law 727 = .ok (.iaload, 1) := by decide +kernel
theorem dL_law_728 : decode cL_law 728 = .ok (.aload_n 0, 1) := by decide +kernel
theorem dL_law_729 : decode cL_law 729 = .ok (.iload_n 3, 1) := by decide +kernel
theorem dL_law_730 : decode cL_law 730 = .ok (.iconst 2, 1) := by decide +kernel
theorem dL_law_731 : decode cL_law 731 = .ok (.iadd, 1) := by decide +kernel
theorem dL_law_732 : decode cL_law 732 = .ok (.iaload, 1) := by decide +kernel
theorem dL_law_733 : decode cL_law 733 = .ok (.invokevirtual 91, 3) := by decide +kernel
theorem dL_law_736 : decode cL_law 736 = .ok (.aload_n 2, 1) := by decide +kernel
theorem dL_law_737 : decode cL_law 737 = .ok (.aload_n 0, 1) := by decide +kernel
theorem dL_law_738 : decode cL_law 738 = .ok (.iload_n 3, 1) := by decide +kernel
theorem dL_law_739 : decode cL_law 739 = .ok (.iconst 1, 1) := by decide +kernel
theorem dL_law_740 : decode cL_law 740 = .ok (.iadd, 1) := by decide +kernel
theorem dL_law_741 : decode cL_law 741 = .ok (.iaload, 1) := by decide +kernel
theorem dL_law_742 : decode cL_law 742 = .ok (.aload_n 0, 1) := by decide +kernel
theorem dL_law_743 : decode cL_law 743 = .ok (.iload_n 3, 1) := by decide +kernel
theorem dL_law_744 : decode cL_law 744 = .ok (.iconst 2, 1) := by decide +kernel
theorem dL_law_745 : decode cL_law 745 = .ok (.iadd, 1) := by decide +kernel
theorem dL_law_746 : decode cL_law 746 = .ok (.iaload, 1) := by decide +kernel
theorem dL_law_747 : decode cL_law 747 = .ok (.invokevirtual 94, 3) := by decide +kernel
theorem dL_law_750 : decode cL_law 750 = .ok (.if_icmp .eq 105, 3) := by decide +kernel
theorem dL_law_753 : decode cL_law 753 = .ok (.iconst 0, 1) := by decide +kernel
theorem dL_law_754 : decode cL_law 754 = .ok (.ireturn, 1) := by decide +kernel
theorem dL_law_755 : decode cL_law 755 = .ok (.aload_n 1, 1) := by decide +kernel
theorem dL_law_756 : decode cL_law 756 = .ok (.aload_n 0, 1) := by decide +kernel
theorem dL_law_757 : decode cL_law 757 = .ok (.iload_n 3, 1) := by decide +kernel
theorem dL_law_758 : decode cL_law 758 = .ok (.iconst 1, 1) := by decide +kernel
theorem dL_law_759 : decode cL_law 759 = .ok (.iadd, 1) := by decide +kernel
theorem dL_law_760 : decode cL_law 760 = .ok (.iaload, 1) := by decide +kernel
theorem dL_law_761 : decode cL_law 761 = .ok (.aload_n 0, 1) := by decide +kernel
theorem dL_law_762 : decode cL_law 762 = .ok (.iload_n 3, 1) := by decide +kernel
theorem dL_law_763 : decode cL_law 763 = .ok (.iconst 2, 1) := by decide +kernel
theorem dL_law_764 : decode cL_law 764 = .ok (.iadd, 1) := by decide +kernel
theorem dL_law_765 : decode cL_law 765 = .ok (.iaload, 1) := by decide +kernel
theorem dL_law_766 : decode cL_law 766 = .ok (.aload_n 0, 1) := by decide +kernel
theorem dL_law_767 : decode cL_law 767 = .ok (.iload_n 3, 1) := by decide +kernel
theorem dL_law_768 : decode cL_law 768 = .ok (.iconst 3, 1) := by decide +kernel
theorem dL_law_769 : decode cL_law 769 = .ok (.iadd, 1) := by decide +kernel
theorem dL_law_770 : decode cL_law 770 = .ok (.iaload, 1) := by decide +kernel
theorem dL_law_771 : decode cL_law 771 = .ok (.invokevirtual 95, 3) := by decide +kernel
theorem dL_law_774 : decode cL_law 774 = .ok (.aload_n 2, 1) := by decide +kernel
theorem dL_law_775 : decode cL_law 775 = .ok (.aload_n 0, 1) := by decide +kernel
theorem dL_law_776 : decode cL_law 776 = .ok (.iload_n 3, 1) := by decide +kernel
theorem dL_law_777 : decode cL_law 777 = .ok (.iconst 1, 1) := by decide +kernel
theorem dL_law_778 : decode cL_law 778 = .ok (.iadd, 1) := by decide +kernel
theorem dL_law_779 : decode cL_law 779 = .ok (.iaload, 1) := by decide +kernel
theorem dL_law_780 : decode cL_law 780 = .ok (.aload_n 0, 1) := by decide +kernel
theorem dL_law_781 : decode cL_law 781 = .ok (.iload_n 3, 1) := by decide +kernel
theorem dL_law_782 : decode cL_law 782 = .ok (.iconst 2, 1) := by decide +kernel
theorem dL_law_783 : decode cL_law 783 = .ok (.iadd, 1) := by decide +kernel
theorem dL_law_784 : decode cL_law 784 = .ok (.iaload, 1) := by decide +kernel
theorem dL_law_785 : decode cL_law 785 = .ok (.aload_n 0, 1) := by decide +kernel
theorem dL_law_786 : decode cL_law 786 = .ok (.iload_n 3, 1) := by decide +kernel
theorem dL_law_787 : decode cL_law 787 = .ok (.iconst 3, 1) := by decide +kernel
theorem dL_law_788 : decode cL_law 788 = .ok (.iadd, 1) := by decide +kernel
theorem dL_law_789 : decode cL_law 789 = .ok (.iaload, 1) := by decide +kernel
theorem dL_law_790 : decode cL_law 790 = .ok (.invokevirtual 99, 3) := by decide +kernel
theorem dL_law_793 : decode cL_law 793 = .ok (.lcmp, 1) := by decide +kernel
theorem dL_law_794 : decode cL_law 794 = .ok (.ifCond .eq 61, 3) := by decide +kernel
theorem dL_law_797 : decode cL_law 797 = .ok (.iconst 0, 1) := by decide +kernel
theorem dL_law_798 : decode cL_law 798 = .ok (.ireturn, 1) := by decide +kernel
theorem dL_law_799 : decode cL_law 799 = .ok (.aload_n 1, 1) := by decide +kernel
theorem dL_law_800 : decode cL_law 800 = .ok (.aload_n 0, 1) := by decide +kernel
theorem dL_law_801 : decode cL_law 801 = .ok (.iload_n 3, 1) := by decide +kernel
theorem dL_law_802 : decode cL_law 802 = .ok (.iconst 1, 1) := by decide +kernel
theorem dL_law_803 : decode cL_law 803 = .ok (.iadd, 1) := by decide +kernel
theorem dL_law_804 : decode cL_law 804 = .ok (.iaload, 1) := by decide +kernel
theorem dL_law_805 : decode cL_law 805 = .ok (.aload_n 0, 1) := by decide +kernel
theorem dL_law_806 : decode cL_law 806 = .ok (.iload_n 3, 1) := by decide +kernel
theorem dL_law_807 : decode cL_law 807 = .ok (.iconst 2, 1) := by decide +kernel
theorem dL_law_808 : decode cL_law 808 = .ok (.iadd, 1) := by decide +kernel
theorem dL_law_809 : decode cL_law 809 = .ok (.iaload, 1) := by decide +kernel
theorem dL_law_810 : decode cL_law 810 = .ok (.invokevirtual 100, 3) := by decide +kernel
theorem dL_law_813 : decode cL_law 813 = .ok (.aload_n 2, 1) := by decide +kernel
theorem dL_law_814 : decode cL_law 814 = .ok (.aload_n 0, 1) := by decide +kernel
theorem dL_law_815 : decode cL_law 815 = .ok (.iload_n 3, 1) := by decide +kernel
theorem dL_law_816 : decode cL_law 816 = .ok (.iconst 1, 1) := by decide +kernel
theorem dL_law_817 : decode cL_law 817 = .ok (.iadd, 1) := by decide +kernel
theorem dL_law_818 : decode cL_law 818 = .ok (.iaload, 1) := by decide +kernel
theorem dL_law_819 : decode cL_law 819 = .ok (.aload_n 0, 1) := by decide +kernel
theorem dL_law_820 : decode cL_law 820 = .ok (.iload_n 3, 1) := by decide +kernel
theorem dL_law_821 : decode cL_law 821 = .ok (.iconst 2, 1) := by decide +kernel
theorem dL_law_822 : decode cL_law 822 = .ok (.iadd, 1) := by decide +kernel
theorem dL_law_823 : decode cL_law 823 = .ok (.iaload, 1) := by decide +kernel
theorem dL_law_824 : decode cL_law 824 = .ok (.invokevirtual 103, 3) := by decide +kernel
theorem dL_law_827 : decode cL_law 827 = .ok (.if_icmp .eq 28, 3) := by decide +kernel
theorem dL_law_830 : decode cL_law 830 = .ok (.iconst 0, 1) := by decide +kernel
theorem dL_law_831 : decode cL_law 831 = .ok (.ireturn, 1) := by decide +kernel
theorem dL_law_832 : decode cL_law 832 = .ok (.aload_n 1, 1) := by decide +kernel
theorem dL_law_833 : decode cL_law 833 = .ok (.aload_n 0, 1) := by decide +kernel
theorem dL_law_834 : decode cL_law 834 = .ok (.iload_n 3, 1) := by decide +kernel
theorem dL_law_835 : decode cL_law 835 = .ok (.iconst 1, 1) := by decide +kernel
theorem dL_law_836 : decode cL_law 836 = .ok (.iadd, 1) := by decide +kernel
theorem dL_law_837 : decode cL_law 837 = .ok (.iaload, 1) := by decide +kernel
theorem dL_law_838 : decode cL_law 838 = .ok (.invokevirtual 104, 3) := by decide +kernel
theorem dL_law_841 : decode cL_law 841 = .ok (.aload_n 2, 1) := by decide +kernel
theorem dL_law_842 : decode cL_law 842 = .ok (.aload_n 0, 1) := by decide +kernel
theorem dL_law_843 : decode cL_law 843 = .ok (.iload_n 3, 1) := by decide +kernel
theorem dL_law_844 : decode cL_law 844 = .ok (.iconst 1, 1) := by decide +kernel
theorem dL_law_845 : decode cL_law 845 = .ok (.iadd, 1) := by decide +kernel
theorem dL_law_846 : decode cL_law 846 = .ok (.iaload, 1) := by decide +kernel
theorem dL_law_847 : decode cL_law 847 = .ok (.invokevirtual 107, 3) := by decide +kernel
theorem dL_law_850 : decode cL_law 850 = .ok (.if_icmp .eq 5, 3) := by decide +kernel
theorem dL_law_853 : decode cL_law 853 = .ok (.iconst 0, 1) := by decide +kernel
theorem dL_law_854 : decode cL_law 854 = .ok (.ireturn, 1) := by decide +kernel
theorem dL_law_855 : decode cL_law 855 = .ok (.iinc 3 7, 3) := by decide +kernel
theorem dL_law_858 : decode cL_law 858 = .ok (.goto (-840), 3) := by decide +kernel
theorem dL_law_861 : decode cL_law 861 = .ok (.iconst 1, 1) := by decide +kernel
theorem dL_law_862 : decode cL_law 862 = .ok (.ireturn, 1) := by decide +kernel
end
section
/-! THE WORLDS. One state z of numbers, in rows, for both sides: row 0: power, limit, leads, how many readings, how many causes; 1: the sets of pins; 2..5: forced, told, amps, rules; 6, 7: the causes' sorts and numbers; 10 + n: the part n: there, burnt, open, first, other, kind, heat, g, k, h, m, c. -/
abbrev zS : Type := Nat → Nat → Int32
def zu (z : zS) (i j : Nat) (v : Int32) : zS := fun a b => if a = i then (if b = j then v else z a b) else z a b
theorem zu_same (z : zS) (i j : Nat) (v : Int32) : zu z i j v i j = v := by simp [zu]
theorem zu_row (z : zS) (i j a : Nat) (v : Int32) (h : ¬ a = i) : zu z i j v a = z a := by funext b; simp [zu, h]
theorem zu_col (z : zS) (i j a b : Nat) (v : Int32) (h : ¬ b = j) : zu z i j v a b = z a b := by simp [zu, h]
theorem zu_upd (z : zS) (i j : Nat) (v : Int32) : zu z i j v i = upd (z i) j v := by funext b; simp [zu, upd]
abbrev qG : Type := va_G × ClassId × ClassId × ClassId
def qTys (g : qG) : List (ClassId × FieldType) := [(g.2.1, .int), (g.2.2.1, .boolean), (g.2.2.2, .object "PartCurves$Part")]
def pF (f : Nat → Int32) : List Value := [.int (f 0), .int (f 1), .int (f 2), .int (f 3), .int (f 4), .int (f 5), .int (f 6), .int (f 7), .int (f 8), .int (f 9), .int (f 10), .int (f 11)]
/-- the class's cells: 0 it, 1 its sets of pins, 2..5 the readings' rows, 6, 7 the causes' rows, 8 the row of parts, 9 the readings, 10..13 the parts, 14 the causes -/
def WX (g : qG) (ad : Nat → Nat) (z : zS) : va_W := [(ad 0, .inr (3, [.ref (ad 8), .ref (ad 1), .ref (ad 9), .ref (ad 14), .int (z 0 0), .int (z 0 1), .int (z 0 2)])),
  (ad 1, .inl (g.2.1, 4, .inl (z 1))), (ad 2, .inl (g.2.1, 60, .inl (z 2))), (ad 3, .inl (g.2.1, 60, .inl (z 3))), (ad 4, .inl (g.2.1, 60, .inl (z 4))), (ad 5, .inl (g.2.1, 60, .inl (z 5))), (ad 6, .inl (g.2.1, 3, .inl (z 6))), (ad 7, .inl (g.2.1, 3, .inl (z 7))),
  (ad 8, .inl (g.2.2.2, 4, .inr (.inr (.inr (.inr (fun n => some (ad (10 + n)))))))),
  (ad 9, .inr (2, [.ref (ad 2), .ref (ad 3), .ref (ad 4), .ref (ad 5), .int (z 0 3)])),
  (ad 10, .inr (1, pF (z 10))), (ad 11, .inr (1, pF (z 11))), (ad 12, .inr (1, pF (z 12))), (ad 13, .inr (1, pF (z 13))),
  (ad 14, .inr (0, [.ref (ad 6), .ref (ad 7), .int (z 0 4)]))]
def leastN (k : Nat) : Int32 := if k = 0 then 1 else if k = 1 then 1 else 0
def mostN (k : Nat) : Int32 := if k = 0 then 5000 else if k = 1 then 2000 else if k = 2 then 2000 else if k = 3 then 5000 else 5
/-- the reference's cells, and its own three numbers w: found, rule, tooHot -/
def WM (g : qG) (am : Nat → Nat) (z : zS) (w : Nat → Int32) : va_W := [(am 0, .inr (4, [.ref (am 1), .ref (am 2), .ref (am 3), .ref (am 4), .ref (am 5), .ref (am 6), .ref (am 7), .ref (am 8), .ref (am 9), .ref (am 10), .ref (am 11), .int (z 0 0), .int (z 0 1), .int (z 0 2), .int (w 0), .int (w 1), .int (z 0 3), .ref (am 12), .ref (am 13), .ref (am 14), .ref (am 15), .int (z 0 4), .ref (am 16), .ref (am 17), .int (w 2)])),
  (am 1, .inl (g.2.2.1, 4, .inl (fun n => z (10 + n) 0))), (am 2, .inl (g.2.1, 4, .inl (fun n => z (10 + n) 3))), (am 3, .inl (g.2.1, 4, .inl (fun n => z (10 + n) 4))), (am 4, .inl (g.2.1, 4, .inl (fun n => z (10 + n) 5))),
  (am 5, .inl (g.2.1, 20, .inl (fun j => z (10 + j / 5) (7 + j % 5)))), (am 6, .inl (g.2.1, 5, .inl leastN)), (am 7, .inl (g.2.1, 5, .inl mostN)),
  (am 8, .inl (g.2.1, 4, .inl (fun n => z (10 + n) 6))), (am 9, .inl (g.2.2.1, 4, .inl (fun n => z (10 + n) 1))), (am 10, .inl (g.2.2.1, 4, .inl (fun n => z (10 + n) 2))),
  (am 11, .inl (g.2.1, 4, .inl (z 1))), (am 12, .inl (g.2.1, 60, .inl (z 2))), (am 13, .inl (g.2.1, 60, .inl (z 3))), (am 14, .inl (g.2.1, 60, .inl (z 4))), (am 15, .inl (g.2.1, 60, .inl (z 5))), (am 16, .inl (g.2.1, 3, .inl (z 6))), (am 17, .inl (g.2.1, 3, .inl (z 7)))]
def adOf (n : Nat) (ad : Nat → Nat) : Nat → Prop := fun q => ∃ i, i < n ∧ q = ad i
def adInj (n : Nat) (ad : Nat → Nat) : Prop := ∀ i j, i < n → j < n → ad i = ad j → i = j
theorem q_dom {ws : va_W} {n : Nat} {ad : Nat → Nat} (h : ws.map Prod.fst = (List.range n).map ad) {k : Nat} {q : Nat × va_E} (hk : ws[k]? = some q) : k < n ∧ q.1 = ad k := by
  have h1 : (ws.map Prod.fst)[k]? = some q.1 := by rw [List.getElem?_map, hk]; rfl
  rw [h, List.getElem?_map] at h1
  have hl : k < n := by
    rcases Nat.lt_or_ge k n with z | z
    · exact z
    · rw [List.getElem?_eq_none (by simpa using z)] at h1; cases h1
  rw [List.getElem?_range hl] at h1
  exact ⟨hl, (Option.some.inj h1).symm⟩
theorem q_D {ws : va_W} {n : Nat} {ad : Nat → Nat} (h : ws.map Prod.fst = (List.range n).map ad) (hj : adInj n ad) : va_D (adOf n ad) ws := by
  refine ⟨fun i j p q hi hj2 hpq => ?_, fun k q hk => ?_⟩
  · obtain ⟨h1, h2⟩ := q_dom h hi
    obtain ⟨h3, h4⟩ := q_dom h hj2
    exact hj i j h1 h3 (by rw [← h2, ← h4]; exact hpq)
  · obtain ⟨h1, h2⟩ := q_dom h hk
    exact ⟨k, h1, h2⟩
theorem WX_dom (g : qG) (ad : Nat → Nat) (z : zS) : (WX g ad z).map Prod.fst = (List.range 15).map ad := rfl
theorem WM_dom (g : qG) (am : Nat → Nat) (z : zS) (w : Nat → Int32) : (WM g am z w).map Prod.fst = (List.range 18).map am := rfl
theorem WX_D (g : qG) {ad : Nat → Nat} (z : zS) (hj : adInj 15 ad) : va_D (adOf 15 ad) (WX g ad z) := q_D (WX_dom g ad z) hj
theorem WM_D (g : qG) {am : Nat → Nat} (z : zS) (w : Nat → Int32) (hj : adInj 18 am) : va_D (adOf 18 am) (WM g am z w) := q_D (WM_dom g am z w) hj
theorem q_4 {P : Nat → Prop} (h0 : P 0) (h1 : P 1) (h2 : P 2) (h3 : P 3) {i : Nat} (hi : i < 4) : P i := by
  rcases (show i = 0 ∨ i = 1 ∨ i = 2 ∨ i = 3 by omega) with rfl | rfl | rfl | rfl <;> assumption
theorem WX_p (g : qG) (ad : Nat → Nat) (z : zS) {e : Nat} (he : e < 4) : (WX g ad z)[10 + e]? = some (ad (10 + e), .inr (1, pF (z (10 + e)))) :=
  q_4 (P := fun e => (WX g ad z)[10 + e]? = some (ad (10 + e), .inr (1, pF (z (10 + e))))) rfl rfl rfl rfl he
-- a write, by its row
theorem WX_on (g : qG) (ad : Nat → Nat) (z : zS) (v : Int32) : (WX g ad z).set 0 (ad 0, .inr (3, [.ref (ad 8), .ref (ad 1), .ref (ad 9), .ref (ad 14), .int v, .int (z 0 1), .int (z 0 2)])) = WX g ad (zu z 0 0 v) := rfl
theorem WX_lim (g : qG) (ad : Nat → Nat) (z : zS) (v : Int32) : (WX g ad z).set 0 (ad 0, .inr (3, [.ref (ad 8), .ref (ad 1), .ref (ad 9), .ref (ad 14), .int (z 0 0), .int v, .int (z 0 2)])) = WX g ad (zu z 0 1 v) := rfl
theorem WX_lds (g : qG) (ad : Nat → Nat) (z : zS) (v : Int32) : (WX g ad z).set 0 (ad 0, .inr (3, [.ref (ad 8), .ref (ad 1), .ref (ad 9), .ref (ad 14), .int (z 0 0), .int (z 0 1), .int v])) = WX g ad (zu z 0 2 v) := rfl
theorem WX_rc (g : qG) (ad : Nat → Nat) (z : zS) (v : Int32) : (WX g ad z).set 9 (ad 9, .inr (2, [.ref (ad 2), .ref (ad 3), .ref (ad 4), .ref (ad 5), .int v])) = WX g ad (zu z 0 3 v) := rfl
theorem WX_cc (g : qG) (ad : Nat → Nat) (z : zS) (v : Int32) : (WX g ad z).set 14 (ad 14, .inr (0, [.ref (ad 6), .ref (ad 7), .int v])) = WX g ad (zu z 0 4 v) := rfl
theorem WX_1 (g : qG) (ad : Nat → Nat) (z : zS) (j : Nat) (v : Int32) : (WX g ad z).set 1 (ad 1, .inl (g.2.1, 4, .inl (upd (z 1) j v))) = WX g ad (zu z 1 j v) := rfl
theorem WX_2 (g : qG) (ad : Nat → Nat) (z : zS) (j : Nat) (v : Int32) : (WX g ad z).set 2 (ad 2, .inl (g.2.1, 60, .inl (upd (z 2) j v))) = WX g ad (zu z 2 j v) := rfl
theorem WX_3 (g : qG) (ad : Nat → Nat) (z : zS) (j : Nat) (v : Int32) : (WX g ad z).set 3 (ad 3, .inl (g.2.1, 60, .inl (upd (z 3) j v))) = WX g ad (zu z 3 j v) := rfl
theorem WX_4 (g : qG) (ad : Nat → Nat) (z : zS) (j : Nat) (v : Int32) : (WX g ad z).set 4 (ad 4, .inl (g.2.1, 60, .inl (upd (z 4) j v))) = WX g ad (zu z 4 j v) := rfl
theorem WX_5 (g : qG) (ad : Nat → Nat) (z : zS) (j : Nat) (v : Int32) : (WX g ad z).set 5 (ad 5, .inl (g.2.1, 60, .inl (upd (z 5) j v))) = WX g ad (zu z 5 j v) := rfl
theorem WX_6 (g : qG) (ad : Nat → Nat) (z : zS) (j : Nat) (v : Int32) : (WX g ad z).set 6 (ad 6, .inl (g.2.1, 3, .inl (upd (z 6) j v))) = WX g ad (zu z 6 j v) := rfl
theorem WX_7 (g : qG) (ad : Nat → Nat) (z : zS) (j : Nat) (v : Int32) : (WX g ad z).set 7 (ad 7, .inl (g.2.1, 3, .inl (upd (z 7) j v))) = WX g ad (zu z 7 j v) := rfl
theorem WX_part (g : qG) (ad : Nat → Nat) (z : zS) {e : Nat} (he : e < 4) (v : Int32) {k : Nat} (hk : k < 12) : (WX g ad z).set (10 + e) (ad (10 + e), .inr (1, (pF (z (10 + e))).set k (.int v))) = WX g ad (zu z (10 + e) k v) := by
  rcases (show k = 0 ∨ k = 1 ∨ k = 2 ∨ k = 3 ∨ k = 4 ∨ k = 5 ∨ k = 6 ∨ k = 7 ∨ k = 8 ∨ k = 9 ∨ k = 10 ∨ k = 11 by omega) with rfl | rfl | rfl | rfl | rfl | rfl | rfl | rfl | rfl | rfl | rfl | rfl <;> exact q_4 (P := fun e => (WX g ad z).set (10 + e) (ad (10 + e), .inr (1, (pF (z (10 + e))).set _ (.int v))) = WX g ad (zu z (10 + e) _ v)) rfl rfl rfl rfl he
theorem WM_w0 (g : qG) (am : Nat → Nat) (z : zS) (w : Nat → Int32) (v : Int32) : (WM g am z w).set 0 (am 0, .inr (4, [.ref (am 1), .ref (am 2), .ref (am 3), .ref (am 4), .ref (am 5), .ref (am 6), .ref (am 7), .ref (am 8), .ref (am 9), .ref (am 10), .ref (am 11), .int (z 0 0), .int (z 0 1), .int (z 0 2), .int v, .int (w 1), .int (z 0 3), .ref (am 12), .ref (am 13), .ref (am 14), .ref (am 15), .int (z 0 4), .ref (am 16), .ref (am 17), .int (w 2)])) = WM g am z (upd w 0 v) := rfl
theorem WM_w1 (g : qG) (am : Nat → Nat) (z : zS) (w : Nat → Int32) (v : Int32) : (WM g am z w).set 0 (am 0, .inr (4, [.ref (am 1), .ref (am 2), .ref (am 3), .ref (am 4), .ref (am 5), .ref (am 6), .ref (am 7), .ref (am 8), .ref (am 9), .ref (am 10), .ref (am 11), .int (z 0 0), .int (z 0 1), .int (z 0 2), .int (w 0), .int v, .int (z 0 3), .ref (am 12), .ref (am 13), .ref (am 14), .ref (am 15), .int (z 0 4), .ref (am 16), .ref (am 17), .int (w 2)])) = WM g am z (upd w 1 v) := rfl
theorem WM_w2 (g : qG) (am : Nat → Nat) (z : zS) (w : Nat → Int32) (v : Int32) : (WM g am z w).set 0 (am 0, .inr (4, [.ref (am 1), .ref (am 2), .ref (am 3), .ref (am 4), .ref (am 5), .ref (am 6), .ref (am 7), .ref (am 8), .ref (am 9), .ref (am 10), .ref (am 11), .int (z 0 0), .int (z 0 1), .int (z 0 2), .int (w 0), .int (w 1), .int (z 0 3), .ref (am 12), .ref (am 13), .ref (am 14), .ref (am 15), .int (z 0 4), .ref (am 16), .ref (am 17), .int v])) = WM g am z (upd w 2 v) := rfl
theorem mF_self (z : zS) (n0 f : Nat) (v : Int32) : (fun n => zu z (10 + n0) f v (10 + n) f) = upd (fun n => z (10 + n) f) n0 v := by
  funext n
  by_cases h : n = n0
  · subst h; simp [zu, upd]
  · simp [zu, upd, h]
theorem mF_other (z : zS) (n0 f f' : Nat) (v : Int32) (h : ¬ f' = f) : (fun n => zu z (10 + n0) f v (10 + n) f') = fun n => z (10 + n) f' := by
  funext n; simp [zu, h]
theorem mN_other (z : zS) (n0 f : Nat) (v : Int32) (h : f < 7) : (fun j => zu z (10 + n0) f v (10 + j / 5) (7 + j % 5)) = fun j => z (10 + j / 5) (7 + j % 5) := by
  funext j
  have h2 : ¬ 7 + j % 5 = f := by omega
  simp [zu, h2]
theorem mN_self (z : zS) (n0 k : Nat) (v : Int32) (hk : k < 5) : (fun j => zu z (10 + n0) (7 + k) v (10 + j / 5) (7 + j % 5)) = upd (fun j => z (10 + j / 5) (7 + j % 5)) (5 * n0 + k) v := by
  funext j
  by_cases h : j = 5 * n0 + k
  · subst h
    have h1 : (5 * n0 + k) / 5 = n0 := by omega
    have h2 : (5 * n0 + k) % 5 = k := by omega
    simp [zu, upd, h1, h2]
  · have h3 : ¬ (10 + j / 5 = 10 + n0 ∧ 7 + j % 5 = 7 + k) := by omega
    simp only [zu, upd, if_neg h]
    by_cases h4 : 10 + j / 5 = 10 + n0
    · rw [if_pos h4, if_neg (fun h5 => h3 ⟨h4, h5⟩)]
    · rw [if_neg h4]
theorem mR_low (z : zS) (n0 f i : Nat) (v : Int32) (h : i < 10) : zu z (10 + n0) f v i = z i := zu_row z (10 + n0) f i v (by omega)
theorem mR_part (z : zS) (i j : Nat) (v : Int32) (h : i < 10) (n : Nat) : zu z i j v (10 + n) = z (10 + n) := zu_row z i j (10 + n) v (by omega)
theorem WM_on (g : qG) (am : Nat → Nat) (z : zS) (w : Nat → Int32) (v : Int32) : (WM g am z w).set 0 (am 0, .inr (4, [.ref (am 1), .ref (am 2), .ref (am 3), .ref (am 4), .ref (am 5), .ref (am 6), .ref (am 7), .ref (am 8), .ref (am 9), .ref (am 10), .ref (am 11), .int v, .int (z 0 1), .int (z 0 2), .int (w 0), .int (w 1), .int (z 0 3), .ref (am 12), .ref (am 13), .ref (am 14), .ref (am 15), .int (z 0 4), .ref (am 16), .ref (am 17), .int (w 2)])) = WM g am (zu z 0 0 v) w := by
  simp [WM, mR_part, zu_row, zu_same, zu_col]
theorem WM_lim (g : qG) (am : Nat → Nat) (z : zS) (w : Nat → Int32) (v : Int32) : (WM g am z w).set 0 (am 0, .inr (4, [.ref (am 1), .ref (am 2), .ref (am 3), .ref (am 4), .ref (am 5), .ref (am 6), .ref (am 7), .ref (am 8), .ref (am 9), .ref (am 10), .ref (am 11), .int (z 0 0), .int v, .int (z 0 2), .int (w 0), .int (w 1), .int (z 0 3), .ref (am 12), .ref (am 13), .ref (am 14), .ref (am 15), .int (z 0 4), .ref (am 16), .ref (am 17), .int (w 2)])) = WM g am (zu z 0 1 v) w := by
  simp [WM, mR_part, zu_row, zu_same, zu_col]
theorem WM_lds (g : qG) (am : Nat → Nat) (z : zS) (w : Nat → Int32) (v : Int32) : (WM g am z w).set 0 (am 0, .inr (4, [.ref (am 1), .ref (am 2), .ref (am 3), .ref (am 4), .ref (am 5), .ref (am 6), .ref (am 7), .ref (am 8), .ref (am 9), .ref (am 10), .ref (am 11), .int (z 0 0), .int (z 0 1), .int v, .int (w 0), .int (w 1), .int (z 0 3), .ref (am 12), .ref (am 13), .ref (am 14), .ref (am 15), .int (z 0 4), .ref (am 16), .ref (am 17), .int (w 2)])) = WM g am (zu z 0 2 v) w := by
  simp [WM, mR_part, zu_row, zu_same, zu_col]
theorem WM_rc (g : qG) (am : Nat → Nat) (z : zS) (w : Nat → Int32) (v : Int32) : (WM g am z w).set 0 (am 0, .inr (4, [.ref (am 1), .ref (am 2), .ref (am 3), .ref (am 4), .ref (am 5), .ref (am 6), .ref (am 7), .ref (am 8), .ref (am 9), .ref (am 10), .ref (am 11), .int (z 0 0), .int (z 0 1), .int (z 0 2), .int (w 0), .int (w 1), .int v, .ref (am 12), .ref (am 13), .ref (am 14), .ref (am 15), .int (z 0 4), .ref (am 16), .ref (am 17), .int (w 2)])) = WM g am (zu z 0 3 v) w := by
  simp [WM, mR_part, zu_row, zu_same, zu_col]
theorem WM_cc (g : qG) (am : Nat → Nat) (z : zS) (w : Nat → Int32) (v : Int32) : (WM g am z w).set 0 (am 0, .inr (4, [.ref (am 1), .ref (am 2), .ref (am 3), .ref (am 4), .ref (am 5), .ref (am 6), .ref (am 7), .ref (am 8), .ref (am 9), .ref (am 10), .ref (am 11), .int (z 0 0), .int (z 0 1), .int (z 0 2), .int (w 0), .int (w 1), .int (z 0 3), .ref (am 12), .ref (am 13), .ref (am 14), .ref (am 15), .int v, .ref (am 16), .ref (am 17), .int (w 2)])) = WM g am (zu z 0 4 v) w := by
  simp [WM, mR_part, zu_row, zu_same, zu_col]
theorem WM_f0 (g : qG) (am : Nat → Nat) (z : zS) (w : Nat → Int32) (n0 : Nat) (v : Int32) : (WM g am z w).set 1 (am 1, .inl (g.2.2.1, 4, .inl (upd (fun n => z (10 + n) 0) n0 v))) = WM g am (zu z (10 + n0) 0 v) w := by
  simp [WM, mF_self, mF_other, mN_other, mR_low]
theorem WM_f3 (g : qG) (am : Nat → Nat) (z : zS) (w : Nat → Int32) (n0 : Nat) (v : Int32) : (WM g am z w).set 2 (am 2, .inl (g.2.1, 4, .inl (upd (fun n => z (10 + n) 3) n0 v))) = WM g am (zu z (10 + n0) 3 v) w := by
  simp [WM, mF_self, mF_other, mN_other, mR_low]
theorem WM_f4 (g : qG) (am : Nat → Nat) (z : zS) (w : Nat → Int32) (n0 : Nat) (v : Int32) : (WM g am z w).set 3 (am 3, .inl (g.2.1, 4, .inl (upd (fun n => z (10 + n) 4) n0 v))) = WM g am (zu z (10 + n0) 4 v) w := by
  simp [WM, mF_self, mF_other, mN_other, mR_low]
theorem WM_f5 (g : qG) (am : Nat → Nat) (z : zS) (w : Nat → Int32) (n0 : Nat) (v : Int32) : (WM g am z w).set 4 (am 4, .inl (g.2.1, 4, .inl (upd (fun n => z (10 + n) 5) n0 v))) = WM g am (zu z (10 + n0) 5 v) w := by
  simp [WM, mF_self, mF_other, mN_other, mR_low]
theorem WM_f6 (g : qG) (am : Nat → Nat) (z : zS) (w : Nat → Int32) (n0 : Nat) (v : Int32) : (WM g am z w).set 8 (am 8, .inl (g.2.1, 4, .inl (upd (fun n => z (10 + n) 6) n0 v))) = WM g am (zu z (10 + n0) 6 v) w := by
  simp [WM, mF_self, mF_other, mN_other, mR_low]
theorem WM_f1 (g : qG) (am : Nat → Nat) (z : zS) (w : Nat → Int32) (n0 : Nat) (v : Int32) : (WM g am z w).set 9 (am 9, .inl (g.2.2.1, 4, .inl (upd (fun n => z (10 + n) 1) n0 v))) = WM g am (zu z (10 + n0) 1 v) w := by
  simp [WM, mF_self, mF_other, mN_other, mR_low]
theorem WM_f2 (g : qG) (am : Nat → Nat) (z : zS) (w : Nat → Int32) (n0 : Nat) (v : Int32) : (WM g am z w).set 10 (am 10, .inl (g.2.2.1, 4, .inl (upd (fun n => z (10 + n) 2) n0 v))) = WM g am (zu z (10 + n0) 2 v) w := by
  simp [WM, mF_self, mF_other, mN_other, mR_low]
theorem WM_n (g : qG) (am : Nat → Nat) (z : zS) (w : Nat → Int32) (n0 k : Nat) (v : Int32) (hk : k < 5) : (WM g am z w).set 5 (am 5, .inl (g.2.1, 20, .inl (upd (fun j => z (10 + j / 5) (7 + j % 5)) (5 * n0 + k) v))) = WM g am (zu z (10 + n0) (7 + k) v) w := by
  have h : ∀ f', f' < 7 → (fun n => zu z (10 + n0) (7 + k) v (10 + n) f') = fun n => z (10 + n) f' := fun f' h => mF_other z n0 (7 + k) f' v (by omega)
  simp [WM, mN_self z n0 k v hk, h, mR_low]
theorem WM_11 (g : qG) (am : Nat → Nat) (z : zS) (w : Nat → Int32) (j : Nat) (v : Int32) : (WM g am z w).set 11 (am 11, .inl (g.2.1, 4, .inl (upd (z 1) j v))) = WM g am (zu z 1 j v) w := by
  simp [WM, mR_part, zu_upd, zu_row]
theorem WM_12 (g : qG) (am : Nat → Nat) (z : zS) (w : Nat → Int32) (j : Nat) (v : Int32) : (WM g am z w).set 12 (am 12, .inl (g.2.1, 60, .inl (upd (z 2) j v))) = WM g am (zu z 2 j v) w := by
  simp [WM, mR_part, zu_upd, zu_row]
theorem WM_13 (g : qG) (am : Nat → Nat) (z : zS) (w : Nat → Int32) (j : Nat) (v : Int32) : (WM g am z w).set 13 (am 13, .inl (g.2.1, 60, .inl (upd (z 3) j v))) = WM g am (zu z 3 j v) w := by
  simp [WM, mR_part, zu_upd, zu_row]
theorem WM_14 (g : qG) (am : Nat → Nat) (z : zS) (w : Nat → Int32) (j : Nat) (v : Int32) : (WM g am z w).set 14 (am 14, .inl (g.2.1, 60, .inl (upd (z 4) j v))) = WM g am (zu z 4 j v) w := by
  simp [WM, mR_part, zu_upd, zu_row]
theorem WM_15 (g : qG) (am : Nat → Nat) (z : zS) (w : Nat → Int32) (j : Nat) (v : Int32) : (WM g am z w).set 15 (am 15, .inl (g.2.1, 60, .inl (upd (z 5) j v))) = WM g am (zu z 5 j v) w := by
  simp [WM, mR_part, zu_upd, zu_row]
theorem WM_16 (g : qG) (am : Nat → Nat) (z : zS) (w : Nat → Int32) (j : Nat) (v : Int32) : (WM g am z w).set 16 (am 16, .inl (g.2.1, 3, .inl (upd (z 6) j v))) = WM g am (zu z 6 j v) w := by
  simp [WM, mR_part, zu_upd, zu_row]
theorem WM_17 (g : qG) (am : Nat → Nat) (z : zS) (w : Nat → Int32) (j : Nat) (v : Int32) : (WM g am z w).set 17 (am 17, .inl (g.2.1, 3, .inl (upd (z 7) j v))) = WM g am (zu z 7 j v) w := by
  simp [WM, mR_part, zu_upd, zu_row]
abbrev WMu (g : qG) (am : Nat → Nat) (u : zS × (Nat → Int32)) : va_W := WM g am u.1 u.2
theorem WMu_D (g : qG) {am : Nat → Nat} (u : zS × (Nat → Int32)) (hj : adInj 18 am) : va_D (adOf 18 am) (WMu g am u) := WM_D g u.1 u.2 hj
end
section
/-! STEPS over one world Wd u: a method's start, its end, calls, writes. A contract says: the answer is E, the world's value behind it U; nothing is made. -/
def rmL (d : Nat) : Room := { frames := d, cells := 0, slots := 0, locals := 40 * d }
def qU {S : Type} (g : qG) (Wd : S → va_W) (u : S) (U : State) : Prop := va_P g.1 vwCl (Wd u) U.heap ∧ va_K g.1 vwCl (qTys g) U
def qMi {S : Type} (l : Launch) (y : MethodName) (ws : List Cond) (d : Nat) (g : qG) (Wd : S → va_W) (A : Nat → Prop) (u : S) (as : List Value) (E : Int32) (U : S) : Prop := Met l y ws (rmL d) (va_Pc as (qU g Wd u)) (va_Qi (fun r u' => r = E ∧ u' = U) (qU g Wd) A) 0 0 A
def qMl {S : Type} (l : Launch) (y : MethodName) (ws : List Cond) (d : Nat) (g : qG) (Wd : S → va_W) (A : Nat → Prop) (u : S) (as : List Value) (E : Int64) (U : S) : Prop := Met l y ws (rmL d) (va_Pc as (qU g Wd u)) (va_Ql (fun r u' => r = E ∧ u' = U) (qU g Wd) A) 0 0 A
def qMq {S : Type} (l : Launch) (y : MethodName) (ws : List Cond) (d : Nat) (g : qG) (Wd : S → va_W) (A : Nat → Prop) (u : S) (as : List Value) (E : Option Nat) (U : S) : Prop := Met l y ws (rmL d) (va_Pc as (qU g Wd u)) (va_Qq (fun r u' => r = E ∧ u' = U) (qU g Wd) A) 0 0 A
def qMv {S : Type} (l : Launch) (y : MethodName) (ws : List Cond) (d : Nat) (g : qG) (Wd : S → va_W) (A : Nat → Prop) (u : S) (as : List Value) (U : S) : Prop := Met l y ws (rmL d) (va_Pc as (qU g Wd u)) (va_Qv (fun u' => u' = U) (qU g Wd) A) 0 0 A
theorem qBlind {S : Type} {g : qG} {Wd : S → va_W} {u : S} {as : List Value} : FrameBlind (va_Pc as (qU g Wd u)) := fun a U g' mk q => ⟨q.1, q.2.1, va_K.moved (u := U) (U := U.calling g' mk a) (Vm.Alike.refl U.vm) q.2.2⟩
theorem qStart {S : Type} {l : Launch} {y : MethodName} {ws ws' : List Cond} {d : Nat} {g : qG} {Wd : S → va_W} {A : Nat → Prop} {u : S} {as : List Value} {Qc : Array Value → State → Outcome → State → Prop} {cc : ByteArray} {maxL : Nat} {ret : Option FieldType} (hy : plainFor y = true) (hw : ws = .code y cc maxL ret :: ws') (hlen : (lg_sl as).length ≤ maxL)
    (body : ∀ (p : Program) (e : Env) (s : State) (m : MethodId) (args : Array Value) (below : List Frame) (meth : Method) (c : Code), p.tables.exec = Jvm.exec → c.code = cc → c.maxLocals = maxL → s.vm.findClass y.cls = some m.cls → (∀ w ∈ ws, w.before args s = true) → meth.sig.returnType = ret → meth.locks = false → va_P g.1 vwCl (Wd u) s.heap → va_K g.1 vwCl (qTys g) s → ∀ ls : Array Slot, lv_has ls maxL (lv_args 0 as) → W p l e (rmL d) s m args below meth c s.heap [] 0 0 (MQ below Qc args s 0 0 A) (F0 m 0 ls [])) : Met l y ws (rmL d) (va_Pc as (qU g Wd u)) Qc 0 0 A := by
  refine va_MetF (cc := cc) (maxL := maxL) (ret := ret) hy hw ?_
  intro p e s m args below meth c s₁ B hml hv
  obtain ⟨rfl, hP, hK⟩ := hv
  rw [lg_entry_eq]
  exact body p e s m _ below meth c B.exec B.bytes hml (findClass_of_methodNamed B.named) (atoms_spec (ws := ws) B.pre) B.returns B.notSynchronized hP hK _ (lv_entry as hlen)
section QST
variable {p : Program} {l : Launch} {e : Env} {R : Room} {s : State} {m : MethodId} {args : Array Value} {below : List Frame} {meth : Method} {c : Code} {H : Heap} {locs : List Loc} {cells slots : Nat} {Q : State → Prop}
variable {S : Type} {g : qG} {Wd : S → va_W} {A : Nat → Prop} {cc : ByteArray} {pc : Nat} {ls : Array Slot}
theorem qRi (hx : p.tables.exec = Jvm.exec) (hb : c.code = cc) (hr : meth.sig.returnType = some .int) (hlk : meth.locks = false) {E v : Int32} {U u' : S} (hP : va_P g.1 vwCl (Wd u') H) (hK : va_K g.1 vwCl (qTys g) s) (hS : va_S A s.heap H locs) (hdg : decode cc pc = .ok (.ireturn, 1)) (h1 : v = E) (h2 : u' = U) : W p l e R s m args below meth c H locs 0 0 (MQ below (va_Qi (fun r u' => r = E ∧ u' = U) (qU g Wd) A) args s 0 0 A) (F0 m pc ls [.int v]) :=
  W.iret (v := v) hx hb hr (fun t ht hW => ⟨⟨v, u', rfl, ⟨h1, h2⟩, by rw [ht]; exact hP, va_K.moved hW.alike hK⟩, hS.F ht⟩) hS.2.2 hdg hlk
theorem qRz (hx : p.tables.exec = Jvm.exec) (hb : c.code = cc) (hr : meth.sig.returnType = some .boolean) (hlk : meth.locks = false) {E v : Int32} {U u' : S} (hn : narrow .boolean (.int v) = .int v) (hP : va_P g.1 vwCl (Wd u') H) (hK : va_K g.1 vwCl (qTys g) s) (hS : va_S A s.heap H locs) (hdg : decode cc pc = .ok (.ireturn, 1)) (h1 : v = E) (h2 : u' = U) : W p l e R s m args below meth c H locs 0 0 (MQ below (va_Qi (fun r u' => r = E ∧ u' = U) (qU g Wd) A) args s 0 0 A) (F0 m pc ls [.int v]) :=
  W.zret (v := v) hx hb hr hn (fun t ht hW => ⟨⟨v, u', rfl, ⟨h1, h2⟩, by rw [ht]; exact hP, va_K.moved hW.alike hK⟩, hS.F ht⟩) hS.2.2 hdg hlk
theorem qRl (hx : p.tables.exec = Jvm.exec) (hb : c.code = cc) (hr : meth.sig.returnType = some .long) (hlk : meth.locks = false) {E v : Int64} {U u' : S} (hP : va_P g.1 vwCl (Wd u') H) (hK : va_K g.1 vwCl (qTys g) s) (hS : va_S A s.heap H locs) (hdg : decode cc pc = .ok (.lreturn, 1)) (h1 : v = E) (h2 : u' = U) : W p l e R s m args below meth c H locs 0 0 (MQ below (va_Ql (fun r u' => r = E ∧ u' = U) (qU g Wd) A) args s 0 0 A) (F0 m pc ls [.long v]) :=
  W.lret (v := v) hx hb hr (fun t ht hW => ⟨⟨v, u', rfl, ⟨h1, h2⟩, by rw [ht]; exact hP, va_K.moved hW.alike hK⟩, hS.F ht⟩) hS.2.2 hdg hlk
theorem qRv (hx : p.tables.exec = Jvm.exec) (hb : c.code = cc) (hr : meth.sig.returnType = none) (hlk : meth.locks = false) {U u' : S} (hP : va_P g.1 vwCl (Wd u') H) (hK : va_K g.1 vwCl (qTys g) s) (hS : va_S A s.heap H locs) (hdg : decode cc pc = .ok (.return_, 1)) (h2 : u' = U) : W p l e R s m args below meth c H locs 0 0 (MQ below (va_Qv (fun u' => u' = U) (qU g Wd) A) args s 0 0 A) (F0 m pc ls []) :=
  W.vret hx hb hr (fun t ht hW => ⟨⟨u', rfl, h2, by rw [ht]; exact hP, va_K.moved hW.alike hK⟩, hS.F ht⟩) hS.2.2 hdg hlk
theorem qRq (hx : p.tables.exec = Jvm.exec) (hb : c.code = cc) {C : String} (hr : meth.sig.returnType = some (.object C)) (hlk : meth.locks = false) {E v : Option Nat} {U u' : S} (hP : va_P g.1 vwCl (Wd u') H) (hK : va_K g.1 vwCl (qTys g) s) (hS : va_S A s.heap H locs) (hdg : decode cc pc = .ok (.areturn, 1)) {vv : Value} (hvv : va_rf v = vv) (h1 : v = E) (h2 : u' = U) : W p l e R s m args below meth c H locs 0 0 (MQ below (va_Qq (fun r u' => r = E ∧ u' = U) (qU g Wd) A) args s 0 0 A) (F0 m pc ls [vv]) := by
  subst hvv
  exact W.aret (v := va_rf v) hx hb hr (Or.inl ⟨C, rfl⟩) (by cases v with | none => exact Or.inl rfl | some a => exact Or.inr ⟨a, rfl⟩) (fun t ht hW => ⟨⟨v, u', rfl, ⟨h1, h2⟩, by rw [ht]; exact hP, va_K.moved hW.alike hK⟩, hS.F ht⟩) hS.2.2 hdg hlk
-- arrays, with the value as it is wanted
theorem qIld (hx : p.tables.exec = Jvm.exec) (hb : c.code = cc) (hK : va_K g.1 vwCl (qTys g) s) {u : S} (hP : va_P g.1 vwCl (Wd u) H) (q0 : Nat) {a n : Nat} {f : Nat → Int32} (ha : (Wd u)[q0]? = some (a, .inl (g.2.1, n, .inl f))) {i v : Int32} (hin : vp_in i n) (hv : f i.toNatClampNeg = v) (hdg : decode cc pc = .ok (.iaload, 1)) {rest : List Value}
    (kk : W p l e R s m args below meth c H locs cells slots Q (F0 m (pc + 1) ls (.int v :: rest))) : W p l e R s m args below meth c H locs cells slots Q (F0 m pc ls (.int i :: .ref a :: rest)) := by
  subst hv
  exact va_iald hx hb hK hP q0 0 ha rfl hin hdg kk
theorem qZld (hx : p.tables.exec = Jvm.exec) (hb : c.code = cc) (hK : va_K g.1 vwCl (qTys g) s) {u : S} (hP : va_P g.1 vwCl (Wd u) H) (q0 : Nat) {a n : Nat} {f : Nat → Int32} (ha : (Wd u)[q0]? = some (a, .inl (g.2.2.1, n, .inl f))) {i v : Int32} (hin : vp_in i n) (hv : f i.toNatClampNeg = v) (hdg : decode cc pc = .ok (.baload, 1)) {rest : List Value}
    (kk : W p l e R s m args below meth c H locs cells slots Q (F0 m (pc + 1) ls (.int v :: rest))) : W p l e R s m args below meth c H locs cells slots Q (F0 m pc ls (.int i :: .ref a :: rest)) := by
  subst hv
  exact va_zald hx hb hK hP q0 1 ha rfl hin hdg kk
theorem qQld (hx : p.tables.exec = Jvm.exec) (hb : c.code = cc) (hK : va_K g.1 vwCl (qTys g) s) {u : S} (hP : va_P g.1 vwCl (Wd u) H) (q0 : Nat) {a n : Nat} {f : Nat → Option Nat} (ha : (Wd u)[q0]? = some (a, .inl (g.2.2.2, n, .inr (.inr (.inr (.inr f)))))) {i : Int32} {v : Nat} (hin : vp_in i n) (hv : f i.toNatClampNeg = some v) (hdg : decode cc pc = .ok (.aaload, 1)) {rest : List Value}
    (kk : W p l e R s m args below meth c H locs cells slots Q (F0 m (pc + 1) ls (.ref v :: rest))) : W p l e R s m args below meth c H locs cells slots Q (F0 m pc ls (.int i :: .ref a :: rest)) := by
  refine va_aldq hx hb hK hP q0 2 ha rfl hin hdg ?_
  rw [hv]
  exact kk
theorem qAlen (hx : p.tables.exec = Jvm.exec) (hb : c.code = cc) (hK : va_K g.1 vwCl (qTys g) s) {u : S} (hP : va_P g.1 vwCl (Wd u) H) (q0 t0 : Nat) {a : Nat} {cA : ClassId} {x : vp_A} (ha : (Wd u)[q0]? = some (a, .inl (cA, x))) {ty : FieldType} (ht : (qTys g)[t0]? = some (cA, ty)) {v : Int32} (hv : Int32.ofNat x.1 = v) (hdg : decode cc pc = .ok (.arraylength, 1)) {rest : List Value}
    (kk : W p l e R s m args below meth c H locs cells slots Q (F0 m (pc + 1) ls (.int v :: rest))) : W p l e R s m args below meth c H locs cells slots Q (F0 m pc ls (.ref a :: rest)) :=
  va_alen hx hb hK hP q0 t0 ha ht hv hdg kk
theorem qIst {A0 : Nat → Prop} {H0 : Heap} (hx : p.tables.exec = Jvm.exec) (hb : c.code = cc) (hK : va_K g.1 vwCl (qTys g) s) {u u' : S} (hP : va_P g.1 vwCl (Wd u) H) (hD : va_D A0 (Wd u)) (hS : va_S A0 H0 H locs) (q0 : Nat) {a n : Nat} {f : Nat → Int32} (ha : (Wd u)[q0]? = some (a, .inl (g.2.1, n, .inl f))) {i x : Int32} (hin : vp_in i n) {j : Nat} (hj : i.toNatClampNeg = j) (hset : (Wd u).set q0 (a, .inl (g.2.1, n, .inl (upd f j x))) = Wd u') (hdg : decode cc pc = .ok (.iastore, 1)) {rest : List Value}
    (kk : ∀ (H1 : Heap) (locs1 : List Loc), va_P g.1 vwCl (Wd u') H1 → va_S A0 H0 H1 locs1 → W p l e R s m args below meth c H1 locs1 cells slots Q (F0 m (pc + 1) ls rest)) : W p l e R s m args below meth c H locs cells slots Q (F0 m pc ls (.int x :: .int i :: .ref a :: rest)) := by
  subst hj
  exact va_iast hx hb hK hP hD hS q0 0 ha rfl hin hdg (fun H1 locs1 h1 _ h3 => kk H1 locs1 (hset ▸ h1) h3)
theorem qZst {A0 : Nat → Prop} {H0 : Heap} (hx : p.tables.exec = Jvm.exec) (hb : c.code = cc) (hK : va_K g.1 vwCl (qTys g) s) {u u' : S} (hP : va_P g.1 vwCl (Wd u) H) (hD : va_D A0 (Wd u)) (hS : va_S A0 H0 H locs) (q0 : Nat) {a n : Nat} {f : Nat → Int32} (ha : (Wd u)[q0]? = some (a, .inl (g.2.2.1, n, .inl f))) {i x y : Int32} (hin : vp_in i n) {j : Nat} (hj : i.toNatClampNeg = j) (hy : vp_nar .boolean x = y) (hset : (Wd u).set q0 (a, .inl (g.2.2.1, n, .inl (upd f j y))) = Wd u') (hdg : decode cc pc = .ok (.bastore, 1)) {rest : List Value}
    (kk : ∀ (H1 : Heap) (locs1 : List Loc), va_P g.1 vwCl (Wd u') H1 → va_S A0 H0 H1 locs1 → W p l e R s m args below meth c H1 locs1 cells slots Q (F0 m (pc + 1) ls rest)) : W p l e R s m args below meth c H locs cells slots Q (F0 m pc ls (.int x :: .int i :: .ref a :: rest)) := by
  subst hj; subst hy
  exact va_zast hx hb hK hP hD hS q0 1 ha rfl hin hdg (fun H1 locs1 h1 _ h3 => kk H1 locs1 (hset ▸ h1) h3)
theorem qPut {A0 : Nat → Prop} {H0 : Heap} (hx : p.tables.exec = Jvm.exec) (hb : c.code = cc) {own C : String} {T : u_T} {N ci index : Nat} {Ts : List Cond} (hts : ∀ w ∈ Ts, w.before args s = true) (hin : ∀ w ∈ u_ws C T N, w ∈ Ts) (ty0 : Nat → FieldType) (hty : ∀ k, k < N → parseFieldDescriptor (T k).2.2.1 = some (ty0 k)) (hnm : ∀ a, a < N → ∀ b, b < N → a ≠ b → (T a).2.1 ≠ (T b).2.1) (hown : s.vm.findClass own = some m.cls) (hK : va_K g.1 vwCl (qTys g) s) {u u' : S} (hP : va_P g.1 vwCl (Wd u) H) (hD : va_D A0 (Wd u)) (hS : va_S A0 H0 H locs) (q0 : Nat) {a : Nat} {fs : List Value} (he : (Wd u)[q0]? = some (a, .inr (ci, fs))) (hc : vwCl[ci]? = some (C, T, N)) (k : Nat) (hk : k < N) (hlink : (Cond.fieldLink own index (T k).1 (T k).2.1 (T k).2.2.1).before args s = true) (hfin : (T k).2.2.2 = false) {ty : FieldType} {v : Value} (hd : parseFieldDescriptor (T k).2.2.1 = some ty) (hn : narrow ty v = v) (hfit : fits ty v = true) (hl : k < fs.length) (hset : (Wd u).set q0 (a, .inr (ci, fs.set k v)) = Wd u')
    (hdg : decode cc pc = .ok (.putfield index, 3)) {rest : List Value} (kk : ∀ (H1 : Heap) (locs1 : List Loc), va_P g.1 vwCl (Wd u') H1 → va_S A0 H0 H1 locs1 → W p l e R s m args below meth c H1 locs1 cells slots Q (F0 m (pc + 3) ls rest)) : W p l e R s m args below meth c H locs cells slots Q (F0 m pc ls (v :: .ref a :: rest)) :=
  va_put hx hb hts hin ty0 hty hnm hown hK hP hD hS q0 he hc k hk hlink (fun _ h => h) hfin hd hn hfit hl hdg (fun H1 locs1 h1 _ h3 => kk H1 locs1 (hset ▸ h1) h3)
theorem qGet (hx : p.tables.exec = Jvm.exec) (hb : c.code = cc) {own C : String} {T : u_T} {N ci index : Nat} {Ts : List Cond} (hts : ∀ w ∈ Ts, w.before args s = true) (hin : ∀ w ∈ u_ws C T N, w ∈ Ts) (hown : s.vm.findClass own = some m.cls) (hK : va_K g.1 vwCl (qTys g) s) {u : S} (hP : va_P g.1 vwCl (Wd u) H) (q0 : Nat) {a : Nat} {fs : List Value} (he : (Wd u)[q0]? = some (a, .inr (ci, fs))) (hc : vwCl[ci]? = some (C, T, N)) (k : Nat) (hk : k < N) (hlink : (Cond.fieldLink own index (T k).1 (T k).2.1 (T k).2.2.1).before args s = true) {v : Value} (hv : fs[k]? = some v) (hdg : decode cc pc = .ok (.getfield index, 3)) {rest : List Value}
    (kk : W p l e R s m args below meth c H locs cells slots Q (F0 m (pc + 3) ls (v :: rest))) : W p l e R s m args below meth c H locs cells slots Q (F0 m pc ls (.ref a :: rest)) :=
  va_get hx hb hts hin hown hK hP q0 he hc k hk hlink (fun _ h => h) hv hdg kk

theorem qVi {A0 : Nat → Prop} {H0 : Heap} {u U : S} {E : Int32} {y : MethodName} {ws ws' Ts : List Cond} {d nL index maxL : Nat} {own C : String} {bytes : ByteArray} {ret : Option FieldType} {b : Nat} {As rest st : List Value} (hx : p.tables.exec = Jvm.exec) (hb : c.code = cc) (hml : c.maxLocals = nL) (hown : s.vm.findClass own = some m.cls) (hts : ∀ w ∈ Ts, w.before args s = true)
    (hM : qMi l y ws d g Wd A u (.ref b :: As) E U) (hG : GoodIn Ts (wsV own index C y ws)) (hw : ws = .code y bytes maxL ret :: ws') (n : Nat) (hd : y.cls = C ∧ y.cls ≠ "java/lang/invoke/MethodHandle" ∧ y.cls ≠ "java/lang/invoke/VarHandle" ∧ (parseMethodDescriptor y.desc).map (fun d => d.parameters.length) = some n) (hn : As.length = n) (hR : (rmL d).frames + 1 ≤ R.frames ∧ 8 + (maxL + 11) + (rmL d).locals ≤ R.locals) (hcs : cells + 0 ≤ R.cells ∧ slots + 0 ≤ R.slots) (hK : va_K g.1 vwCl (qTys g) s) (hP : va_P g.1 vwCl (Wd u) H) (hS : va_S A0 H0 H locs) (hA : ∀ q, A q → A0 q) (q0 ci : Nat) {fs : List Value} {r : vw_C} (hc : vwCl[ci]? = some r) (hrC : r.1 = C) (he : (Wd u)[q0]? = some (b, .inr (ci, fs))) (hl : ls.size = nL) (hst : st = As.reverse ++ .ref b :: rest) (hcat : (rest.map fun v => v.category).sum ≤ 8) (hdg : decode cc pc = .ok (.invokevirtual index, 3))
    (kk : ∀ (H1 : Heap) (locs1 : List Loc), va_P g.1 vwCl (Wd U) H1 → va_S A0 H0 H1 locs1 → W p l e R s m args below meth c H1 locs1 cells slots Q (F0 m (pc + 3) ls (.int E :: rest))) : W p l e R s m args below meth c H locs cells slots Q (F0 m pc ls st) := by
  subst hrC
  refine va_calli (va_runV (As := As) (rest := rest) ⟨hx, hb, hml, hown, hts⟩ hM (cwV n hts hG hw rfl rfl hd hR) ⟨qBlind, va_recv hK hP hc he, fun U2 hU hW => ⟨rfl, by rw [hU]; exact hP, va_K.moved hW.alike hK⟩⟩ rfl hn hl hst (lv_room hcat) hdg hcs) hS (fun q _ h => hA q h) (fun q h => hA q h) (fun r u2 t H1 locs1 ht hvm hw2 hB hz hk hS1 => ?_)
  obtain ⟨rfl, rfl⟩ := hw2
  exact kk H1 locs1 (by rw [← ht]; exact hB.1) hS1
theorem qVl {A0 : Nat → Prop} {H0 : Heap} {u U : S} {E : Int64} {y : MethodName} {ws ws' Ts : List Cond} {d nL index maxL : Nat} {own C : String} {bytes : ByteArray} {ret : Option FieldType} {b : Nat} {As rest st : List Value} (hx : p.tables.exec = Jvm.exec) (hb : c.code = cc) (hml : c.maxLocals = nL) (hown : s.vm.findClass own = some m.cls) (hts : ∀ w ∈ Ts, w.before args s = true)
    (hM : qMl l y ws d g Wd A u (.ref b :: As) E U) (hG : GoodIn Ts (wsV own index C y ws)) (hw : ws = .code y bytes maxL ret :: ws') (n : Nat) (hd : y.cls = C ∧ y.cls ≠ "java/lang/invoke/MethodHandle" ∧ y.cls ≠ "java/lang/invoke/VarHandle" ∧ (parseMethodDescriptor y.desc).map (fun d => d.parameters.length) = some n) (hn : As.length = n) (hR : (rmL d).frames + 1 ≤ R.frames ∧ 8 + (maxL + 11) + (rmL d).locals ≤ R.locals) (hcs : cells + 0 ≤ R.cells ∧ slots + 0 ≤ R.slots) (hK : va_K g.1 vwCl (qTys g) s) (hP : va_P g.1 vwCl (Wd u) H) (hS : va_S A0 H0 H locs) (hA : ∀ q, A q → A0 q) (q0 ci : Nat) {fs : List Value} {r : vw_C} (hc : vwCl[ci]? = some r) (hrC : r.1 = C) (he : (Wd u)[q0]? = some (b, .inr (ci, fs))) (hl : ls.size = nL) (hst : st = As.reverse ++ .ref b :: rest) (hcat : (rest.map fun v => v.category).sum ≤ 8) (hdg : decode cc pc = .ok (.invokevirtual index, 3))
    (kk : ∀ (H1 : Heap) (locs1 : List Loc), va_P g.1 vwCl (Wd U) H1 → va_S A0 H0 H1 locs1 → W p l e R s m args below meth c H1 locs1 cells slots Q (F0 m (pc + 3) ls (.long E :: rest))) : W p l e R s m args below meth c H locs cells slots Q (F0 m pc ls st) := by
  subst hrC
  refine va_calll (va_runV (As := As) (rest := rest) ⟨hx, hb, hml, hown, hts⟩ hM (cwV n hts hG hw rfl rfl hd hR) ⟨qBlind, va_recv hK hP hc he, fun U2 hU hW => ⟨rfl, by rw [hU]; exact hP, va_K.moved hW.alike hK⟩⟩ rfl hn hl hst (lv_room hcat) hdg hcs) hS (fun q _ h => hA q h) (fun q h => hA q h) (fun r u2 t H1 locs1 ht hvm hw2 hB hz hk hS1 => ?_)
  obtain ⟨rfl, rfl⟩ := hw2
  exact kk H1 locs1 (by rw [← ht]; exact hB.1) hS1
theorem qVq {A0 : Nat → Prop} {H0 : Heap} {u U : S} {E : Option Nat} {y : MethodName} {ws ws' Ts : List Cond} {d nL index maxL : Nat} {own C : String} {bytes : ByteArray} {ret : Option FieldType} {b : Nat} {As rest st : List Value} (hx : p.tables.exec = Jvm.exec) (hb : c.code = cc) (hml : c.maxLocals = nL) (hown : s.vm.findClass own = some m.cls) (hts : ∀ w ∈ Ts, w.before args s = true)
    (hM : qMq l y ws d g Wd A u (.ref b :: As) E U) (hG : GoodIn Ts (wsV own index C y ws)) (hw : ws = .code y bytes maxL ret :: ws') (n : Nat) (hd : y.cls = C ∧ y.cls ≠ "java/lang/invoke/MethodHandle" ∧ y.cls ≠ "java/lang/invoke/VarHandle" ∧ (parseMethodDescriptor y.desc).map (fun d => d.parameters.length) = some n) (hn : As.length = n) (hR : (rmL d).frames + 1 ≤ R.frames ∧ 8 + (maxL + 11) + (rmL d).locals ≤ R.locals) (hcs : cells + 0 ≤ R.cells ∧ slots + 0 ≤ R.slots) (hK : va_K g.1 vwCl (qTys g) s) (hP : va_P g.1 vwCl (Wd u) H) (hS : va_S A0 H0 H locs) (hA : ∀ q, A q → A0 q) (q0 ci : Nat) {fs : List Value} {r : vw_C} (hc : vwCl[ci]? = some r) (hrC : r.1 = C) (he : (Wd u)[q0]? = some (b, .inr (ci, fs))) (hl : ls.size = nL) (hst : st = As.reverse ++ .ref b :: rest) (hcat : (rest.map fun v => v.category).sum ≤ 8) {vv : Value} (hvv : va_rf E = vv) (hdg : decode cc pc = .ok (.invokevirtual index, 3))
    (kk : ∀ (H1 : Heap) (locs1 : List Loc), va_P g.1 vwCl (Wd U) H1 → va_S A0 H0 H1 locs1 → W p l e R s m args below meth c H1 locs1 cells slots Q (F0 m (pc + 3) ls (vv :: rest))) : W p l e R s m args below meth c H locs cells slots Q (F0 m pc ls st) := by
  subst hrC
  refine va_callq (va_runV (As := As) (rest := rest) ⟨hx, hb, hml, hown, hts⟩ hM (cwV n hts hG hw rfl rfl hd hR) ⟨qBlind, va_recv hK hP hc he, fun U2 hU hW => ⟨rfl, by rw [hU]; exact hP, va_K.moved hW.alike hK⟩⟩ rfl hn hl hst (lv_room hcat) hdg hcs) hS (fun q _ h => hA q h) (fun q h => hA q h) (fun r u2 t H1 locs1 ht hvm hw2 hB hz hk hS1 => ?_)
  obtain ⟨rfl, rfl⟩ := hw2
  subst hvv
  exact kk H1 locs1 (by rw [← ht]; exact hB.1) hS1
theorem qVv {A0 : Nat → Prop} {H0 : Heap} {u U : S} {y : MethodName} {ws ws' Ts : List Cond} {d nL index maxL : Nat} {own C : String} {bytes : ByteArray} {ret : Option FieldType} {b : Nat} {As rest st : List Value} (hx : p.tables.exec = Jvm.exec) (hb : c.code = cc) (hml : c.maxLocals = nL) (hown : s.vm.findClass own = some m.cls) (hts : ∀ w ∈ Ts, w.before args s = true)
    (hM : qMv l y ws d g Wd A u (.ref b :: As) U) (hG : GoodIn Ts (wsV own index C y ws)) (hw : ws = .code y bytes maxL ret :: ws') (n : Nat) (hd : y.cls = C ∧ y.cls ≠ "java/lang/invoke/MethodHandle" ∧ y.cls ≠ "java/lang/invoke/VarHandle" ∧ (parseMethodDescriptor y.desc).map (fun d => d.parameters.length) = some n) (hn : As.length = n) (hR : (rmL d).frames + 1 ≤ R.frames ∧ 8 + (maxL + 11) + (rmL d).locals ≤ R.locals) (hcs : cells + 0 ≤ R.cells ∧ slots + 0 ≤ R.slots) (hK : va_K g.1 vwCl (qTys g) s) (hP : va_P g.1 vwCl (Wd u) H) (hS : va_S A0 H0 H locs) (hA : ∀ q, A q → A0 q) (q0 ci : Nat) {fs : List Value} {r : vw_C} (hc : vwCl[ci]? = some r) (hrC : r.1 = C) (he : (Wd u)[q0]? = some (b, .inr (ci, fs))) (hl : ls.size = nL) (hst : st = As.reverse ++ .ref b :: rest) (hcat : (rest.map fun v => v.category).sum ≤ 8) (hdg : decode cc pc = .ok (.invokevirtual index, 3))
    (kk : ∀ (H1 : Heap) (locs1 : List Loc), va_P g.1 vwCl (Wd U) H1 → va_S A0 H0 H1 locs1 → W p l e R s m args below meth c H1 locs1 cells slots Q (F0 m (pc + 3) ls (rest))) : W p l e R s m args below meth c H locs cells slots Q (F0 m pc ls st) := by
  subst hrC
  refine va_callv (va_runV (As := As) (rest := rest) ⟨hx, hb, hml, hown, hts⟩ hM (cwV n hts hG hw rfl rfl hd hR) ⟨qBlind, va_recv hK hP hc he, fun U2 hU hW => ⟨rfl, by rw [hU]; exact hP, va_K.moved hW.alike hK⟩⟩ rfl hn hl hst (lv_room hcat) hdg hcs) hS (fun q _ h => hA q h) (fun q h => hA q h) (fun u2 t H1 locs1 ht hvm hw2 hB hz hk hS1 => ?_)
  subst hw2
  exact kk H1 locs1 (by rw [← ht]; exact hB.1) hS1
theorem qSi {A0 : Nat → Prop} {H0 : Heap} {u U : S} {E : Int32} {y : MethodName} {ws ws' Ts : List Cond} {d nL index maxL : Nat} {own : String} {bytes : ByteArray} {ret : Option FieldType} {As rest st : List Value} (hx : p.tables.exec = Jvm.exec) (hb : c.code = cc) (hml : c.maxLocals = nL) (hown : s.vm.findClass own = some m.cls) (hts : ∀ w ∈ Ts, w.before args s = true)
    (hM : qMi l y ws d g Wd A u As E U) (hG : GoodIn Ts (va_wsS own index y ws)) (hw : ws = .code y bytes maxL ret :: ws') (n : Nat) (hd : y.cls ≠ "java/lang/invoke/MethodHandle" ∧ y.cls ≠ "java/lang/invoke/VarHandle" ∧ (parseMethodDescriptor y.desc).map (fun d => d.parameters.length) = some n) (hn : As.length = n) (hR : (rmL d).frames + 1 ≤ R.frames ∧ 8 + (maxL + 11) + (rmL d).locals ≤ R.locals) (hcs : cells + 0 ≤ R.cells ∧ slots + 0 ≤ R.slots) (hK : va_K g.1 vwCl (qTys g) s) (hP : va_P g.1 vwCl (Wd u) H) (hS : va_S A0 H0 H locs) (hA : ∀ q, A q → A0 q) (hl : ls.size = nL) (hst : st = As.reverse ++ rest) (hcat : (rest.map fun v => v.category).sum ≤ 8) (hdg : decode cc pc = .ok (.invokestatic index, 3))
    (kk : ∀ (H1 : Heap) (locs1 : List Loc), va_P g.1 vwCl (Wd U) H1 → va_S A0 H0 H1 locs1 → W p l e R s m args below meth c H1 locs1 cells slots Q (F0 m (pc + 3) ls (.int E :: rest))) : W p l e R s m args below meth c H locs cells slots Q (F0 m pc ls st) := by
  refine va_calli (va_runS (As := As) (rest := rest) ⟨hx, hb, hml, hown, hts⟩ hM (va_cwS n hts hG hw rfl rfl hd hR) ⟨qBlind, fun U2 hU hW => ⟨rfl, by rw [hU]; exact hP, va_K.moved hW.alike hK⟩⟩ rfl hn hl hst (lv_room hcat) hdg hcs) hS (fun q _ h => hA q h) (fun q h => hA q h) (fun r u2 t H1 locs1 ht hvm hw2 hB hz hk hS1 => ?_)
  obtain ⟨rfl, rfl⟩ := hw2
  exact kk H1 locs1 (by rw [← ht]; exact hB.1) hS1
theorem qSl {A0 : Nat → Prop} {H0 : Heap} {u U : S} {E : Int64} {y : MethodName} {ws ws' Ts : List Cond} {d nL index maxL : Nat} {own : String} {bytes : ByteArray} {ret : Option FieldType} {As rest st : List Value} (hx : p.tables.exec = Jvm.exec) (hb : c.code = cc) (hml : c.maxLocals = nL) (hown : s.vm.findClass own = some m.cls) (hts : ∀ w ∈ Ts, w.before args s = true)
    (hM : qMl l y ws d g Wd A u As E U) (hG : GoodIn Ts (va_wsS own index y ws)) (hw : ws = .code y bytes maxL ret :: ws') (n : Nat) (hd : y.cls ≠ "java/lang/invoke/MethodHandle" ∧ y.cls ≠ "java/lang/invoke/VarHandle" ∧ (parseMethodDescriptor y.desc).map (fun d => d.parameters.length) = some n) (hn : As.length = n) (hR : (rmL d).frames + 1 ≤ R.frames ∧ 8 + (maxL + 11) + (rmL d).locals ≤ R.locals) (hcs : cells + 0 ≤ R.cells ∧ slots + 0 ≤ R.slots) (hK : va_K g.1 vwCl (qTys g) s) (hP : va_P g.1 vwCl (Wd u) H) (hS : va_S A0 H0 H locs) (hA : ∀ q, A q → A0 q) (hl : ls.size = nL) (hst : st = As.reverse ++ rest) (hcat : (rest.map fun v => v.category).sum ≤ 8) (hdg : decode cc pc = .ok (.invokestatic index, 3))
    (kk : ∀ (H1 : Heap) (locs1 : List Loc), va_P g.1 vwCl (Wd U) H1 → va_S A0 H0 H1 locs1 → W p l e R s m args below meth c H1 locs1 cells slots Q (F0 m (pc + 3) ls (.long E :: rest))) : W p l e R s m args below meth c H locs cells slots Q (F0 m pc ls st) := by
  refine va_calll (va_runS (As := As) (rest := rest) ⟨hx, hb, hml, hown, hts⟩ hM (va_cwS n hts hG hw rfl rfl hd hR) ⟨qBlind, fun U2 hU hW => ⟨rfl, by rw [hU]; exact hP, va_K.moved hW.alike hK⟩⟩ rfl hn hl hst (lv_room hcat) hdg hcs) hS (fun q _ h => hA q h) (fun q h => hA q h) (fun r u2 t H1 locs1 ht hvm hw2 hB hz hk hS1 => ?_)
  obtain ⟨rfl, rfl⟩ := hw2
  exact kk H1 locs1 (by rw [← ht]; exact hB.1) hS1
theorem qSq {A0 : Nat → Prop} {H0 : Heap} {u U : S} {E : Option Nat} {y : MethodName} {ws ws' Ts : List Cond} {d nL index maxL : Nat} {own : String} {bytes : ByteArray} {ret : Option FieldType} {As rest st : List Value} (hx : p.tables.exec = Jvm.exec) (hb : c.code = cc) (hml : c.maxLocals = nL) (hown : s.vm.findClass own = some m.cls) (hts : ∀ w ∈ Ts, w.before args s = true)
    (hM : qMq l y ws d g Wd A u As E U) (hG : GoodIn Ts (va_wsS own index y ws)) (hw : ws = .code y bytes maxL ret :: ws') (n : Nat) (hd : y.cls ≠ "java/lang/invoke/MethodHandle" ∧ y.cls ≠ "java/lang/invoke/VarHandle" ∧ (parseMethodDescriptor y.desc).map (fun d => d.parameters.length) = some n) (hn : As.length = n) (hR : (rmL d).frames + 1 ≤ R.frames ∧ 8 + (maxL + 11) + (rmL d).locals ≤ R.locals) (hcs : cells + 0 ≤ R.cells ∧ slots + 0 ≤ R.slots) (hK : va_K g.1 vwCl (qTys g) s) (hP : va_P g.1 vwCl (Wd u) H) (hS : va_S A0 H0 H locs) (hA : ∀ q, A q → A0 q) (hl : ls.size = nL) (hst : st = As.reverse ++ rest) (hcat : (rest.map fun v => v.category).sum ≤ 8) {vv : Value} (hvv : va_rf E = vv) (hdg : decode cc pc = .ok (.invokestatic index, 3))
    (kk : ∀ (H1 : Heap) (locs1 : List Loc), va_P g.1 vwCl (Wd U) H1 → va_S A0 H0 H1 locs1 → W p l e R s m args below meth c H1 locs1 cells slots Q (F0 m (pc + 3) ls (vv :: rest))) : W p l e R s m args below meth c H locs cells slots Q (F0 m pc ls st) := by
  refine va_callq (va_runS (As := As) (rest := rest) ⟨hx, hb, hml, hown, hts⟩ hM (va_cwS n hts hG hw rfl rfl hd hR) ⟨qBlind, fun U2 hU hW => ⟨rfl, by rw [hU]; exact hP, va_K.moved hW.alike hK⟩⟩ rfl hn hl hst (lv_room hcat) hdg hcs) hS (fun q _ h => hA q h) (fun q h => hA q h) (fun r u2 t H1 locs1 ht hvm hw2 hB hz hk hS1 => ?_)
  obtain ⟨rfl, rfl⟩ := hw2
  subst hvv
  exact kk H1 locs1 (by rw [← ht]; exact hB.1) hS1
theorem qSv {A0 : Nat → Prop} {H0 : Heap} {u U : S} {y : MethodName} {ws ws' Ts : List Cond} {d nL index maxL : Nat} {own : String} {bytes : ByteArray} {ret : Option FieldType} {As rest st : List Value} (hx : p.tables.exec = Jvm.exec) (hb : c.code = cc) (hml : c.maxLocals = nL) (hown : s.vm.findClass own = some m.cls) (hts : ∀ w ∈ Ts, w.before args s = true)
    (hM : qMv l y ws d g Wd A u As U) (hG : GoodIn Ts (va_wsS own index y ws)) (hw : ws = .code y bytes maxL ret :: ws') (n : Nat) (hd : y.cls ≠ "java/lang/invoke/MethodHandle" ∧ y.cls ≠ "java/lang/invoke/VarHandle" ∧ (parseMethodDescriptor y.desc).map (fun d => d.parameters.length) = some n) (hn : As.length = n) (hR : (rmL d).frames + 1 ≤ R.frames ∧ 8 + (maxL + 11) + (rmL d).locals ≤ R.locals) (hcs : cells + 0 ≤ R.cells ∧ slots + 0 ≤ R.slots) (hK : va_K g.1 vwCl (qTys g) s) (hP : va_P g.1 vwCl (Wd u) H) (hS : va_S A0 H0 H locs) (hA : ∀ q, A q → A0 q) (hl : ls.size = nL) (hst : st = As.reverse ++ rest) (hcat : (rest.map fun v => v.category).sum ≤ 8) (hdg : decode cc pc = .ok (.invokestatic index, 3))
    (kk : ∀ (H1 : Heap) (locs1 : List Loc), va_P g.1 vwCl (Wd U) H1 → va_S A0 H0 H1 locs1 → W p l e R s m args below meth c H1 locs1 cells slots Q (F0 m (pc + 3) ls (rest))) : W p l e R s m args below meth c H locs cells slots Q (F0 m pc ls st) := by
  refine va_callv (va_runS (As := As) (rest := rest) ⟨hx, hb, hml, hown, hts⟩ hM (va_cwS n hts hG hw rfl rfl hd hR) ⟨qBlind, fun U2 hU hW => ⟨rfl, by rw [hU]; exact hP, va_K.moved hW.alike hK⟩⟩ rfl hn hl hst (lv_room hcat) hdg hcs) hS (fun q _ h => hA q h) (fun q h => hA q h) (fun u2 t H1 locs1 ht hvm hw2 hB hz hk hS1 => ?_)
  subst hw2
  exact kk H1 locs1 (by rw [← ht]; exact hB.1) hS1
theorem qViF {A0 : Nat → Prop} {H0 : Heap} {u U : S} {E : Int32} {y : MethodName} {ws ws' Ts : List Cond} {d nL index maxL : Nat} {own C : String} {bytes : ByteArray} {ret : Option FieldType} {b : Nat} {As rest st : List Value} (hx : p.tables.exec = Jvm.exec) (hb : c.code = cc) (hml : c.maxLocals = nL) (hown : s.vm.findClass own = some m.cls) (hts : ∀ w ∈ Ts, w.before args s = true)
    (hM : qMi l y ws d g Wd A u (.ref b :: As) E U) (hG : GoodIn Ts (wsV own index C y ws)) (hw : ws = .code y bytes maxL ret :: ws') (n : Nat) (hd : y.cls = C ∧ y.cls ≠ "java/lang/invoke/MethodHandle" ∧ y.cls ≠ "java/lang/invoke/VarHandle" ∧ (parseMethodDescriptor y.desc).map (fun d => d.parameters.length) = some n) (hn : As.length = n) (hR : (rmL d).frames + 1 ≤ R.frames ∧ 8 + (maxL + 11) + (rmL d).locals ≤ R.locals) (hcs : cells + 0 ≤ R.cells ∧ slots + 0 ≤ R.slots) (hK : va_K g.1 vwCl (qTys g) s) (hP : va_P g.1 vwCl (Wd u) H) (hS : va_S A0 H0 H locs) (hA : ∀ q, A q → A0 q) (q0 ci : Nat) {fs : List Value} {r : vw_C} (hc : vwCl[ci]? = some r) (hrC : r.1 = C) (he : (Wd u)[q0]? = some (b, .inr (ci, fs))) (hl : ls.size = nL) (hst : st = As.reverse ++ .ref b :: rest) (hcat : (rest.map fun v => v.category).sum ≤ 8) (hdg : decode cc pc = .ok (.invokevirtual index, 3))
    (kk : ∀ (H1 : Heap) (locs1 : List Loc), H.size ≤ H1.size → (∀ q : Nat, q < H.size → ¬ A q → H1[q]? = H[q]?) → va_P g.1 vwCl (Wd U) H1 → va_S A0 H0 H1 locs1 → W p l e R s m args below meth c H1 locs1 cells slots Q (F0 m (pc + 3) ls (.int E :: rest))) : W p l e R s m args below meth c H locs cells slots Q (F0 m pc ls st) := by
  subst hrC
  refine va_calli (va_runV (As := As) (rest := rest) ⟨hx, hb, hml, hown, hts⟩ hM (cwV n hts hG hw rfl rfl hd hR) ⟨qBlind, va_recv hK hP hc he, fun U2 hU hW => ⟨rfl, by rw [hU]; exact hP, va_K.moved hW.alike hK⟩⟩ rfl hn hl hst (lv_room hcat) hdg hcs) hS (fun q _ h => hA q h) (fun q h => hA q h) (fun r u2 t H1 locs1 ht hvm hw2 hB hz hk hS1 => ?_)
  obtain ⟨rfl, rfl⟩ := hw2
  exact kk H1 locs1 hz hk (by rw [← ht]; exact hB.1) hS1
theorem qVlF {A0 : Nat → Prop} {H0 : Heap} {u U : S} {E : Int64} {y : MethodName} {ws ws' Ts : List Cond} {d nL index maxL : Nat} {own C : String} {bytes : ByteArray} {ret : Option FieldType} {b : Nat} {As rest st : List Value} (hx : p.tables.exec = Jvm.exec) (hb : c.code = cc) (hml : c.maxLocals = nL) (hown : s.vm.findClass own = some m.cls) (hts : ∀ w ∈ Ts, w.before args s = true)
    (hM : qMl l y ws d g Wd A u (.ref b :: As) E U) (hG : GoodIn Ts (wsV own index C y ws)) (hw : ws = .code y bytes maxL ret :: ws') (n : Nat) (hd : y.cls = C ∧ y.cls ≠ "java/lang/invoke/MethodHandle" ∧ y.cls ≠ "java/lang/invoke/VarHandle" ∧ (parseMethodDescriptor y.desc).map (fun d => d.parameters.length) = some n) (hn : As.length = n) (hR : (rmL d).frames + 1 ≤ R.frames ∧ 8 + (maxL + 11) + (rmL d).locals ≤ R.locals) (hcs : cells + 0 ≤ R.cells ∧ slots + 0 ≤ R.slots) (hK : va_K g.1 vwCl (qTys g) s) (hP : va_P g.1 vwCl (Wd u) H) (hS : va_S A0 H0 H locs) (hA : ∀ q, A q → A0 q) (q0 ci : Nat) {fs : List Value} {r : vw_C} (hc : vwCl[ci]? = some r) (hrC : r.1 = C) (he : (Wd u)[q0]? = some (b, .inr (ci, fs))) (hl : ls.size = nL) (hst : st = As.reverse ++ .ref b :: rest) (hcat : (rest.map fun v => v.category).sum ≤ 8) (hdg : decode cc pc = .ok (.invokevirtual index, 3))
    (kk : ∀ (H1 : Heap) (locs1 : List Loc), H.size ≤ H1.size → (∀ q : Nat, q < H.size → ¬ A q → H1[q]? = H[q]?) → va_P g.1 vwCl (Wd U) H1 → va_S A0 H0 H1 locs1 → W p l e R s m args below meth c H1 locs1 cells slots Q (F0 m (pc + 3) ls (.long E :: rest))) : W p l e R s m args below meth c H locs cells slots Q (F0 m pc ls st) := by
  subst hrC
  refine va_calll (va_runV (As := As) (rest := rest) ⟨hx, hb, hml, hown, hts⟩ hM (cwV n hts hG hw rfl rfl hd hR) ⟨qBlind, va_recv hK hP hc he, fun U2 hU hW => ⟨rfl, by rw [hU]; exact hP, va_K.moved hW.alike hK⟩⟩ rfl hn hl hst (lv_room hcat) hdg hcs) hS (fun q _ h => hA q h) (fun q h => hA q h) (fun r u2 t H1 locs1 ht hvm hw2 hB hz hk hS1 => ?_)
  obtain ⟨rfl, rfl⟩ := hw2
  exact kk H1 locs1 hz hk (by rw [← ht]; exact hB.1) hS1
theorem qVqF {A0 : Nat → Prop} {H0 : Heap} {u U : S} {E : Option Nat} {y : MethodName} {ws ws' Ts : List Cond} {d nL index maxL : Nat} {own C : String} {bytes : ByteArray} {ret : Option FieldType} {b : Nat} {As rest st : List Value} (hx : p.tables.exec = Jvm.exec) (hb : c.code = cc) (hml : c.maxLocals = nL) (hown : s.vm.findClass own = some m.cls) (hts : ∀ w ∈ Ts, w.before args s = true)
    (hM : qMq l y ws d g Wd A u (.ref b :: As) E U) (hG : GoodIn Ts (wsV own index C y ws)) (hw : ws = .code y bytes maxL ret :: ws') (n : Nat) (hd : y.cls = C ∧ y.cls ≠ "java/lang/invoke/MethodHandle" ∧ y.cls ≠ "java/lang/invoke/VarHandle" ∧ (parseMethodDescriptor y.desc).map (fun d => d.parameters.length) = some n) (hn : As.length = n) (hR : (rmL d).frames + 1 ≤ R.frames ∧ 8 + (maxL + 11) + (rmL d).locals ≤ R.locals) (hcs : cells + 0 ≤ R.cells ∧ slots + 0 ≤ R.slots) (hK : va_K g.1 vwCl (qTys g) s) (hP : va_P g.1 vwCl (Wd u) H) (hS : va_S A0 H0 H locs) (hA : ∀ q, A q → A0 q) (q0 ci : Nat) {fs : List Value} {r : vw_C} (hc : vwCl[ci]? = some r) (hrC : r.1 = C) (he : (Wd u)[q0]? = some (b, .inr (ci, fs))) (hl : ls.size = nL) (hst : st = As.reverse ++ .ref b :: rest) (hcat : (rest.map fun v => v.category).sum ≤ 8) {vv : Value} (hvv : va_rf E = vv) (hdg : decode cc pc = .ok (.invokevirtual index, 3))
    (kk : ∀ (H1 : Heap) (locs1 : List Loc), H.size ≤ H1.size → (∀ q : Nat, q < H.size → ¬ A q → H1[q]? = H[q]?) → va_P g.1 vwCl (Wd U) H1 → va_S A0 H0 H1 locs1 → W p l e R s m args below meth c H1 locs1 cells slots Q (F0 m (pc + 3) ls (vv :: rest))) : W p l e R s m args below meth c H locs cells slots Q (F0 m pc ls st) := by
  subst hrC
  refine va_callq (va_runV (As := As) (rest := rest) ⟨hx, hb, hml, hown, hts⟩ hM (cwV n hts hG hw rfl rfl hd hR) ⟨qBlind, va_recv hK hP hc he, fun U2 hU hW => ⟨rfl, by rw [hU]; exact hP, va_K.moved hW.alike hK⟩⟩ rfl hn hl hst (lv_room hcat) hdg hcs) hS (fun q _ h => hA q h) (fun q h => hA q h) (fun r u2 t H1 locs1 ht hvm hw2 hB hz hk hS1 => ?_)
  obtain ⟨rfl, rfl⟩ := hw2
  subst hvv
  exact kk H1 locs1 hz hk (by rw [← ht]; exact hB.1) hS1
theorem qVvF {A0 : Nat → Prop} {H0 : Heap} {u U : S} {y : MethodName} {ws ws' Ts : List Cond} {d nL index maxL : Nat} {own C : String} {bytes : ByteArray} {ret : Option FieldType} {b : Nat} {As rest st : List Value} (hx : p.tables.exec = Jvm.exec) (hb : c.code = cc) (hml : c.maxLocals = nL) (hown : s.vm.findClass own = some m.cls) (hts : ∀ w ∈ Ts, w.before args s = true)
    (hM : qMv l y ws d g Wd A u (.ref b :: As) U) (hG : GoodIn Ts (wsV own index C y ws)) (hw : ws = .code y bytes maxL ret :: ws') (n : Nat) (hd : y.cls = C ∧ y.cls ≠ "java/lang/invoke/MethodHandle" ∧ y.cls ≠ "java/lang/invoke/VarHandle" ∧ (parseMethodDescriptor y.desc).map (fun d => d.parameters.length) = some n) (hn : As.length = n) (hR : (rmL d).frames + 1 ≤ R.frames ∧ 8 + (maxL + 11) + (rmL d).locals ≤ R.locals) (hcs : cells + 0 ≤ R.cells ∧ slots + 0 ≤ R.slots) (hK : va_K g.1 vwCl (qTys g) s) (hP : va_P g.1 vwCl (Wd u) H) (hS : va_S A0 H0 H locs) (hA : ∀ q, A q → A0 q) (q0 ci : Nat) {fs : List Value} {r : vw_C} (hc : vwCl[ci]? = some r) (hrC : r.1 = C) (he : (Wd u)[q0]? = some (b, .inr (ci, fs))) (hl : ls.size = nL) (hst : st = As.reverse ++ .ref b :: rest) (hcat : (rest.map fun v => v.category).sum ≤ 8) (hdg : decode cc pc = .ok (.invokevirtual index, 3))
    (kk : ∀ (H1 : Heap) (locs1 : List Loc), H.size ≤ H1.size → (∀ q : Nat, q < H.size → ¬ A q → H1[q]? = H[q]?) → va_P g.1 vwCl (Wd U) H1 → va_S A0 H0 H1 locs1 → W p l e R s m args below meth c H1 locs1 cells slots Q (F0 m (pc + 3) ls (rest))) : W p l e R s m args below meth c H locs cells slots Q (F0 m pc ls st) := by
  subst hrC
  refine va_callv (va_runV (As := As) (rest := rest) ⟨hx, hb, hml, hown, hts⟩ hM (cwV n hts hG hw rfl rfl hd hR) ⟨qBlind, va_recv hK hP hc he, fun U2 hU hW => ⟨rfl, by rw [hU]; exact hP, va_K.moved hW.alike hK⟩⟩ rfl hn hl hst (lv_room hcat) hdg hcs) hS (fun q _ h => hA q h) (fun q h => hA q h) (fun u2 t H1 locs1 ht hvm hw2 hB hz hk hS1 => ?_)
  subst hw2
  exact kk H1 locs1 hz hk (by rw [← ht]; exact hB.1) hS1
theorem qSiF {A0 : Nat → Prop} {H0 : Heap} {u U : S} {E : Int32} {y : MethodName} {ws ws' Ts : List Cond} {d nL index maxL : Nat} {own : String} {bytes : ByteArray} {ret : Option FieldType} {As rest st : List Value} (hx : p.tables.exec = Jvm.exec) (hb : c.code = cc) (hml : c.maxLocals = nL) (hown : s.vm.findClass own = some m.cls) (hts : ∀ w ∈ Ts, w.before args s = true)
    (hM : qMi l y ws d g Wd A u As E U) (hG : GoodIn Ts (va_wsS own index y ws)) (hw : ws = .code y bytes maxL ret :: ws') (n : Nat) (hd : y.cls ≠ "java/lang/invoke/MethodHandle" ∧ y.cls ≠ "java/lang/invoke/VarHandle" ∧ (parseMethodDescriptor y.desc).map (fun d => d.parameters.length) = some n) (hn : As.length = n) (hR : (rmL d).frames + 1 ≤ R.frames ∧ 8 + (maxL + 11) + (rmL d).locals ≤ R.locals) (hcs : cells + 0 ≤ R.cells ∧ slots + 0 ≤ R.slots) (hK : va_K g.1 vwCl (qTys g) s) (hP : va_P g.1 vwCl (Wd u) H) (hS : va_S A0 H0 H locs) (hA : ∀ q, A q → A0 q) (hl : ls.size = nL) (hst : st = As.reverse ++ rest) (hcat : (rest.map fun v => v.category).sum ≤ 8) (hdg : decode cc pc = .ok (.invokestatic index, 3))
    (kk : ∀ (H1 : Heap) (locs1 : List Loc), H.size ≤ H1.size → (∀ q : Nat, q < H.size → ¬ A q → H1[q]? = H[q]?) → va_P g.1 vwCl (Wd U) H1 → va_S A0 H0 H1 locs1 → W p l e R s m args below meth c H1 locs1 cells slots Q (F0 m (pc + 3) ls (.int E :: rest))) : W p l e R s m args below meth c H locs cells slots Q (F0 m pc ls st) := by
  refine va_calli (va_runS (As := As) (rest := rest) ⟨hx, hb, hml, hown, hts⟩ hM (va_cwS n hts hG hw rfl rfl hd hR) ⟨qBlind, fun U2 hU hW => ⟨rfl, by rw [hU]; exact hP, va_K.moved hW.alike hK⟩⟩ rfl hn hl hst (lv_room hcat) hdg hcs) hS (fun q _ h => hA q h) (fun q h => hA q h) (fun r u2 t H1 locs1 ht hvm hw2 hB hz hk hS1 => ?_)
  obtain ⟨rfl, rfl⟩ := hw2
  exact kk H1 locs1 hz hk (by rw [← ht]; exact hB.1) hS1
theorem qSlF {A0 : Nat → Prop} {H0 : Heap} {u U : S} {E : Int64} {y : MethodName} {ws ws' Ts : List Cond} {d nL index maxL : Nat} {own : String} {bytes : ByteArray} {ret : Option FieldType} {As rest st : List Value} (hx : p.tables.exec = Jvm.exec) (hb : c.code = cc) (hml : c.maxLocals = nL) (hown : s.vm.findClass own = some m.cls) (hts : ∀ w ∈ Ts, w.before args s = true)
    (hM : qMl l y ws d g Wd A u As E U) (hG : GoodIn Ts (va_wsS own index y ws)) (hw : ws = .code y bytes maxL ret :: ws') (n : Nat) (hd : y.cls ≠ "java/lang/invoke/MethodHandle" ∧ y.cls ≠ "java/lang/invoke/VarHandle" ∧ (parseMethodDescriptor y.desc).map (fun d => d.parameters.length) = some n) (hn : As.length = n) (hR : (rmL d).frames + 1 ≤ R.frames ∧ 8 + (maxL + 11) + (rmL d).locals ≤ R.locals) (hcs : cells + 0 ≤ R.cells ∧ slots + 0 ≤ R.slots) (hK : va_K g.1 vwCl (qTys g) s) (hP : va_P g.1 vwCl (Wd u) H) (hS : va_S A0 H0 H locs) (hA : ∀ q, A q → A0 q) (hl : ls.size = nL) (hst : st = As.reverse ++ rest) (hcat : (rest.map fun v => v.category).sum ≤ 8) (hdg : decode cc pc = .ok (.invokestatic index, 3))
    (kk : ∀ (H1 : Heap) (locs1 : List Loc), H.size ≤ H1.size → (∀ q : Nat, q < H.size → ¬ A q → H1[q]? = H[q]?) → va_P g.1 vwCl (Wd U) H1 → va_S A0 H0 H1 locs1 → W p l e R s m args below meth c H1 locs1 cells slots Q (F0 m (pc + 3) ls (.long E :: rest))) : W p l e R s m args below meth c H locs cells slots Q (F0 m pc ls st) := by
  refine va_calll (va_runS (As := As) (rest := rest) ⟨hx, hb, hml, hown, hts⟩ hM (va_cwS n hts hG hw rfl rfl hd hR) ⟨qBlind, fun U2 hU hW => ⟨rfl, by rw [hU]; exact hP, va_K.moved hW.alike hK⟩⟩ rfl hn hl hst (lv_room hcat) hdg hcs) hS (fun q _ h => hA q h) (fun q h => hA q h) (fun r u2 t H1 locs1 ht hvm hw2 hB hz hk hS1 => ?_)
  obtain ⟨rfl, rfl⟩ := hw2
  exact kk H1 locs1 hz hk (by rw [← ht]; exact hB.1) hS1
theorem qSqF {A0 : Nat → Prop} {H0 : Heap} {u U : S} {E : Option Nat} {y : MethodName} {ws ws' Ts : List Cond} {d nL index maxL : Nat} {own : String} {bytes : ByteArray} {ret : Option FieldType} {As rest st : List Value} (hx : p.tables.exec = Jvm.exec) (hb : c.code = cc) (hml : c.maxLocals = nL) (hown : s.vm.findClass own = some m.cls) (hts : ∀ w ∈ Ts, w.before args s = true)
    (hM : qMq l y ws d g Wd A u As E U) (hG : GoodIn Ts (va_wsS own index y ws)) (hw : ws = .code y bytes maxL ret :: ws') (n : Nat) (hd : y.cls ≠ "java/lang/invoke/MethodHandle" ∧ y.cls ≠ "java/lang/invoke/VarHandle" ∧ (parseMethodDescriptor y.desc).map (fun d => d.parameters.length) = some n) (hn : As.length = n) (hR : (rmL d).frames + 1 ≤ R.frames ∧ 8 + (maxL + 11) + (rmL d).locals ≤ R.locals) (hcs : cells + 0 ≤ R.cells ∧ slots + 0 ≤ R.slots) (hK : va_K g.1 vwCl (qTys g) s) (hP : va_P g.1 vwCl (Wd u) H) (hS : va_S A0 H0 H locs) (hA : ∀ q, A q → A0 q) (hl : ls.size = nL) (hst : st = As.reverse ++ rest) (hcat : (rest.map fun v => v.category).sum ≤ 8) {vv : Value} (hvv : va_rf E = vv) (hdg : decode cc pc = .ok (.invokestatic index, 3))
    (kk : ∀ (H1 : Heap) (locs1 : List Loc), H.size ≤ H1.size → (∀ q : Nat, q < H.size → ¬ A q → H1[q]? = H[q]?) → va_P g.1 vwCl (Wd U) H1 → va_S A0 H0 H1 locs1 → W p l e R s m args below meth c H1 locs1 cells slots Q (F0 m (pc + 3) ls (vv :: rest))) : W p l e R s m args below meth c H locs cells slots Q (F0 m pc ls st) := by
  refine va_callq (va_runS (As := As) (rest := rest) ⟨hx, hb, hml, hown, hts⟩ hM (va_cwS n hts hG hw rfl rfl hd hR) ⟨qBlind, fun U2 hU hW => ⟨rfl, by rw [hU]; exact hP, va_K.moved hW.alike hK⟩⟩ rfl hn hl hst (lv_room hcat) hdg hcs) hS (fun q _ h => hA q h) (fun q h => hA q h) (fun r u2 t H1 locs1 ht hvm hw2 hB hz hk hS1 => ?_)
  obtain ⟨rfl, rfl⟩ := hw2
  subst hvv
  exact kk H1 locs1 hz hk (by rw [← ht]; exact hB.1) hS1
theorem qSvF {A0 : Nat → Prop} {H0 : Heap} {u U : S} {y : MethodName} {ws ws' Ts : List Cond} {d nL index maxL : Nat} {own : String} {bytes : ByteArray} {ret : Option FieldType} {As rest st : List Value} (hx : p.tables.exec = Jvm.exec) (hb : c.code = cc) (hml : c.maxLocals = nL) (hown : s.vm.findClass own = some m.cls) (hts : ∀ w ∈ Ts, w.before args s = true)
    (hM : qMv l y ws d g Wd A u As U) (hG : GoodIn Ts (va_wsS own index y ws)) (hw : ws = .code y bytes maxL ret :: ws') (n : Nat) (hd : y.cls ≠ "java/lang/invoke/MethodHandle" ∧ y.cls ≠ "java/lang/invoke/VarHandle" ∧ (parseMethodDescriptor y.desc).map (fun d => d.parameters.length) = some n) (hn : As.length = n) (hR : (rmL d).frames + 1 ≤ R.frames ∧ 8 + (maxL + 11) + (rmL d).locals ≤ R.locals) (hcs : cells + 0 ≤ R.cells ∧ slots + 0 ≤ R.slots) (hK : va_K g.1 vwCl (qTys g) s) (hP : va_P g.1 vwCl (Wd u) H) (hS : va_S A0 H0 H locs) (hA : ∀ q, A q → A0 q) (hl : ls.size = nL) (hst : st = As.reverse ++ rest) (hcat : (rest.map fun v => v.category).sum ≤ 8) (hdg : decode cc pc = .ok (.invokestatic index, 3))
    (kk : ∀ (H1 : Heap) (locs1 : List Loc), H.size ≤ H1.size → (∀ q : Nat, q < H.size → ¬ A q → H1[q]? = H[q]?) → va_P g.1 vwCl (Wd U) H1 → va_S A0 H0 H1 locs1 → W p l e R s m args below meth c H1 locs1 cells slots Q (F0 m (pc + 3) ls (rest))) : W p l e R s m args below meth c H locs cells slots Q (F0 m pc ls st) := by
  refine va_callv (va_runS (As := As) (rest := rest) ⟨hx, hb, hml, hown, hts⟩ hM (va_cwS n hts hG hw rfl rfl hd hR) ⟨qBlind, fun U2 hU hW => ⟨rfl, by rw [hU]; exact hP, va_K.moved hW.alike hK⟩⟩ rfl hn hl hst (lv_room hcat) hdg hcs) hS (fun q _ h => hA q h) (fun q h => hA q h) (fun u2 t H1 locs1 ht hvm hw2 hB hz hk hS1 => ?_)
  subst hw2
  exact kk H1 locs1 hz hk (by rw [← ht]; exact hB.1) hS1
end QST
-- truth as a number
def bI (b : Bool) : Int32 := if b then 1 else 0
theorem bI_0 {b : Bool} (h : bI b = 0) : b = false := by cases b <;> simp_all [bI]
theorem bI_n {b : Bool} (h : ¬ bI b = 0) : b = true := by cases b <;> simp_all [bI]
theorem bI_t : bI true = 1 := rfl
theorem bI_f : bI false = 0 := rfl
theorem bI_nar (b : Bool) : narrow .boolean (.int (bI b)) = .int (bI b) := by cases b <;> rfl
theorem nI_ge' {a b : Nat} (ha : a < 2 ^ 31) (hb : b < 2 ^ 31) (h : nI b ≤ nI a) : b ≤ a := (nI_leI hb ha).mp h
theorem nI_lt' {a b : Nat} (ha : a < 2 ^ 31) (hb : b < 2 ^ 31) (h : ¬ nI b ≤ nI a) : a < b := Nat.lt_of_not_le (fun q => h ((nI_leI hb ha).mpr q))
end
section
/-! WHAT EACH METHOD SAYS, over the state z of numbers. -/
abbrev ix (n : Int32) : Nat := n.toNatClampNeg
def inR (v a b : Int32) : Bool := decide (a ≤ v) && decide (v ≤ b)
def absI (x : Int32) : Int32 := if 0 ≤ x then x else 0 - x
def absL (x : Int64) : Int64 := if 0 < x then x else -x
def maxI (x y : Int32) : Int32 := if x < y then y else x
def minI (x y : Int32) : Int32 := if y < x then y else x
def fdv (x y : Int32) : Int32 := Int32.ofInt (x.toInt / y.toInt)
def sh (x : Int32) : Int32 := 1 <<< (x &&& 31)
theorem ne_toInt {x y : Int32} (h : ¬ x = y) {k : Int} (hk : y.toInt = k) : x.toInt ≠ k := fun e => h (Int32.toInt_inj.mp (e.trans hk.symm))
def pOk (z : zS) (n : Int32) : Bool := inR n 0 3 && !(decide (z (10 + ix n) 0 = 0))
def renewS (z : zS) (p : Nat) (first other kind : Int32) : zS := zu (zu (zu (zu (zu (zu (zu (zu (zu (zu (zu (zu z p 0 1) p 1 0) p 2 0) p 3 first) p 4 other) p 5 kind) p 6 0) p 7 1000) p 8 600) p 9 0) p 10 0) p 11 0
def s_part (z : zS) (n first other kind : Int32) : Int32 × zS :=
  if inR n 0 3 = true ∧ inR first 0 7 = true ∧ inR other 0 7 = true then
    if inR kind 0 3 = true then
      if first = other ∨ ¬ z 0 0 = 0 then (-3, z)
      else (if z (10 + ix n) 0 = 0 then 0 else 1, renewS z (10 + ix n) first other kind)
    else (-2, z)
  else (-1, z)
def s_remove (z : zS) (n : Int32) : Int32 × zS := if pOk z n = true then (if z 0 0 = 0 then (1, zu z (10 + ix n) 0 0) else (-3, z)) else (-1, z)
def takesB (w v : Int32) : Bool := decide (0 ≤ w) && (decide (w < 5) && (decide (leastN (ix w) ≤ v) && decide (v ≤ mostN (ix w))))
def s_set (z : zS) (n w v : Int32) : Int32 × zS := if pOk z n = true then (if takesB w v = true then (z (10 + ix n) (7 + ix w), zu z (10 + ix n) (7 + ix w) v) else (-2, z)) else (-1, z)
def s_ofPart (z : zS) (n w : Int32) : Int32 :=
  if pOk z n = true then
    if inR w 10 14 = true then z (10 + ix n) (7 + ix (w - 10))
    else if w = 0 then z (10 + ix n) 3 else if w = 1 then z (10 + ix n) 4 else if w = 2 then z (10 + ix n) 5 else if w = 3 then z (10 + ix n) 6
    else if w = 4 then (if z (10 + ix n) 1 = 0 then 0 else 1) else if w = 5 then (if z (10 + ix n) 2 = 0 then 0 else 1) else -2
  else -1
def shortsB (z : zS) (t pin : Int32) : Bool := (decide (t = 0) && !(decide (z 1 1 &&& pin = 0))) || (decide (t = 1) && !(decide (z 1 0 &&& pin = 0)))
def s_relay (z : zS) (t p v : Int32) : Int32 × zS :=
  if inR t 0 3 = true ∧ inR p 0 7 = true then
    if inR v 0 1 = true then
      if z 0 0 = 0 ∧ ¬ (v = 1 ∧ shortsB z t (sh p) = true) then
        (if z 1 (ix t) &&& sh p = 0 then 0 else 1, zu z 1 (ix t) (if v = 1 then z 1 (ix t) ||| sh p else z 1 (ix t) &&& (sh p ^^^ (-1))))
      else (-3, z)
    else (-2, z)
  else (-1, z)
def s_pins (z : zS) (t : Int32) : Int32 := if inR t 0 3 = true then z 1 (ix t) else -1
def us (x y : Int32) : Int32 := (x.toUInt32 >>> (y.toUInt32 &&& Int32.toUInt32 31)).toInt32
def bc1 (x : Int32) : Int32 := x - (us x 1 &&& 1431655765)
def bc2 (x : Int32) : Int32 := (x &&& 858993459) + (us x 2 &&& 858993459)
def bc3 (x : Int32) : Int32 := (x + us x 4) &&& 252645135
def bc4 (x : Int32) : Int32 := x + us x 8
def bc5 (x : Int32) : Int32 := x + us x 16
def bcF (x : Int32) : Int32 := bc5 (bc4 (bc3 (bc2 (bc1 x)))) &&& 63
def hlB (z : zS) : Bool := decide (bcF (z 1 0) = 1) && decide (bcF (z 1 1) = 1)
def jnB (z : zS) (p : Nat) : Bool := (decide (sh (z p 3) = z 1 0) && decide (sh (z p 4) = z 1 1)) || (decide (sh (z p 3) = z 1 1) && decide (sh (z p 4) = z 1 0))
def thB (z : zS) (p : Nat) : Bool := !(decide (z p 0 = 0))
def inHr (z : zS) : Nat → Nat → Int32
  | 0, _ => -9
  | k + 1, i => if thB z (10 + i) && jnB z (10 + i) then nI i else inHr z k (i + 1)
def inH (z : zS) : Int32 := if hlB z = true then inHr z 4 0 else -9
def s_power (z : zS) (v : Int32) : Int32 × zS :=
  if inR v 0 1 = true then (if v = 1 ∧ inH z = -9 then (-3, z) else (if z 0 0 = 0 then 0 else 1, zu z 0 0 (if v = 1 then 1 else 0))) else (-2, z)
def s_limit (z : zS) (v : Int32) : Int32 × zS := if inR v 1 20000 = true then (z 0 1, zu z 0 1 v) else (-2, z)
def s_leads (z : zS) (v : Int32) : Int32 × zS := if inR v 0 200 = true then (z 0 2, zu z 0 2 v) else (-2, z)
def fourB (z : zS) : Bool := hlB z && (decide (z 1 2 = z 1 0) && decide (z 1 3 = z 1 1))
def s_now (z : zS) (w : Int32) : Int32 := if w = 0 then inH z else if w = 1 then (if fourB z = true then 4 else 2) else if w = 2 then (if z 0 0 = 0 then 0 else 1) else if w = 3 then z 0 1 else if w = 4 then z 0 2 else -2
def coldF (f : Nat → Int32) (v : Int32) : Int32 :=
  if f 5 = 0 then fdv (v * f 7) 1000
  else if f 5 = 3 then (if f 2 = 0 then fdv (v * f 9) 1000 else fdv (v * f 7) 1000)
  else (fdv (v * f 9) 1000 + (if f 8 < v then fdv ((v - f 8) * f 7) 1000 else 0)) + (if f 5 = 2 ∧ v < -(f 8) then fdv ((v + f 8) * f 7) 1000 else 0)
def ownF (f : Nat → Int32) (v : Int32) : Int32 := if f 1 = 0 then (if 1 ≤ 1000 + f 11 * f 6 then fdv (1000 * coldF f v) (1000 + f 11 * f 6) else 0) else 0
def s_amps (z : zS) (n v : Int32) : Int32 := if pOk z n = true then (if inR v (-3000) 3000 = true then ownF (z (10 + ix n)) v + 50000 else -2) else -1
def ownd (z : zS) (p : Nat) (x : Int32) : Int32 := if sh (z p 3) = z 1 0 then x else -x
def ampF (z : zS) (p : Nat) (u : Int32) : Int32 := ownd z p (ownF (z p) (ownd z p u))
def dropF (z : zS) (a : Int32) : Int32 := fdv (a * z 0 2) 1000
def alB (z : zS) (p : Nat) (u : Int32) : Bool := decide (z 0 1 < absI (ampF z p u))
def awB (z : zS) (p : Nat) (u v : Int32) : Bool := !(alB z p u) && (fourB z || decide (absI (u + dropF z (ampF z p u)) ≤ absI v))
/-- how many of P 1, P 2, .. hold, one after the other, K at most -/
def srch : (Nat → Bool) → Nat → Nat
  | _, 0 => 0
  | P, K + 1 => if P 1 then 1 + srch (fun k => P (k + 1)) K else 0
def sgn (v : Int32) : Int32 := if v < 0 then -1 else 1
def uN (z : zS) (p : Nat) (v : Int32) : Nat := srch (fun k => awB z p (sgn v * nI k) v) (ix (absI v))
def uF (z : zS) (p : Nat) (v : Int32) : Int32 := sgn v * nI (uN z p v)
def ruF (z : zS) (p : Nat) (u v : Int32) : Int32 := if u = v then 0 else if alB z p (if v < 0 then u - 1 else u + 1) = true then 1 else 2
def s_would (z : zS) (v w : Int32) : Int32 :=
  if inR v (-3000) 3000 = true ∧ inR w 0 2 = true then
    if inH z = -9 then -3
    else if w = 0 then uF z (10 + ix (inH z)) v + 10000 else if w = 1 then ampF z (10 + ix (inH z)) (uF z (10 + ix (inH z)) v) + 50000 else ruF z (10 + ix (inH z)) (uF z (10 + ix (inH z)) v) v
  else -2
def snB (f : Nat → Int32) (x : Int32) : Bool := decide (f 5 = 3) && (decide (f 2 = 0) && (decide (f 1 = 0) && decide (f 8 ≤ x)))
def shutS (z : zS) (p : Nat) (x : Int32) : zS := if z p 5 = 3 ∧ ¬ z p 2 = 0 ∧ x < z p 10 then zu z p 2 0 else z
def wldF (h u a w : Int32) : Int32 := h + (absL (u.toInt64 * a.toInt64 * w.toInt64) / 500000).toInt32
def warmS (z : zS) (p : Nat) (u a w : Int32) : Int32 × zS :=
  if wldF (z p 6) u a w < 1000 ∨ ¬ z p 1 = 0 then (0, zu z p 6 (minI (wldF (z p 6) u a w) 1000)) else (wldF (z p 6) u a w - 999, zu (zu z p 6 (minI (wldF (z p 6) u a w) 1000)) p 1 1)
def addS (z : zS) (v t a r : Int32) : zS := zu (zu (zu (zu (zu z 2 (ix (z 0 3)) v) 3 (ix (z 0 3)) t) 4 (ix (z 0 3)) a) 5 (ix (z 0 3)) r) 0 3 (z 0 3 + 1)
def opS (z : zS) (p : Nat) (v : Int32) : zS := if snB (z p) (ownd z p (uF z p v)) = true then zu z p 2 1 else z
def tldF (z : zS) (u a : Int32) : Int32 := if fourB z = true then u else u + dropF z a
def rdS (z : zS) (p : Nat) (v w : Int32) : Int32 × zS := warmS (addS z v (tldF z (uF z p v) (ampF z p (uF z p v))) (ampF z p (uF z p v)) (ruF z p (uF z p v) v)) p (uF z p v) (ampF z p (uF z p v)) w
def pulS (z : zS) (p : Nat) (v w : Int32) : Int32 × zS :=
  ((rdS (opS z p v) p v w).1, shutS (rdS (opS z p v) p v w).2 p (ownd (rdS (opS z p v) p v w).2 p (ampF (opS z p v) p (uF (opS z p v) p v))))
def putS (z : zS) (s n : Int32) : zS := if z 0 4 < 3 then zu (zu (zu z 6 (ix (z 0 4)) s) 7 (ix (z 0 4)) n) 0 4 (z 0 4 + 1) else z
def tellS (z : zS) (n ab : Int32) : zS := putS (putS z 2 n) 3 ab
def s_pulse (z : zS) (v w : Int32) : Int32 × zS :=
  if inR v (-3000) 3000 = true ∧ inR w 1 50 = true then
    if z 0 0 = 0 then (-3, z)
    else if z 0 3 = 60 then (-4, z)
    else
      if 0 < (pulS (zu z 0 4 0) (10 + ix (inH z)) v w).1 then ((tellS (pulS (zu z 0 4 0) (10 + ix (inH z)) v w).2 (inH z) (pulS (zu z 0 4 0) (10 + ix (inH z)) v w).1) 0 3, tellS (pulS (zu z 0 4 0) (10 + ix (inH z)) v w).2 (inH z) (pulS (zu z 0 4 0) (10 + ix (inH z)) v w).1)
      else ((pulS (zu z 0 4 0) (10 + ix (inH z)) v w).2 0 3, (pulS (zu z 0 4 0) (10 + ix (inH z)) v w).2)
  else (-2, z)
def coolN : Nat → Int32 → Int32
  | 0, h => h
  | k + 1, h => coolN k (h - (h + 15) / 16)
def coolR (k : Nat) : Nat → Nat → zS → zS
  | 0, _, z => z
  | f + 1, i, z => coolR k f (i + 1) (zu z (10 + i) 6 (coolN k (z (10 + i) 6)))
def coolA (z : zS) (k : Nat) : zS := coolR k 4 0 z
def mxR (z : zS) : Nat → Nat → Int32 → Int32
  | 0, _, g => g
  | f + 1, i, g => mxR z f (i + 1) (if z (10 + i) 0 = 0 then g else maxI g (z (10 + i) 6))
def s_rest (z : zS) (n : Int32) : Int32 × zS := if inR n 0 100 = true then (mxR (coolA z (ix n)) 4 0 0, coolA z (ix n)) else (-2, z)
def isSw (a b st w n back : Int32) : Bool := (inR a (-3000) 3000 && inR b (-3000) 3000) && (inR st 1 1000 && (inR w 1 50 && (inR back 0 1 && inR n 0 100)))
/-- the steps of a sweep from the i-th pulse on, f of them left: the answer, the state -/
def swR (p : Nat) (hand a stb w : Int32) (k last all : Nat) : Nat → Nat → zS → Int32 × zS
  | 0, _, z => (nI all, z)
  | f + 1, i, z =>
    if 0 < (pulS z p (a + nI (if i ≤ last then i else 2 * last - i) * stb) w).1 then
      (-100 - (nI i + 1), tellS (putS (pulS z p (a + nI (if i ≤ last then i else 2 * last - i) * stb) w).2 1 (nI i)) hand (pulS z p (a + nI (if i ≤ last then i else 2 * last - i) * stb) w).1)
    else swR p hand a stb w k last all f (i + 1) (coolA (pulS z p (a + nI (if i ≤ last then i else 2 * last - i) * stb) w).2 k)
def lastF (a b st : Int32) : Nat := ix (absI (b - a) / st)
def allF (a b st back : Int32) : Nat := if back = 1 then 2 * lastF a b st + 1 else lastF a b st + 1
def s_sweep (z : zS) (a b st w n back : Int32) : Int32 × zS :=
  if isSw a b st w n back = true then
    if z 0 0 = 0 then (-3, z)
    else if 60 < z 0 3 + nI (allF a b st back) then (-4, z)
    else swR (10 + ix (inH z)) (inH z) a (if b < a then -st else st) w (ix n) (lastF a b st) (allF a b st back) (allF a b st back) 0 (zu z 0 4 0)
  else (-2, z)
def s_why (z : zS) (k w : Int32) : Int32 :=
  if inR k 0 2 = true ∧ inR w 0 1 = true then (if z 0 4 ≤ k then -9 else if w = 0 then z 6 (ix k) else z 7 (ix k)) else -2
def hasB (z : zS) (k : Int32) : Bool := decide (0 ≤ k) && decide (k < z 0 3)
def s_reading (z : zS) (k w : Int32) : Int32 :=
  if hasB z k = true then (if w = 0 then z 2 (ix k) + 10000 else if w = 1 then z 3 (ix k) + 10000 else if w = 2 then z 4 (ix k) + 50000 else if w = 3 then z 5 (ix k) else -2) else -1
def s_clear (z : zS) : Int32 × zS := (z 0 3, zu z 0 3 0)
def offF (z : zS) (i a b : Nat) : Int64 := absL ((z 3 i - z 3 a).toInt64 * (z 4 b - z 4 a).toInt64 - (z 4 i - z 4 a).toInt64 * (z 3 b - z 3 a).toInt64)
def knR (z : zS) (a b : Nat) : Nat → Nat → Int32 → Int64 → Int32
  | 0, _, pt, _ => pt
  | f + 1, i, pt, far => if far < offF z i a b then knR z a b f (i + 1) (nI i) (offF z i a b) else knR z a b f (i + 1) pt far
def knF (z : zS) (a b : Nat) : Int32 := knR z a b (b + 1 - a) a (-9) 0
def s_knee (z : zS) (a b : Int32) : Int32 := if hasB z a = true ∧ hasB z b = true then (if b < a then -2 else knF z (ix a) (ix b)) else -1
def smR (f : Nat → Int64) : Nat → Nat → Int64 → Int64
  | 0, _, s => s
  | k + 1, i, s => smR f k (i + 1) (s + f i)
def gdR : Nat → Int64 → Int64 → Int64
  | 0, x, _ => x
  | k + 1, x, y => if y = 0 then x else gdR k y (x - x / y * y)
def gdF (x y : Int64) : Int64 := gdR 1000 x y
def frF (u d : Int64) (up : Bool) : Int64 :=
  if d = 0 ∨ gdF (absL u) (absL d) = 0 then -9223372036854775808
  else if up then u / (if d < 0 then -(gdF (absL u) (absL d)) else gdF (absL u) (absL d)) else d / (if d < 0 then -(gdF (absL u) (absL d)) else gdF (absL u) (absL d))
def fX (z : zS) (a n : Nat) : Int64 := smR (fun i => (z 3 i).toInt64) n a 0
def fY (z : zS) (a n : Nat) : Int64 := smR (fun i => (z 4 i).toInt64) n a 0
def fP (z : zS) (a n : Nat) : Int64 := smR (fun i => (z 3 i).toInt64 * (z 4 i).toInt64) n a 0
def fQ (z : zS) (a n : Nat) : Int64 := smR (fun i => (z 3 i).toInt64 * (z 3 i).toInt64) n a 0
def fD (z : zS) (a n : Nat) : Int64 := lN n * fQ z a n - fX z a n * fX z a n
def fS (z : zS) (a n : Nat) : Int64 := lN n * fP z a n - fX z a n * fY z a n
def fB (z : zS) (a n : Nat) : Int64 := fY z a n * fQ z a n - fX z a n * fP z a n
def fitF (z : zS) (a n : Nat) (w : Int32) : Int64 :=
  if fD z a n = 0 then -9223372036854775808
  else if w = 0 then frF (fS z a n) (fD z a n) true else if w = 1 then frF (fS z a n) (fD z a n) false
  else if w = 2 then frF (fB z a n) (fD z a n) true else if w = 3 then frF (fB z a n) (fD z a n) false
  else if w = 4 then frF (-(fB z a n)) (fS z a n) true else frF (-(fB z a n)) (fS z a n) false
def s_fit (z : zS) (a b w : Int32) : Int64 :=
  if hasB z a = true ∧ hasB z b = true ∧ ¬ b < a ∧ inR w 0 5 = true then fitF z (ix a) (ix b + 1 - ix a) w else -9223372036854775808
def gpI (z : zS) (i : Nat) : Nat → Nat → Int32 → Int32
  | 0, _, g => g
  | f + 1, j, g => gpI z i f (j + 1) (if z 2 i = z 2 j then maxI g (absI (z 4 i - z 4 j)) else g)
def gpR (z : zS) (b : Nat) : Nat → Nat → Int32 → Int32
  | 0, _, g => g
  | f + 1, i, g => gpR z b f (i + 1) (gpI z i (b - i) (i + 1) g)
def gpF (z : zS) (a b : Nat) : Int32 := gpR z b (b - a) a 0
def s_gap (z : zS) (a b : Int32) : Int32 := if hasB z a = true ∧ hasB z b = true then (if b < a then -2 else gpF z (ix a) (ix b)) else -1
def ptR (z : zS) (bo : Bool) : Nat → Nat → Int32 → Int32
  | 0, _, g => g
  | f + 1, i, g => ptR z bo f (i + 1) (if z (10 + i) 0 = 0 then g else if z (10 + i) 1 = 0 ∧ bo = true then g else g + 1)
def clR (z : zS) : Nat → Nat → Int32 → Int32
  | 0, _, g => g
  | f + 1, i, g => clR z f (i + 1) (g + bcF (z 1 i))
def wrR (z : zS) (r : Int32) : Nat → Nat → Int32 → Int32
  | 0, _, g => g
  | f + 1, i, g => wrR z r f (i + 1) (if z 5 i = r then g + 1 else g)
def wrF (z : zS) (r : Int32) : Int32 := wrR z r (ix (z 0 3)) 0 0
def s_many (z : zS) (w : Int32) : Int32 :=
  if w = 0 then ptR z false 4 0 0 else if w = 1 then z 0 3 else if w = 2 then clR z 4 0 0 else if w = 3 then ptR z true 4 0 0 else if w = 4 then wrF z 1 else if w = 5 then wrF z 2 else -2
/-- what every state keeps to -/
def partInv (f : Nat → Int32) : Prop := (f 0 = 0 ∨ f 0 = 1) ∧ (f 1 = 0 ∨ f 1 = 1) ∧ (f 2 = 0 ∨ f 2 = 1) ∧ inR (f 3) 0 7 = true ∧ inR (f 4) 0 7 = true ∧ inR (f 5) 0 3 = true ∧ inR (f 6) 0 1000 = true ∧ inR (f 7) 0 5000 = true ∧ inR (f 8) 0 2000 = true ∧ inR (f 9) 0 2000 = true ∧ inR (f 10) 0 5000 = true ∧ inR (f 11) 0 5 = true
def qInv (z : zS) : Prop := (z 0 0 = 0 ∨ z 0 0 = 1) ∧ inR (z 0 1) 1 20000 = true ∧ inR (z 0 2) 0 200 = true ∧ inR (z 0 3) 0 60 = true ∧ inR (z 0 4) 0 3 = true ∧ (∀ t, t < 4 → inR (z 1 t) 0 255 = true) ∧ (∀ n, n < 4 → partInv (z (10 + n))) ∧ (¬ z 0 0 = 0 → ¬ inH z = -9)
theorem inR_iff {v a b : Int32} : inR v a b = true ↔ a.toInt ≤ v.toInt ∧ v.toInt ≤ b.toInt := by simp [inR, Int32.le_iff_toInt_le]
theorem inR_nI {v : Int32} {n : Nat} {b : Int32} (hb : b.toInt = n) (h : inR v 0 b = true) : ∃ k, k ≤ n ∧ v = nI k := by
  have h := inR_iff.mp h
  exact nI_of2 hb (fun q => by have := Int32.lt_iff_toInt_lt.mp q; simp at this; have h1 := h.1; simp at h1; omega) (Int32.le_iff_toInt_le.mpr h.2)
theorem ix_nI {n : Nat} (h : n < 2 ^ 31) : ix (nI n) = n := nI_clamp h
theorem inR_ix {v : Int32} {n : Nat} {b : Int32} (hb : b.toInt = n) (h : inR v 0 b = true) : ix v ≤ n ∧ v = nI (ix v) ∧ v.toInt = (ix v : Int) := by
  obtain ⟨k, h1, rfl⟩ := inR_nI hb h
  have hk : k < 2 ^ 31 := by have := b.toInt_lt; omega
  exact ⟨by rw [ix_nI hk]; exact h1, by rw [ix_nI hk], by rw [ix_nI hk]; exact nI_toInt hk⟩
theorem inR_vp {v : Int32} {n : Nat} {b : Int32} (hb : b.toInt = n) (h : inR v 0 b = true) (N : Nat) (hN : n < N) : vp_in v N := by
  obtain ⟨h1, h2, h3⟩ := inR_ix hb h
  exact vp_in_iff.mpr ⟨by omega, by omega⟩
theorem i_lt_t {x y : Int32} (h : x < y) : ¬ y ≤ x := by rw [Int32.le_iff_toInt_le]; rw [Int32.lt_iff_toInt_lt] at h; omega
theorem i_lt_f {x y : Int32} (h : ¬ x < y) : y ≤ x := by rw [Int32.le_iff_toInt_le]; rw [Int32.lt_iff_toInt_lt] at h; omega
theorem i_le_t {x y : Int32} (h : x ≤ y) : ¬ y < x := by rw [Int32.lt_iff_toInt_lt]; rw [Int32.le_iff_toInt_le] at h; omega
theorem i_le_f {x y : Int32} (h : ¬ x ≤ y) : y < x := by rw [Int32.lt_iff_toInt_lt]; rw [Int32.le_iff_toInt_le] at h; omega
end
section
theorem fb_rng (x : Int32) : -2147483648 ≤ x.toInt ∧ x.toInt < 2147483648 := by
  have h1 := Int32.le_toInt x
  have h2 := Int32.toInt_lt x
  omega
theorem fb_bmod {z : Int} (h1 : -2147483648 ≤ z) (h2 : z < 2147483648) : z.bmod (2 ^ 32) = z := by
  rw [Int.bmod_eq_of_le (by omega) (by omega)]
theorem fb_addI {x y : Int32} (h1 : -2147483648 ≤ x.toInt + y.toInt) (h2 : x.toInt + y.toInt < 2147483648) : (x + y).toInt = x.toInt + y.toInt := by
  rw [Int32.toInt_add, fb_bmod h1 h2]
theorem fb_subI {x y : Int32} (h1 : -2147483648 ≤ x.toInt - y.toInt) (h2 : x.toInt - y.toInt < 2147483648) : (x - y).toInt = x.toInt - y.toInt := by
  rw [Int32.toInt_sub, fb_bmod h1 h2]
theorem fb_mulI {x y : Int32} (h1 : -2147483648 ≤ x.toInt * y.toInt) (h2 : x.toInt * y.toInt < 2147483648) : (x * y).toInt = x.toInt * y.toInt := by
  rw [Int32.toInt_mul, fb_bmod h1 h2]
theorem fb_negI {x : Int32} (h : x.toInt ≠ -2147483648) : (-x).toInt = -x.toInt := by
  have := fb_rng x
  rw [Int32.toInt_neg, fb_bmod (by omega) (by omega)]
theorem fb_ofI {z : Int} (h1 : -2147483648 ≤ z) (h2 : z < 2147483648) : (Int32.ofInt z).toInt = z := by
  rw [Int32.toInt_ofInt, fb_bmod h1 h2]
theorem fb_asI (x : Int32) : Int32.ofInt x.toInt = x := Int32.ofInt_toInt x
theorem fb_rngL (x : Int64) : -9223372036854775808 ≤ x.toInt ∧ x.toInt < 9223372036854775808 := by
  have h1 := Int64.le_toInt x
  have h2 := Int64.toInt_lt x
  omega
theorem fb_bmodL {z : Int} (h1 : -9223372036854775808 ≤ z) (h2 : z < 9223372036854775808) : z.bmod (2 ^ 64) = z := by
  rw [Int.bmod_eq_of_le (by omega) (by omega)]
theorem fb_addL {x y : Int64} (h1 : -9223372036854775808 ≤ x.toInt + y.toInt) (h2 : x.toInt + y.toInt < 9223372036854775808) : (x + y).toInt = x.toInt + y.toInt := by
  rw [Int64.toInt_add, fb_bmodL h1 h2]
theorem fb_subL {x y : Int64} (h1 : -9223372036854775808 ≤ x.toInt - y.toInt) (h2 : x.toInt - y.toInt < 9223372036854775808) : (x - y).toInt = x.toInt - y.toInt := by
  rw [Int64.toInt_sub, fb_bmodL h1 h2]
theorem fb_mulL {x y : Int64} (h1 : -9223372036854775808 ≤ x.toInt * y.toInt) (h2 : x.toInt * y.toInt < 9223372036854775808) : (x * y).toInt = x.toInt * y.toInt := by
  rw [Int64.toInt_mul, fb_bmodL h1 h2]
theorem fb_sgnI (x : Int32) : (x < 0) ↔ x.toInt < 0 := by rw [Int32.lt_iff_toInt_lt]; rfl
theorem fb_nn (x : Int32) : (0 ≤ x) ↔ 0 ≤ x.toInt := by rw [Int32.le_iff_toInt_le]; rfl
theorem fb_xor (x y : Int32) (hy : 0 ≤ y.toInt) : (0 ≤ x ^^^ y) ↔ 0 ≤ x.toInt := by
  rw [fb_nn]
  have h1 : (x ^^^ y).toInt = (x.toBitVec ^^^ y.toBitVec).toInt := rfl
  have h2 : y.toBitVec.msb = false := by
    have h3 : ¬ y.toBitVec.msb = true := fun q => by
      have h4 := (BitVec.msb_eq_toInt (x := y.toBitVec))
      rw [q] at h4
      have h5 : y.toBitVec.toInt < 0 := by simpa using h4.symm
      have h6 : y.toInt = y.toBitVec.toInt := rfl
      omega
    simpa using h3
  have h7 : (x.toBitVec ^^^ y.toBitVec).msb = x.toBitVec.msb := by rw [BitVec.msb_xor, h2]; simp
  have h8 := BitVec.msb_eq_toInt (x := x.toBitVec ^^^ y.toBitVec)
  have h9 := BitVec.msb_eq_toInt (x := x.toBitVec)
  have h10 : x.toInt = x.toBitVec.toInt := rfl
  rw [h7, h9] at h8
  rw [h1, h10]
  have h11 : (x.toBitVec.toInt < 0) ↔ ((x.toBitVec ^^^ y.toBitVec).toInt < 0) := by simpa using h8
  omega
theorem fdv_toInt (x y : Int32) (hy : 0 < y.toInt) : (fdv x y).toInt = x.toInt / y.toInt := by
  have hx := fb_rng x
  unfold fdv
  refine fb_ofI ?_ ?_
  · have h1 : (-2147483648 : Int) ≤ x.toInt := hx.1
    have h2 : (-2147483648) / y.toInt ≤ x.toInt / y.toInt := Int.ediv_le_ediv hy h1
    have h3 : (-2147483648 : Int) ≤ (-2147483648) / y.toInt := by
      rw [Int.le_ediv_iff_mul_le hy]
      have : (1 : Int) ≤ y.toInt := hy
      omega
    omega
  · have h1 : x.toInt / y.toInt ≤ 2147483647 / y.toInt := Int.ediv_le_ediv hy (by omega)
    have h2 : (2147483647 : Int) / y.toInt ≤ 2147483647 := Int.ediv_le_self _ (by omega)
    omega
theorem tdv_np {a b : Int} (h : a ≤ 0) (hb : 0 < b) : a.tdiv b ≤ 0 := by
  have h1 : (-a).tdiv b = -(a.tdiv b) := Int.neg_tdiv a b
  have h2 : 0 ≤ (-a).tdiv b := Int.tdiv_nonneg (by omega) (by omega)
  omega
theorem dv_toInt (x y : Int32) (hy : 0 < y.toInt) : (x / y).toInt = x.toInt.tdiv y.toInt := by
  have hx := fb_rng x
  rw [Int32.toInt_div]
  have h1 : (x.toInt.tdiv y.toInt).natAbs ≤ x.toInt.natAbs := by
    rw [Int.natAbs_tdiv]
    exact Nat.div_le_self _ _
  have h2 : -2147483648 ≤ x.toInt.tdiv y.toInt := by omega
  by_cases h3 : x.toInt.tdiv y.toInt < 2147483648
  · exact fb_bmod h2 h3
  · exfalso
    by_cases h4 : 0 ≤ x.toInt
    · omega
    · have h5 : x.toInt.tdiv y.toInt ≤ 0 := tdv_np (by omega) (by omega)
      omega
theorem fdv_pos (x y : Int32) (hy : 0 < y.toInt) (hx : 0 ≤ x ^^^ y) : x / y = fdv x y := by
  have h := (fb_xor x y (by omega)).mp hx
  refine Int32.toInt_inj.mp ?_
  rw [fdv_toInt x y hy, dv_toInt x y hy, Int.tdiv_eq_ediv_of_nonneg h]
theorem dvm_toInt (x y : Int32) (hy : 0 < y.toInt) : (x / y * y).toInt = x.toInt.tdiv y.toInt * y.toInt := by
  have hx := fb_rng x
  have h0 : (x.toInt.tdiv y.toInt * y.toInt).natAbs ≤ x.toInt.natAbs := by
    rw [Int.natAbs_mul, Int.natAbs_tdiv]
    exact Nat.div_mul_le_self _ _
  have e := dv_toInt x y hy
  have h1 : -2147483648 ≤ x.toInt.tdiv y.toInt * y.toInt := by omega
  have h2 : x.toInt.tdiv y.toInt * y.toInt < 2147483648 := by
    by_cases h4 : 0 ≤ x.toInt
    · omega
    · have h5 : x.toInt.tdiv y.toInt ≤ 0 := tdv_np (by omega) (by omega)
      have h6 : x.toInt.tdiv y.toInt * y.toInt ≤ 0 := Int.mul_nonpos_of_nonpos_of_nonneg h5 (by omega)
      omega
  rw [fb_mulI (by rw [e]; exact h1) (by rw [e]; exact h2), e]
theorem fdv_eq (x y : Int32) (hy : 0 < y.toInt) (h : x / y * y = x) : x / y = fdv x y := by
  have h1 := dvm_toInt x y hy
  rw [h] at h1
  refine Int32.toInt_inj.mp ?_
  rw [fdv_toInt x y hy, dv_toInt x y hy, Int.tdiv_eq_ediv]
  have h2 : y.toInt ∣ x.toInt := ⟨x.toInt.tdiv y.toInt, by rw [Int.mul_comm]; exact h1⟩
  simp [h2]
theorem fdv_neg (x y : Int32) (hy : 0 < y.toInt) (hx : ¬ 0 ≤ x ^^^ y) (h : ¬ x / y * y = x) : x / y - 1 = fdv x y := by
  have hn : ¬ 0 ≤ x.toInt := fun q => hx ((fb_xor x y (by omega)).mpr q)
  have h1 := dvm_toInt x y hy
  have hd : ¬ y.toInt ∣ x.toInt := fun q => h (Int32.toInt_inj.mp (by rw [h1]; exact Int.tdiv_mul_cancel q))
  have hb := fb_rng (fdv x y)
  have e1 := fdv_toInt x y hy
  have e2 := dv_toInt x y hy
  have e3 : x.toInt.tdiv y.toInt = x.toInt / y.toInt + 1 := by
    rw [Int.tdiv_eq_ediv]
    have : y.toInt.sign = 1 := Int.sign_eq_one_of_pos hy
    simp [hd, hn, this]
  refine Int32.toInt_inj.mp ?_
  have h1' : (1 : Int32).toInt = 1 := rfl
  rw [fb_subI (by rw [e2, e3, h1', ← e1]; omega) (by rw [e2, e3, h1', ← e1]; omega), e2, e3, h1', e1]
  omega
end
section
theorem hdX0_clearAll : yX0_clearAll.cls = RX0 ∧ yX0_clearAll.cls ≠ "java/lang/invoke/MethodHandle" ∧ yX0_clearAll.cls ≠ "java/lang/invoke/VarHandle" ∧ (parseMethodDescriptor yX0_clearAll.desc).map (fun d => d.parameters.length) = some 0 := by decide +kernel
theorem hdX0_put : yX0_put.cls = RX0 ∧ yX0_put.cls ≠ "java/lang/invoke/MethodHandle" ∧ yX0_put.cls ≠ "java/lang/invoke/VarHandle" ∧ (parseMethodDescriptor yX0_put.desc).map (fun d => d.parameters.length) = some 2 := by decide +kernel
theorem hdX1_takes : yX1_takes.cls ≠ "java/lang/invoke/MethodHandle" ∧ yX1_takes.cls ≠ "java/lang/invoke/VarHandle" ∧ (parseMethodDescriptor yX1_takes.desc).map (fun d => d.parameters.length) = some 2 := by decide +kernel
theorem hdX1_renew : yX1_renew.cls = RX1 ∧ yX1_renew.cls ≠ "java/lang/invoke/MethodHandle" ∧ yX1_renew.cls ≠ "java/lang/invoke/VarHandle" ∧ (parseMethodDescriptor yX1_renew.desc).map (fun d => d.parameters.length) = some 3 := by decide +kernel
theorem hdX1_number : yX1_number.cls = RX1 ∧ yX1_number.cls ≠ "java/lang/invoke/MethodHandle" ∧ yX1_number.cls ≠ "java/lang/invoke/VarHandle" ∧ (parseMethodDescriptor yX1_number.desc).map (fun d => d.parameters.length) = some 1 := by decide +kernel
theorem hdX1_putNumber : yX1_putNumber.cls = RX1 ∧ yX1_putNumber.cls ≠ "java/lang/invoke/MethodHandle" ∧ yX1_putNumber.cls ≠ "java/lang/invoke/VarHandle" ∧ (parseMethodDescriptor yX1_putNumber.desc).map (fun d => d.parameters.length) = some 2 := by decide +kernel
theorem hdX1_ownAmps : yX1_ownAmps.cls = RX1 ∧ yX1_ownAmps.cls ≠ "java/lang/invoke/MethodHandle" ∧ yX1_ownAmps.cls ≠ "java/lang/invoke/VarHandle" ∧ (parseMethodDescriptor yX1_ownAmps.desc).map (fun d => d.parameters.length) = some 1 := by decide +kernel
theorem hdX1_coldAmps : yX1_coldAmps.cls = RX1 ∧ yX1_coldAmps.cls ≠ "java/lang/invoke/MethodHandle" ∧ yX1_coldAmps.cls ≠ "java/lang/invoke/VarHandle" ∧ (parseMethodDescriptor yX1_coldAmps.desc).map (fun d => d.parameters.length) = some 1 := by decide +kernel
theorem hdX1_snapsOpenAt : yX1_snapsOpenAt.cls = RX1 ∧ yX1_snapsOpenAt.cls ≠ "java/lang/invoke/MethodHandle" ∧ yX1_snapsOpenAt.cls ≠ "java/lang/invoke/VarHandle" ∧ (parseMethodDescriptor yX1_snapsOpenAt.desc).map (fun d => d.parameters.length) = some 1 := by decide +kernel
theorem hdX1_shutBelow : yX1_shutBelow.cls = RX1 ∧ yX1_shutBelow.cls ≠ "java/lang/invoke/MethodHandle" ∧ yX1_shutBelow.cls ≠ "java/lang/invoke/VarHandle" ∧ (parseMethodDescriptor yX1_shutBelow.desc).map (fun d => d.parameters.length) = some 1 := by decide +kernel
theorem hdX1_warm : yX1_warm.cls = RX1 ∧ yX1_warm.cls ≠ "java/lang/invoke/MethodHandle" ∧ yX1_warm.cls ≠ "java/lang/invoke/VarHandle" ∧ (parseMethodDescriptor yX1_warm.desc).map (fun d => d.parameters.length) = some 3 := by decide +kernel
theorem hdX1_cool : yX1_cool.cls = RX1 ∧ yX1_cool.cls ≠ "java/lang/invoke/MethodHandle" ∧ yX1_cool.cls ≠ "java/lang/invoke/VarHandle" ∧ (parseMethodDescriptor yX1_cool.desc).map (fun d => d.parameters.length) = some 1 := by decide +kernel
theorem hdX2_has : yX2_has.cls = RX2 ∧ yX2_has.cls ≠ "java/lang/invoke/MethodHandle" ∧ yX2_has.cls ≠ "java/lang/invoke/VarHandle" ∧ (parseMethodDescriptor yX2_has.desc).map (fun d => d.parameters.length) = some 1 := by decide +kernel
theorem hdX2_room : yX2_room.cls = RX2 ∧ yX2_room.cls ≠ "java/lang/invoke/MethodHandle" ∧ yX2_room.cls ≠ "java/lang/invoke/VarHandle" ∧ (parseMethodDescriptor yX2_room.desc).map (fun d => d.parameters.length) = some 0 := by decide +kernel
theorem hdX2_add : yX2_add.cls = RX2 ∧ yX2_add.cls ≠ "java/lang/invoke/MethodHandle" ∧ yX2_add.cls ≠ "java/lang/invoke/VarHandle" ∧ (parseMethodDescriptor yX2_add.desc).map (fun d => d.parameters.length) = some 4 := by decide +kernel
theorem hdX2_withRule : yX2_withRule.cls = RX2 ∧ yX2_withRule.cls ≠ "java/lang/invoke/MethodHandle" ∧ yX2_withRule.cls ≠ "java/lang/invoke/VarHandle" ∧ (parseMethodDescriptor yX2_withRule.desc).map (fun d => d.parameters.length) = some 1 := by decide +kernel
theorem hdX2_kneePoint : yX2_kneePoint.cls = RX2 ∧ yX2_kneePoint.cls ≠ "java/lang/invoke/MethodHandle" ∧ yX2_kneePoint.cls ≠ "java/lang/invoke/VarHandle" ∧ (parseMethodDescriptor yX2_kneePoint.desc).map (fun d => d.parameters.length) = some 2 := by decide +kernel
theorem hdX2_greatestGap : yX2_greatestGap.cls = RX2 ∧ yX2_greatestGap.cls ≠ "java/lang/invoke/MethodHandle" ∧ yX2_greatestGap.cls ≠ "java/lang/invoke/VarHandle" ∧ (parseMethodDescriptor yX2_greatestGap.desc).map (fun d => d.parameters.length) = some 2 := by decide +kernel
theorem hdX2_lineFitted : yX2_lineFitted.cls = RX2 ∧ yX2_lineFitted.cls ≠ "java/lang/invoke/MethodHandle" ∧ yX2_lineFitted.cls ≠ "java/lang/invoke/VarHandle" ∧ (parseMethodDescriptor yX2_lineFitted.desc).map (fun d => d.parameters.length) = some 3 := by decide +kernel
theorem hdX2_sum : yX2_sum.cls ≠ "java/lang/invoke/MethodHandle" ∧ yX2_sum.cls ≠ "java/lang/invoke/VarHandle" ∧ (parseMethodDescriptor yX2_sum.desc).map (fun d => d.parameters.length) = some 3 := by decide +kernel
theorem hdX2_sumOfProducts : yX2_sumOfProducts.cls ≠ "java/lang/invoke/MethodHandle" ∧ yX2_sumOfProducts.cls ≠ "java/lang/invoke/VarHandle" ∧ (parseMethodDescriptor yX2_sumOfProducts.desc).map (fun d => d.parameters.length) = some 4 := by decide +kernel
theorem hdX2_ofFraction : yX2_ofFraction.cls ≠ "java/lang/invoke/MethodHandle" ∧ yX2_ofFraction.cls ≠ "java/lang/invoke/VarHandle" ∧ (parseMethodDescriptor yX2_ofFraction.desc).map (fun d => d.parameters.length) = some 3 := by decide +kernel
theorem hdX2_greatestDivisor : yX2_greatestDivisor.cls ≠ "java/lang/invoke/MethodHandle" ∧ yX2_greatestDivisor.cls ≠ "java/lang/invoke/VarHandle" ∧ (parseMethodDescriptor yX2_greatestDivisor.desc).map (fun d => d.parameters.length) = some 2 := by decide +kernel
theorem hdX3_part : yX3_part.cls = RX3 ∧ yX3_part.cls ≠ "java/lang/invoke/MethodHandle" ∧ yX3_part.cls ≠ "java/lang/invoke/VarHandle" ∧ (parseMethodDescriptor yX3_part.desc).map (fun d => d.parameters.length) = some 4 := by decide +kernel
theorem hdX3_remove : yX3_remove.cls = RX3 ∧ yX3_remove.cls ≠ "java/lang/invoke/MethodHandle" ∧ yX3_remove.cls ≠ "java/lang/invoke/VarHandle" ∧ (parseMethodDescriptor yX3_remove.desc).map (fun d => d.parameters.length) = some 1 := by decide +kernel
theorem hdX3_set : yX3_set.cls = RX3 ∧ yX3_set.cls ≠ "java/lang/invoke/MethodHandle" ∧ yX3_set.cls ≠ "java/lang/invoke/VarHandle" ∧ (parseMethodDescriptor yX3_set.desc).map (fun d => d.parameters.length) = some 3 := by decide +kernel
theorem hdX3_ofPart : yX3_ofPart.cls = RX3 ∧ yX3_ofPart.cls ≠ "java/lang/invoke/MethodHandle" ∧ yX3_ofPart.cls ≠ "java/lang/invoke/VarHandle" ∧ (parseMethodDescriptor yX3_ofPart.desc).map (fun d => d.parameters.length) = some 2 := by decide +kernel
theorem hdX3_relay : yX3_relay.cls = RX3 ∧ yX3_relay.cls ≠ "java/lang/invoke/MethodHandle" ∧ yX3_relay.cls ≠ "java/lang/invoke/VarHandle" ∧ (parseMethodDescriptor yX3_relay.desc).map (fun d => d.parameters.length) = some 3 := by decide +kernel
theorem hdX3_pins : yX3_pins.cls = RX3 ∧ yX3_pins.cls ≠ "java/lang/invoke/MethodHandle" ∧ yX3_pins.cls ≠ "java/lang/invoke/VarHandle" ∧ (parseMethodDescriptor yX3_pins.desc).map (fun d => d.parameters.length) = some 1 := by decide +kernel
theorem hdX3_power : yX3_power.cls = RX3 ∧ yX3_power.cls ≠ "java/lang/invoke/MethodHandle" ∧ yX3_power.cls ≠ "java/lang/invoke/VarHandle" ∧ (parseMethodDescriptor yX3_power.desc).map (fun d => d.parameters.length) = some 1 := by decide +kernel
theorem hdX3_limit : yX3_limit.cls = RX3 ∧ yX3_limit.cls ≠ "java/lang/invoke/MethodHandle" ∧ yX3_limit.cls ≠ "java/lang/invoke/VarHandle" ∧ (parseMethodDescriptor yX3_limit.desc).map (fun d => d.parameters.length) = some 1 := by decide +kernel
theorem hdX3_leads : yX3_leads.cls = RX3 ∧ yX3_leads.cls ≠ "java/lang/invoke/MethodHandle" ∧ yX3_leads.cls ≠ "java/lang/invoke/VarHandle" ∧ (parseMethodDescriptor yX3_leads.desc).map (fun d => d.parameters.length) = some 1 := by decide +kernel
theorem hdX3_now : yX3_now.cls = RX3 ∧ yX3_now.cls ≠ "java/lang/invoke/MethodHandle" ∧ yX3_now.cls ≠ "java/lang/invoke/VarHandle" ∧ (parseMethodDescriptor yX3_now.desc).map (fun d => d.parameters.length) = some 1 := by decide +kernel
theorem hdX3_amps : yX3_amps.cls = RX3 ∧ yX3_amps.cls ≠ "java/lang/invoke/MethodHandle" ∧ yX3_amps.cls ≠ "java/lang/invoke/VarHandle" ∧ (parseMethodDescriptor yX3_amps.desc).map (fun d => d.parameters.length) = some 2 := by decide +kernel
theorem hdX3_would : yX3_would.cls = RX3 ∧ yX3_would.cls ≠ "java/lang/invoke/MethodHandle" ∧ yX3_would.cls ≠ "java/lang/invoke/VarHandle" ∧ (parseMethodDescriptor yX3_would.desc).map (fun d => d.parameters.length) = some 2 := by decide +kernel
theorem hdX3_pulse : yX3_pulse.cls = RX3 ∧ yX3_pulse.cls ≠ "java/lang/invoke/MethodHandle" ∧ yX3_pulse.cls ≠ "java/lang/invoke/VarHandle" ∧ (parseMethodDescriptor yX3_pulse.desc).map (fun d => d.parameters.length) = some 2 := by decide +kernel
theorem hdX3_rest : yX3_rest.cls = RX3 ∧ yX3_rest.cls ≠ "java/lang/invoke/MethodHandle" ∧ yX3_rest.cls ≠ "java/lang/invoke/VarHandle" ∧ (parseMethodDescriptor yX3_rest.desc).map (fun d => d.parameters.length) = some 1 := by decide +kernel
theorem hdX3_sweep : yX3_sweep.cls = RX3 ∧ yX3_sweep.cls ≠ "java/lang/invoke/MethodHandle" ∧ yX3_sweep.cls ≠ "java/lang/invoke/VarHandle" ∧ (parseMethodDescriptor yX3_sweep.desc).map (fun d => d.parameters.length) = some 6 := by decide +kernel
theorem hdX3_why : yX3_why.cls = RX3 ∧ yX3_why.cls ≠ "java/lang/invoke/MethodHandle" ∧ yX3_why.cls ≠ "java/lang/invoke/VarHandle" ∧ (parseMethodDescriptor yX3_why.desc).map (fun d => d.parameters.length) = some 2 := by decide +kernel
theorem hdX3_reading : yX3_reading.cls = RX3 ∧ yX3_reading.cls ≠ "java/lang/invoke/MethodHandle" ∧ yX3_reading.cls ≠ "java/lang/invoke/VarHandle" ∧ (parseMethodDescriptor yX3_reading.desc).map (fun d => d.parameters.length) = some 2 := by decide +kernel
theorem hdX3_clear : yX3_clear.cls = RX3 ∧ yX3_clear.cls ≠ "java/lang/invoke/MethodHandle" ∧ yX3_clear.cls ≠ "java/lang/invoke/VarHandle" ∧ (parseMethodDescriptor yX3_clear.desc).map (fun d => d.parameters.length) = some 0 := by decide +kernel
theorem hdX3_knee : yX3_knee.cls = RX3 ∧ yX3_knee.cls ≠ "java/lang/invoke/MethodHandle" ∧ yX3_knee.cls ≠ "java/lang/invoke/VarHandle" ∧ (parseMethodDescriptor yX3_knee.desc).map (fun d => d.parameters.length) = some 2 := by decide +kernel
theorem hdX3_fit : yX3_fit.cls = RX3 ∧ yX3_fit.cls ≠ "java/lang/invoke/MethodHandle" ∧ yX3_fit.cls ≠ "java/lang/invoke/VarHandle" ∧ (parseMethodDescriptor yX3_fit.desc).map (fun d => d.parameters.length) = some 3 := by decide +kernel
theorem hdX3_gap : yX3_gap.cls = RX3 ∧ yX3_gap.cls ≠ "java/lang/invoke/MethodHandle" ∧ yX3_gap.cls ≠ "java/lang/invoke/VarHandle" ∧ (parseMethodDescriptor yX3_gap.desc).map (fun d => d.parameters.length) = some 2 := by decide +kernel
theorem hdX3_many : yX3_many.cls = RX3 ∧ yX3_many.cls ≠ "java/lang/invoke/MethodHandle" ∧ yX3_many.cls ≠ "java/lang/invoke/VarHandle" ∧ (parseMethodDescriptor yX3_many.desc).map (fun d => d.parameters.length) = some 1 := by decide +kernel
theorem hdX3_within : yX3_within.cls ≠ "java/lang/invoke/MethodHandle" ∧ yX3_within.cls ≠ "java/lang/invoke/VarHandle" ∧ (parseMethodDescriptor yX3_within.desc).map (fun d => d.parameters.length) = some 3 := by decide +kernel
theorem hdX3_isVolts : yX3_isVolts.cls ≠ "java/lang/invoke/MethodHandle" ∧ yX3_isVolts.cls ≠ "java/lang/invoke/VarHandle" ∧ (parseMethodDescriptor yX3_isVolts.desc).map (fun d => d.parameters.length) = some 1 := by decide +kernel
theorem hdX3_partAt : yX3_partAt.cls = RX3 ∧ yX3_partAt.cls ≠ "java/lang/invoke/MethodHandle" ∧ yX3_partAt.cls ≠ "java/lang/invoke/VarHandle" ∧ (parseMethodDescriptor yX3_partAt.desc).map (fun d => d.parameters.length) = some 1 := by decide +kernel
theorem hdX3_wouldShort : yX3_wouldShort.cls = RX3 ∧ yX3_wouldShort.cls ≠ "java/lang/invoke/MethodHandle" ∧ yX3_wouldShort.cls ≠ "java/lang/invoke/VarHandle" ∧ (parseMethodDescriptor yX3_wouldShort.desc).map (fun d => d.parameters.length) = some 2 := by decide +kernel
theorem hdX3_highAndLowAtOnePinEach : yX3_highAndLowAtOnePinEach.cls = RX3 ∧ yX3_highAndLowAtOnePinEach.cls ≠ "java/lang/invoke/MethodHandle" ∧ yX3_highAndLowAtOnePinEach.cls ≠ "java/lang/invoke/VarHandle" ∧ (parseMethodDescriptor yX3_highAndLowAtOnePinEach.desc).map (fun d => d.parameters.length) = some 0 := by decide +kernel
theorem hdX3_inHand : yX3_inHand.cls = RX3 ∧ yX3_inHand.cls ≠ "java/lang/invoke/MethodHandle" ∧ yX3_inHand.cls ≠ "java/lang/invoke/VarHandle" ∧ (parseMethodDescriptor yX3_inHand.desc).map (fun d => d.parameters.length) = some 0 := by decide +kernel
theorem hdX3_joinsHighAndLow : yX3_joinsHighAndLow.cls = RX3 ∧ yX3_joinsHighAndLow.cls ≠ "java/lang/invoke/MethodHandle" ∧ yX3_joinsHighAndLow.cls ≠ "java/lang/invoke/VarHandle" ∧ (parseMethodDescriptor yX3_joinsHighAndLow.desc).map (fun d => d.parameters.length) = some 1 := by decide +kernel
theorem hdX3_fourWires : yX3_fourWires.cls = RX3 ∧ yX3_fourWires.cls ≠ "java/lang/invoke/MethodHandle" ∧ yX3_fourWires.cls ≠ "java/lang/invoke/VarHandle" ∧ (parseMethodDescriptor yX3_fourWires.desc).map (fun d => d.parameters.length) = some 0 := by decide +kernel
theorem hdX3_closedRelays : yX3_closedRelays.cls = RX3 ∧ yX3_closedRelays.cls ≠ "java/lang/invoke/MethodHandle" ∧ yX3_closedRelays.cls ≠ "java/lang/invoke/VarHandle" ∧ (parseMethodDescriptor yX3_closedRelays.desc).map (fun d => d.parameters.length) = some 0 := by decide +kernel
theorem hdX3_partsThere : yX3_partsThere.cls = RX3 ∧ yX3_partsThere.cls ≠ "java/lang/invoke/MethodHandle" ∧ yX3_partsThere.cls ≠ "java/lang/invoke/VarHandle" ∧ (parseMethodDescriptor yX3_partsThere.desc).map (fun d => d.parameters.length) = some 1 := by decide +kernel
theorem hdX3_owned : yX3_owned.cls = RX3 ∧ yX3_owned.cls ≠ "java/lang/invoke/MethodHandle" ∧ yX3_owned.cls ≠ "java/lang/invoke/VarHandle" ∧ (parseMethodDescriptor yX3_owned.desc).map (fun d => d.parameters.length) = some 2 := by decide +kernel
theorem hdX3_ampsAt : yX3_ampsAt.cls = RX3 ∧ yX3_ampsAt.cls ≠ "java/lang/invoke/MethodHandle" ∧ yX3_ampsAt.cls ≠ "java/lang/invoke/VarHandle" ∧ (parseMethodDescriptor yX3_ampsAt.desc).map (fun d => d.parameters.length) = some 2 := by decide +kernel
theorem hdX3_drop : yX3_drop.cls = RX3 ∧ yX3_drop.cls ≠ "java/lang/invoke/MethodHandle" ∧ yX3_drop.cls ≠ "java/lang/invoke/VarHandle" ∧ (parseMethodDescriptor yX3_drop.desc).map (fun d => d.parameters.length) = some 1 := by decide +kernel
theorem hdX3_aboveLimit : yX3_aboveLimit.cls = RX3 ∧ yX3_aboveLimit.cls ≠ "java/lang/invoke/MethodHandle" ∧ yX3_aboveLimit.cls ≠ "java/lang/invoke/VarHandle" ∧ (parseMethodDescriptor yX3_aboveLimit.desc).map (fun d => d.parameters.length) = some 2 := by decide +kernel
theorem hdX3_allowed : yX3_allowed.cls = RX3 ∧ yX3_allowed.cls ≠ "java/lang/invoke/MethodHandle" ∧ yX3_allowed.cls ≠ "java/lang/invoke/VarHandle" ∧ (parseMethodDescriptor yX3_allowed.desc).map (fun d => d.parameters.length) = some 3 := by decide +kernel
theorem hdX3_farthest : yX3_farthest.cls = RX3 ∧ yX3_farthest.cls ≠ "java/lang/invoke/MethodHandle" ∧ yX3_farthest.cls ≠ "java/lang/invoke/VarHandle" ∧ (parseMethodDescriptor yX3_farthest.desc).map (fun d => d.parameters.length) = some 2 := by decide +kernel
theorem hdX3_ruleAt : yX3_ruleAt.cls = RX3 ∧ yX3_ruleAt.cls ≠ "java/lang/invoke/MethodHandle" ∧ yX3_ruleAt.cls ≠ "java/lang/invoke/VarHandle" ∧ (parseMethodDescriptor yX3_ruleAt.desc).map (fun d => d.parameters.length) = some 3 := by decide +kernel
theorem hdX3_readPulse : yX3_readPulse.cls = RX3 ∧ yX3_readPulse.cls ≠ "java/lang/invoke/MethodHandle" ∧ yX3_readPulse.cls ≠ "java/lang/invoke/VarHandle" ∧ (parseMethodDescriptor yX3_readPulse.desc).map (fun d => d.parameters.length) = some 3 := by decide +kernel
theorem hdX3_tellBurnt : yX3_tellBurnt.cls = RX3 ∧ yX3_tellBurnt.cls ≠ "java/lang/invoke/MethodHandle" ∧ yX3_tellBurnt.cls ≠ "java/lang/invoke/VarHandle" ∧ (parseMethodDescriptor yX3_tellBurnt.desc).map (fun d => d.parameters.length) = some 2 := by decide +kernel
theorem hdX3_coolAll : yX3_coolAll.cls = RX3 ∧ yX3_coolAll.cls ≠ "java/lang/invoke/MethodHandle" ∧ yX3_coolAll.cls ≠ "java/lang/invoke/VarHandle" ∧ (parseMethodDescriptor yX3_coolAll.desc).map (fun d => d.parameters.length) = some 1 := by decide +kernel
theorem hdX4_within : yX4_within.cls ≠ "java/lang/invoke/MethodHandle" ∧ yX4_within.cls ≠ "java/lang/invoke/VarHandle" ∧ (parseMethodDescriptor yX4_within.desc).map (fun d => d.parameters.length) = some 3 := by decide +kernel
theorem hdX4_size : yX4_size.cls ≠ "java/lang/invoke/MethodHandle" ∧ yX4_size.cls ≠ "java/lang/invoke/VarHandle" ∧ (parseMethodDescriptor yX4_size.desc).map (fun d => d.parameters.length) = some 1 := by decide +kernel
theorem hdX4_cut : yX4_cut.cls ≠ "java/lang/invoke/MethodHandle" ∧ yX4_cut.cls ≠ "java/lang/invoke/VarHandle" ∧ (parseMethodDescriptor yX4_cut.desc).map (fun d => d.parameters.length) = some 2 := by decide +kernel
theorem hdX4_isPin : yX4_isPin.cls ≠ "java/lang/invoke/MethodHandle" ∧ yX4_isPin.cls ≠ "java/lang/invoke/VarHandle" ∧ (parseMethodDescriptor yX4_isPin.desc).map (fun d => d.parameters.length) = some 1 := by decide +kernel
theorem hdX4_isPart : yX4_isPart.cls = RX4 ∧ yX4_isPart.cls ≠ "java/lang/invoke/MethodHandle" ∧ yX4_isPart.cls ≠ "java/lang/invoke/VarHandle" ∧ (parseMethodDescriptor yX4_isPart.desc).map (fun d => d.parameters.length) = some 1 := by decide +kernel
theorem hdX4_number : yX4_number.cls = RX4 ∧ yX4_number.cls ≠ "java/lang/invoke/MethodHandle" ∧ yX4_number.cls ≠ "java/lang/invoke/VarHandle" ∧ (parseMethodDescriptor yX4_number.desc).map (fun d => d.parameters.length) = some 2 := by decide +kernel
theorem hdX4_part : yX4_part.cls = RX4 ∧ yX4_part.cls ≠ "java/lang/invoke/MethodHandle" ∧ yX4_part.cls ≠ "java/lang/invoke/VarHandle" ∧ (parseMethodDescriptor yX4_part.desc).map (fun d => d.parameters.length) = some 4 := by decide +kernel
theorem hdX4_remove : yX4_remove.cls = RX4 ∧ yX4_remove.cls ≠ "java/lang/invoke/MethodHandle" ∧ yX4_remove.cls ≠ "java/lang/invoke/VarHandle" ∧ (parseMethodDescriptor yX4_remove.desc).map (fun d => d.parameters.length) = some 1 := by decide +kernel
theorem hdX4_set : yX4_set.cls = RX4 ∧ yX4_set.cls ≠ "java/lang/invoke/MethodHandle" ∧ yX4_set.cls ≠ "java/lang/invoke/VarHandle" ∧ (parseMethodDescriptor yX4_set.desc).map (fun d => d.parameters.length) = some 3 := by decide +kernel
theorem hdX4_ofPart : yX4_ofPart.cls = RX4 ∧ yX4_ofPart.cls ≠ "java/lang/invoke/MethodHandle" ∧ yX4_ofPart.cls ≠ "java/lang/invoke/VarHandle" ∧ (parseMethodDescriptor yX4_ofPart.desc).map (fun d => d.parameters.length) = some 2 := by decide +kernel
theorem hdX4_isTerminal : yX4_isTerminal.cls ≠ "java/lang/invoke/MethodHandle" ∧ yX4_isTerminal.cls ≠ "java/lang/invoke/VarHandle" ∧ (parseMethodDescriptor yX4_isTerminal.desc).map (fun d => d.parameters.length) = some 1 := by decide +kernel
theorem hdX4_relay : yX4_relay.cls = RX4 ∧ yX4_relay.cls ≠ "java/lang/invoke/MethodHandle" ∧ yX4_relay.cls ≠ "java/lang/invoke/VarHandle" ∧ (parseMethodDescriptor yX4_relay.desc).map (fun d => d.parameters.length) = some 3 := by decide +kernel
theorem hdX4_pins : yX4_pins.cls = RX4 ∧ yX4_pins.cls ≠ "java/lang/invoke/MethodHandle" ∧ yX4_pins.cls ≠ "java/lang/invoke/VarHandle" ∧ (parseMethodDescriptor yX4_pins.desc).map (fun d => d.parameters.length) = some 1 := by decide +kernel
theorem hdX4_pinOf : yX4_pinOf.cls = RX4 ∧ yX4_pinOf.cls ≠ "java/lang/invoke/MethodHandle" ∧ yX4_pinOf.cls ≠ "java/lang/invoke/VarHandle" ∧ (parseMethodDescriptor yX4_pinOf.desc).map (fun d => d.parameters.length) = some 1 := by decide +kernel
theorem hdX4_inHand : yX4_inHand.cls = RX4 ∧ yX4_inHand.cls ≠ "java/lang/invoke/MethodHandle" ∧ yX4_inHand.cls ≠ "java/lang/invoke/VarHandle" ∧ (parseMethodDescriptor yX4_inHand.desc).map (fun d => d.parameters.length) = some 0 := by decide +kernel
theorem hdX4_isFourWires : yX4_isFourWires.cls = RX4 ∧ yX4_isFourWires.cls ≠ "java/lang/invoke/MethodHandle" ∧ yX4_isFourWires.cls ≠ "java/lang/invoke/VarHandle" ∧ (parseMethodDescriptor yX4_isFourWires.desc).map (fun d => d.parameters.length) = some 0 := by decide +kernel
theorem hdX4_power : yX4_power.cls = RX4 ∧ yX4_power.cls ≠ "java/lang/invoke/MethodHandle" ∧ yX4_power.cls ≠ "java/lang/invoke/VarHandle" ∧ (parseMethodDescriptor yX4_power.desc).map (fun d => d.parameters.length) = some 1 := by decide +kernel
theorem hdX4_limit : yX4_limit.cls = RX4 ∧ yX4_limit.cls ≠ "java/lang/invoke/MethodHandle" ∧ yX4_limit.cls ≠ "java/lang/invoke/VarHandle" ∧ (parseMethodDescriptor yX4_limit.desc).map (fun d => d.parameters.length) = some 1 := by decide +kernel
theorem hdX4_leads : yX4_leads.cls = RX4 ∧ yX4_leads.cls ≠ "java/lang/invoke/MethodHandle" ∧ yX4_leads.cls ≠ "java/lang/invoke/VarHandle" ∧ (parseMethodDescriptor yX4_leads.desc).map (fun d => d.parameters.length) = some 1 := by decide +kernel
theorem hdX4_now : yX4_now.cls = RX4 ∧ yX4_now.cls ≠ "java/lang/invoke/MethodHandle" ∧ yX4_now.cls ≠ "java/lang/invoke/VarHandle" ∧ (parseMethodDescriptor yX4_now.desc).map (fun d => d.parameters.length) = some 1 := by decide +kernel
theorem hdX4_cold : yX4_cold.cls = RX4 ∧ yX4_cold.cls ≠ "java/lang/invoke/MethodHandle" ∧ yX4_cold.cls ≠ "java/lang/invoke/VarHandle" ∧ (parseMethodDescriptor yX4_cold.desc).map (fun d => d.parameters.length) = some 2 := by decide +kernel
theorem hdX4_ownAmps : yX4_ownAmps.cls = RX4 ∧ yX4_ownAmps.cls ≠ "java/lang/invoke/MethodHandle" ∧ yX4_ownAmps.cls ≠ "java/lang/invoke/VarHandle" ∧ (parseMethodDescriptor yX4_ownAmps.desc).map (fun d => d.parameters.length) = some 2 := by decide +kernel
theorem hdX4_amps : yX4_amps.cls = RX4 ∧ yX4_amps.cls ≠ "java/lang/invoke/MethodHandle" ∧ yX4_amps.cls ≠ "java/lang/invoke/VarHandle" ∧ (parseMethodDescriptor yX4_amps.desc).map (fun d => d.parameters.length) = some 2 := by decide +kernel
theorem hdX4_isForward : yX4_isForward.cls = RX4 ∧ yX4_isForward.cls ≠ "java/lang/invoke/MethodHandle" ∧ yX4_isForward.cls ≠ "java/lang/invoke/VarHandle" ∧ (parseMethodDescriptor yX4_isForward.desc).map (fun d => d.parameters.length) = some 1 := by decide +kernel
theorem hdX4_ampsAt : yX4_ampsAt.cls = RX4 ∧ yX4_ampsAt.cls ≠ "java/lang/invoke/MethodHandle" ∧ yX4_ampsAt.cls ≠ "java/lang/invoke/VarHandle" ∧ (parseMethodDescriptor yX4_ampsAt.desc).map (fun d => d.parameters.length) = some 2 := by decide +kernel
theorem hdX4_dropBy : yX4_dropBy.cls = RX4 ∧ yX4_dropBy.cls ≠ "java/lang/invoke/MethodHandle" ∧ yX4_dropBy.cls ≠ "java/lang/invoke/VarHandle" ∧ (parseMethodDescriptor yX4_dropBy.desc).map (fun d => d.parameters.length) = some 1 := by decide +kernel
theorem hdX4_against : yX4_against.cls = RX4 ∧ yX4_against.cls ≠ "java/lang/invoke/MethodHandle" ∧ yX4_against.cls ≠ "java/lang/invoke/VarHandle" ∧ (parseMethodDescriptor yX4_against.desc).map (fun d => d.parameters.length) = some 3 := by decide +kernel
theorem hdX4_finds : yX4_finds.cls = RX4 ∧ yX4_finds.cls ≠ "java/lang/invoke/MethodHandle" ∧ yX4_finds.cls ≠ "java/lang/invoke/VarHandle" ∧ (parseMethodDescriptor yX4_finds.desc).map (fun d => d.parameters.length) = some 2 := by decide +kernel
theorem hdX4_would : yX4_would.cls = RX4 ∧ yX4_would.cls ≠ "java/lang/invoke/MethodHandle" ∧ yX4_would.cls ≠ "java/lang/invoke/VarHandle" ∧ (parseMethodDescriptor yX4_would.desc).map (fun d => d.parameters.length) = some 2 := by decide +kernel
theorem hdX4_cause : yX4_cause.cls = RX4 ∧ yX4_cause.cls ≠ "java/lang/invoke/MethodHandle" ∧ yX4_cause.cls ≠ "java/lang/invoke/VarHandle" ∧ (parseMethodDescriptor yX4_cause.desc).map (fun d => d.parameters.length) = some 2 := by decide +kernel
theorem hdX4_pulses : yX4_pulses.cls = RX4 ∧ yX4_pulses.cls ≠ "java/lang/invoke/MethodHandle" ∧ yX4_pulses.cls ≠ "java/lang/invoke/VarHandle" ∧ (parseMethodDescriptor yX4_pulses.desc).map (fun d => d.parameters.length) = some 2 := by decide +kernel
theorem hdX4_heats : yX4_heats.cls = RX4 ∧ yX4_heats.cls ≠ "java/lang/invoke/MethodHandle" ∧ yX4_heats.cls ≠ "java/lang/invoke/VarHandle" ∧ (parseMethodDescriptor yX4_heats.desc).map (fun d => d.parameters.length) = some 3 := by decide +kernel
theorem hdX4_pulse : yX4_pulse.cls = RX4 ∧ yX4_pulse.cls ≠ "java/lang/invoke/MethodHandle" ∧ yX4_pulse.cls ≠ "java/lang/invoke/VarHandle" ∧ (parseMethodDescriptor yX4_pulse.desc).map (fun d => d.parameters.length) = some 2 := by decide +kernel
theorem hdX4_rests : yX4_rests.cls = RX4 ∧ yX4_rests.cls ≠ "java/lang/invoke/MethodHandle" ∧ yX4_rests.cls ≠ "java/lang/invoke/VarHandle" ∧ (parseMethodDescriptor yX4_rests.desc).map (fun d => d.parameters.length) = some 1 := by decide +kernel
theorem hdX4_rest : yX4_rest.cls = RX4 ∧ yX4_rest.cls ≠ "java/lang/invoke/MethodHandle" ∧ yX4_rest.cls ≠ "java/lang/invoke/VarHandle" ∧ (parseMethodDescriptor yX4_rest.desc).map (fun d => d.parameters.length) = some 1 := by decide +kernel
theorem hdX4_isSweep : yX4_isSweep.cls ≠ "java/lang/invoke/MethodHandle" ∧ yX4_isSweep.cls ≠ "java/lang/invoke/VarHandle" ∧ (parseMethodDescriptor yX4_isSweep.desc).map (fun d => d.parameters.length) = some 6 := by decide +kernel
theorem hdX4_sweep : yX4_sweep.cls = RX4 ∧ yX4_sweep.cls ≠ "java/lang/invoke/MethodHandle" ∧ yX4_sweep.cls ≠ "java/lang/invoke/VarHandle" ∧ (parseMethodDescriptor yX4_sweep.desc).map (fun d => d.parameters.length) = some 6 := by decide +kernel
theorem hdX4_why : yX4_why.cls = RX4 ∧ yX4_why.cls ≠ "java/lang/invoke/MethodHandle" ∧ yX4_why.cls ≠ "java/lang/invoke/VarHandle" ∧ (parseMethodDescriptor yX4_why.desc).map (fun d => d.parameters.length) = some 2 := by decide +kernel
theorem hdX4_isReading : yX4_isReading.cls = RX4 ∧ yX4_isReading.cls ≠ "java/lang/invoke/MethodHandle" ∧ yX4_isReading.cls ≠ "java/lang/invoke/VarHandle" ∧ (parseMethodDescriptor yX4_isReading.desc).map (fun d => d.parameters.length) = some 1 := by decide +kernel
theorem hdX4_reading : yX4_reading.cls = RX4 ∧ yX4_reading.cls ≠ "java/lang/invoke/MethodHandle" ∧ yX4_reading.cls ≠ "java/lang/invoke/VarHandle" ∧ (parseMethodDescriptor yX4_reading.desc).map (fun d => d.parameters.length) = some 2 := by decide +kernel
theorem hdX4_clear : yX4_clear.cls = RX4 ∧ yX4_clear.cls ≠ "java/lang/invoke/MethodHandle" ∧ yX4_clear.cls ≠ "java/lang/invoke/VarHandle" ∧ (parseMethodDescriptor yX4_clear.desc).map (fun d => d.parameters.length) = some 0 := by decide +kernel
theorem hdX4_off : yX4_off.cls = RX4 ∧ yX4_off.cls ≠ "java/lang/invoke/MethodHandle" ∧ yX4_off.cls ≠ "java/lang/invoke/VarHandle" ∧ (parseMethodDescriptor yX4_off.desc).map (fun d => d.parameters.length) = some 3 := by decide +kernel
theorem hdX4_knee : yX4_knee.cls = RX4 ∧ yX4_knee.cls ≠ "java/lang/invoke/MethodHandle" ∧ yX4_knee.cls ≠ "java/lang/invoke/VarHandle" ∧ (parseMethodDescriptor yX4_knee.desc).map (fun d => d.parameters.length) = some 2 := by decide +kernel
theorem hdX4_fraction : yX4_fraction.cls ≠ "java/lang/invoke/MethodHandle" ∧ yX4_fraction.cls ≠ "java/lang/invoke/VarHandle" ∧ (parseMethodDescriptor yX4_fraction.desc).map (fun d => d.parameters.length) = some 3 := by decide +kernel
theorem hdX4_fit : yX4_fit.cls = RX4 ∧ yX4_fit.cls ≠ "java/lang/invoke/MethodHandle" ∧ yX4_fit.cls ≠ "java/lang/invoke/VarHandle" ∧ (parseMethodDescriptor yX4_fit.desc).map (fun d => d.parameters.length) = some 3 := by decide +kernel
theorem hdX4_gap : yX4_gap.cls = RX4 ∧ yX4_gap.cls ≠ "java/lang/invoke/MethodHandle" ∧ yX4_gap.cls ≠ "java/lang/invoke/VarHandle" ∧ (parseMethodDescriptor yX4_gap.desc).map (fun d => d.parameters.length) = some 2 := by decide +kernel
theorem hdX4_manyRule : yX4_manyRule.cls = RX4 ∧ yX4_manyRule.cls ≠ "java/lang/invoke/MethodHandle" ∧ yX4_manyRule.cls ≠ "java/lang/invoke/VarHandle" ∧ (parseMethodDescriptor yX4_manyRule.desc).map (fun d => d.parameters.length) = some 1 := by decide +kernel
theorem hdX4_many : yX4_many.cls = RX4 ∧ yX4_many.cls ≠ "java/lang/invoke/MethodHandle" ∧ yX4_many.cls ≠ "java/lang/invoke/VarHandle" ∧ (parseMethodDescriptor yX4_many.desc).map (fun d => d.parameters.length) = some 1 := by decide +kernel
theorem hdJ6_bitCount_0f7a4 : yJ6_bitCount_0f7a4.cls ≠ "java/lang/invoke/MethodHandle" ∧ yJ6_bitCount_0f7a4.cls ≠ "java/lang/invoke/VarHandle" ∧ (parseMethodDescriptor yJ6_bitCount_0f7a4.desc).map (fun d => d.parameters.length) = some 1 := by decide +kernel
theorem hdJ9_floorDiv_7cf53 : yJ9_floorDiv_7cf53.cls ≠ "java/lang/invoke/MethodHandle" ∧ yJ9_floorDiv_7cf53.cls ≠ "java/lang/invoke/VarHandle" ∧ (parseMethodDescriptor yJ9_floorDiv_7cf53.desc).map (fun d => d.parameters.length) = some 2 := by decide +kernel
set_option maxHeartbeats 4000000 in
set_option maxRecDepth 100000 in
theorem kJ9_floorDiv (l : Launch) (g : qG) {S : Type} {Wd : S → va_W} {A : Nat → Prop} (u : S) (x y : Int32) (hy : 0 < y.toInt) : qMi l yJ9_floorDiv_7cf53 wsJ9_floorDiv_7cf53 0 g Wd A u [.int x, .int y] (fdv x y) u := by
  refine qStart (cc := cJ9_floorDiv_7cf53) (maxL := 3) (ret := (some .int)) (by decide +kernel) rfl (Nat.le_of_ble_eq_true rfl) ?_
  intro p e s m args below meth c hx hb hml hown hts hr hlk hP hK ls hl
  have hl : lv_has ls 3 [(0, .int x), (1, .int y)] := hl
  have hS : va_S A s.heap s.heap [] := va_S.rf
  refine lv_iload_n hx hb dJ9_floorDiv_7cf53_0 rfl (lv_at hl 0 rfl) ?_
  refine lv_iload_n hx hb dJ9_floorDiv_7cf53_1 rfl (lv_at hl 1 rfl) ?_
  refine lv_idiv hx hb dJ9_floorDiv_7cf53_2 (fun h => by rw [h] at hy; exact absurd hy (by decide)) ?_
  refine lv_istore_n (lv' := [(2, .int (x / y)), (0, .int x), (1, .int y)]) hx hb dJ9_floorDiv_7cf53_3 rfl hl (by decide) rfl (fun ls hl => ?_)
  refine lv_iload_n hx hb dJ9_floorDiv_7cf53_4 rfl (lv_at hl 1 rfl) ?_
  refine lv_iload_n hx hb dJ9_floorDiv_7cf53_5 rfl (lv_at hl 2 rfl) ?_
  refine lv_ixor hx hb dJ9_floorDiv_7cf53_6 ?_
  refine lv_if_ge (tgt := 21) hx hb dJ9_floorDiv_7cf53_7 (by decide) (fun c_7 => ?_) (fun c_7 => ?_)
  · -- 7 taken
    have c_7n := i_le_t c_7
    refine lv_iload_n hx hb dJ9_floorDiv_7cf53_21 rfl (lv_at hl 0 rfl) ?_
    exact qRi hx hb hr hlk hP hK hS dJ9_floorDiv_7cf53_22 (by first | exact fdv_pos x y hy c_7 | exact fdv_eq x y hy c_14) rfl
  · -- 7 not taken
    have c_7n := i_le_f c_7
    refine lv_iload_n hx hb dJ9_floorDiv_7cf53_10 rfl (lv_at hl 0 rfl) ?_
    refine lv_iload_n hx hb dJ9_floorDiv_7cf53_11 rfl (lv_at hl 2 rfl) ?_
    refine lv_imul hx hb dJ9_floorDiv_7cf53_12 ?_
    refine lv_iload_n hx hb dJ9_floorDiv_7cf53_13 rfl (lv_at hl 1 rfl) ?_
    refine lv_icmp_eq (tgt := 21) hx hb dJ9_floorDiv_7cf53_14 (by decide) (fun c_14 => ?_) (fun c_14 => ?_)
    · -- 14 taken
      refine lv_iload_n hx hb dJ9_floorDiv_7cf53_21 rfl (lv_at hl 0 rfl) ?_
      exact qRi hx hb hr hlk hP hK hS dJ9_floorDiv_7cf53_22 (by first | exact fdv_pos x y hy c_7 | exact fdv_eq x y hy c_14) rfl
    · -- 14 not taken
      refine lv_iload_n hx hb dJ9_floorDiv_7cf53_17 rfl (lv_at hl 0 rfl) ?_
      refine lv_iconst (v := 1) hx hb dJ9_floorDiv_7cf53_18 rfl ?_
      refine lv_isub hx hb dJ9_floorDiv_7cf53_19 ?_
      exact qRi hx hb hr hlk hP hK hS dJ9_floorDiv_7cf53_20 (fdv_neg x y hy c_7 c_14) rfl
set_option maxHeartbeats 4000000 in
set_option maxRecDepth 100000 in
theorem kJ6_bitCount (l : Launch) (g : qG) {S : Type} {Wd : S → va_W} {A : Nat → Prop} (u : S) (x : Int32) : qMi l yJ6_bitCount_0f7a4 wsJ6_bitCount_0f7a4 0 g Wd A u [.int x] (bcF x) u := by
  refine qStart (cc := cJ6_bitCount_0f7a4) (maxL := 1) (ret := (some .int)) (plainFor_of_name (by decide)) rfl (Nat.le_of_ble_eq_true rfl) ?_
  intro p e s m args below meth c hx hb hml hown hts hr hlk hP hK ls hl
  have hl : lv_has ls 1 [(0, .int x)] := hl
  have hS : va_S A s.heap s.heap [] := va_S.rf
  refine lv_iload_n hx hb dJ6_bitCount_0f7a4_0 rfl (lv_at hl 0 rfl) ?_
  refine lv_iload_n hx hb dJ6_bitCount_0f7a4_1 rfl (lv_at hl 0 rfl) ?_
  refine lv_iconst (v := 1) hx hb dJ6_bitCount_0f7a4_2 rfl ?_
  refine lv_iushr (v := (x.toUInt32 >>> ((1 : Int32).toUInt32 &&& Int32.toUInt32 31)).toInt32) hx hb dJ6_bitCount_0f7a4_3 rfl ?_
  refine lv_ldcw (v := 1431655765) hx hb hown (hts (.constant RJ6 265 (1431655765)) (by decide +kernel)) dJ6_bitCount_0f7a4_4 ?_
  refine lv_iand hx hb dJ6_bitCount_0f7a4_7 ?_
  refine lv_isub hx hb dJ6_bitCount_0f7a4_8 ?_
  refine lv_istore_n (lv' := [(0, .int (x - (((x.toUInt32 >>> ((1 : Int32).toUInt32 &&& Int32.toUInt32 31)).toInt32) &&& 1431655765)))]) hx hb dJ6_bitCount_0f7a4_9 rfl hl (by decide) rfl (fun ls hl => ?_)
  refine lv_iload_n hx hb dJ6_bitCount_0f7a4_10 rfl (lv_at hl 0 rfl) ?_
  refine lv_ldcw (v := 858993459) hx hb hown (hts (.constant RJ6 266 (858993459)) (by decide +kernel)) dJ6_bitCount_0f7a4_11 ?_
  refine lv_iand hx hb dJ6_bitCount_0f7a4_14 ?_
  refine lv_iload_n hx hb dJ6_bitCount_0f7a4_15 rfl (lv_at hl 0 rfl) ?_
  refine lv_iconst (v := 2) hx hb dJ6_bitCount_0f7a4_16 rfl ?_
  refine lv_iushr (v := ((x - (((x.toUInt32 >>> ((1 : Int32).toUInt32 &&& Int32.toUInt32 31)).toInt32) &&& 1431655765)).toUInt32 >>> ((2 : Int32).toUInt32 &&& Int32.toUInt32 31)).toInt32) hx hb dJ6_bitCount_0f7a4_17 rfl ?_
  refine lv_ldcw (v := 858993459) hx hb hown (hts (.constant RJ6 266 (858993459)) (by decide +kernel)) dJ6_bitCount_0f7a4_18 ?_
  refine lv_iand hx hb dJ6_bitCount_0f7a4_21 ?_
  refine lv_iadd hx hb dJ6_bitCount_0f7a4_22 ?_
  refine lv_istore_n (lv' := [(0, .int (((x - (((x.toUInt32 >>> ((1 : Int32).toUInt32 &&& Int32.toUInt32 31)).toInt32) &&& 1431655765)) &&& 858993459) + ((((x - (((x.toUInt32 >>> ((1 : Int32).toUInt32 &&& Int32.toUInt32 31)).toInt32) &&& 1431655765)).toUInt32 >>> ((2 : Int32).toUInt32 &&& Int32.toUInt32 31)).toInt32) &&& 858993459)))]) hx hb dJ6_bitCount_0f7a4_23 rfl hl (by decide) rfl (fun ls hl => ?_)
  refine lv_iload_n hx hb dJ6_bitCount_0f7a4_24 rfl (lv_at hl 0 rfl) ?_
  refine lv_iload_n hx hb dJ6_bitCount_0f7a4_25 rfl (lv_at hl 0 rfl) ?_
  refine lv_iconst (v := 4) hx hb dJ6_bitCount_0f7a4_26 rfl ?_
  refine lv_iushr (v := ((((x - (((x.toUInt32 >>> ((1 : Int32).toUInt32 &&& Int32.toUInt32 31)).toInt32) &&& 1431655765)) &&& 858993459) + ((((x - (((x.toUInt32 >>> ((1 : Int32).toUInt32 &&& Int32.toUInt32 31)).toInt32) &&& 1431655765)).toUInt32 >>> ((2 : Int32).toUInt32 &&& Int32.toUInt32 31)).toInt32) &&& 858993459)).toUInt32 >>> ((4 : Int32).toUInt32 &&& Int32.toUInt32 31)).toInt32) hx hb dJ6_bitCount_0f7a4_27 rfl ?_
  refine lv_iadd hx hb dJ6_bitCount_0f7a4_28 ?_
  refine lv_ldcw (v := 252645135) hx hb hown (hts (.constant RJ6 267 (252645135)) (by decide +kernel)) dJ6_bitCount_0f7a4_29 ?_
  refine lv_iand hx hb dJ6_bitCount_0f7a4_32 ?_
  refine lv_istore_n (lv' := [(0, .int (((((x - (((x.toUInt32 >>> ((1 : Int32).toUInt32 &&& Int32.toUInt32 31)).toInt32) &&& 1431655765)) &&& 858993459) + ((((x - (((x.toUInt32 >>> ((1 : Int32).toUInt32 &&& Int32.toUInt32 31)).toInt32) &&& 1431655765)).toUInt32 >>> ((2 : Int32).toUInt32 &&& Int32.toUInt32 31)).toInt32) &&& 858993459)) + (((((x - (((x.toUInt32 >>> ((1 : Int32).toUInt32 &&& Int32.toUInt32 31)).toInt32) &&& 1431655765)) &&& 858993459) + ((((x - (((x.toUInt32 >>> ((1 : Int32).toUInt32 &&& Int32.toUInt32 31)).toInt32) &&& 1431655765)).toUInt32 >>> ((2 : Int32).toUInt32 &&& Int32.toUInt32 31)).toInt32) &&& 858993459)).toUInt32 >>> ((4 : Int32).toUInt32 &&& Int32.toUInt32 31)).toInt32)) &&& 252645135))]) hx hb dJ6_bitCount_0f7a4_33 rfl hl (by decide) rfl (fun ls hl => ?_)
  refine lv_iload_n hx hb dJ6_bitCount_0f7a4_34 rfl (lv_at hl 0 rfl) ?_
  refine lv_iload_n hx hb dJ6_bitCount_0f7a4_35 rfl (lv_at hl 0 rfl) ?_
  refine lv_bipush (v := 8) hx hb dJ6_bitCount_0f7a4_36 (by decide) ?_
  refine lv_iushr (v := ((((((x - (((x.toUInt32 >>> ((1 : Int32).toUInt32 &&& Int32.toUInt32 31)).toInt32) &&& 1431655765)) &&& 858993459) + ((((x - (((x.toUInt32 >>> ((1 : Int32).toUInt32 &&& Int32.toUInt32 31)).toInt32) &&& 1431655765)).toUInt32 >>> ((2 : Int32).toUInt32 &&& Int32.toUInt32 31)).toInt32) &&& 858993459)) + (((((x - (((x.toUInt32 >>> ((1 : Int32).toUInt32 &&& Int32.toUInt32 31)).toInt32) &&& 1431655765)) &&& 858993459) + ((((x - (((x.toUInt32 >>> ((1 : Int32).toUInt32 &&& Int32.toUInt32 31)).toInt32) &&& 1431655765)).toUInt32 >>> ((2 : Int32).toUInt32 &&& Int32.toUInt32 31)).toInt32) &&& 858993459)).toUInt32 >>> ((4 : Int32).toUInt32 &&& Int32.toUInt32 31)).toInt32)) &&& 252645135).toUInt32 >>> ((8 : Int32).toUInt32 &&& Int32.toUInt32 31)).toInt32) hx hb dJ6_bitCount_0f7a4_38 rfl ?_
  refine lv_iadd hx hb dJ6_bitCount_0f7a4_39 ?_
  refine lv_istore_n (lv' := [(0, .int ((((((x - (((x.toUInt32 >>> ((1 : Int32).toUInt32 &&& Int32.toUInt32 31)).toInt32) &&& 1431655765)) &&& 858993459) + ((((x - (((x.toUInt32 >>> ((1 : Int32).toUInt32 &&& Int32.toUInt32 31)).toInt32) &&& 1431655765)).toUInt32 >>> ((2 : Int32).toUInt32 &&& Int32.toUInt32 31)).toInt32) &&& 858993459)) + (((((x - (((x.toUInt32 >>> ((1 : Int32).toUInt32 &&& Int32.toUInt32 31)).toInt32) &&& 1431655765)) &&& 858993459) + ((((x - (((x.toUInt32 >>> ((1 : Int32).toUInt32 &&& Int32.toUInt32 31)).toInt32) &&& 1431655765)).toUInt32 >>> ((2 : Int32).toUInt32 &&& Int32.toUInt32 31)).toInt32) &&& 858993459)).toUInt32 >>> ((4 : Int32).toUInt32 &&& Int32.toUInt32 31)).toInt32)) &&& 252645135) + (((((((x - (((x.toUInt32 >>> ((1 : Int32).toUInt32 &&& Int32.toUInt32 31)).toInt32) &&& 1431655765)) &&& 858993459) + ((((x - (((x.toUInt32 >>> ((1 : Int32).toUInt32 &&& Int32.toUInt32 31)).toInt32) &&& 1431655765)).toUInt32 >>> ((2 : Int32).toUInt32 &&& Int32.toUInt32 31)).toInt32) &&& 858993459)) + (((((x - (((x.toUInt32 >>> ((1 : Int32).toUInt32 &&& Int32.toUInt32 31)).toInt32) &&& 1431655765)) &&& 858993459) + ((((x - (((x.toUInt32 >>> ((1 : Int32).toUInt32 &&& Int32.toUInt32 31)).toInt32) &&& 1431655765)).toUInt32 >>> ((2 : Int32).toUInt32 &&& Int32.toUInt32 31)).toInt32) &&& 858993459)).toUInt32 >>> ((4 : Int32).toUInt32 &&& Int32.toUInt32 31)).toInt32)) &&& 252645135).toUInt32 >>> ((8 : Int32).toUInt32 &&& Int32.toUInt32 31)).toInt32)))]) hx hb dJ6_bitCount_0f7a4_40 rfl hl (by decide) rfl (fun ls hl => ?_)
  refine lv_iload_n hx hb dJ6_bitCount_0f7a4_41 rfl (lv_at hl 0 rfl) ?_
  refine lv_iload_n hx hb dJ6_bitCount_0f7a4_42 rfl (lv_at hl 0 rfl) ?_
  refine lv_bipush (v := 16) hx hb dJ6_bitCount_0f7a4_43 (by decide) ?_
  refine lv_iushr (v := (((((((x - (((x.toUInt32 >>> ((1 : Int32).toUInt32 &&& Int32.toUInt32 31)).toInt32) &&& 1431655765)) &&& 858993459) + ((((x - (((x.toUInt32 >>> ((1 : Int32).toUInt32 &&& Int32.toUInt32 31)).toInt32) &&& 1431655765)).toUInt32 >>> ((2 : Int32).toUInt32 &&& Int32.toUInt32 31)).toInt32) &&& 858993459)) + (((((x - (((x.toUInt32 >>> ((1 : Int32).toUInt32 &&& Int32.toUInt32 31)).toInt32) &&& 1431655765)) &&& 858993459) + ((((x - (((x.toUInt32 >>> ((1 : Int32).toUInt32 &&& Int32.toUInt32 31)).toInt32) &&& 1431655765)).toUInt32 >>> ((2 : Int32).toUInt32 &&& Int32.toUInt32 31)).toInt32) &&& 858993459)).toUInt32 >>> ((4 : Int32).toUInt32 &&& Int32.toUInt32 31)).toInt32)) &&& 252645135) + (((((((x - (((x.toUInt32 >>> ((1 : Int32).toUInt32 &&& Int32.toUInt32 31)).toInt32) &&& 1431655765)) &&& 858993459) + ((((x - (((x.toUInt32 >>> ((1 : Int32).toUInt32 &&& Int32.toUInt32 31)).toInt32) &&& 1431655765)).toUInt32 >>> ((2 : Int32).toUInt32 &&& Int32.toUInt32 31)).toInt32) &&& 858993459)) + (((((x - (((x.toUInt32 >>> ((1 : Int32).toUInt32 &&& Int32.toUInt32 31)).toInt32) &&& 1431655765)) &&& 858993459) + ((((x - (((x.toUInt32 >>> ((1 : Int32).toUInt32 &&& Int32.toUInt32 31)).toInt32) &&& 1431655765)).toUInt32 >>> ((2 : Int32).toUInt32 &&& Int32.toUInt32 31)).toInt32) &&& 858993459)).toUInt32 >>> ((4 : Int32).toUInt32 &&& Int32.toUInt32 31)).toInt32)) &&& 252645135).toUInt32 >>> ((8 : Int32).toUInt32 &&& Int32.toUInt32 31)).toInt32)).toUInt32 >>> ((16 : Int32).toUInt32 &&& Int32.toUInt32 31)).toInt32) hx hb dJ6_bitCount_0f7a4_45 rfl ?_
  refine lv_iadd hx hb dJ6_bitCount_0f7a4_46 ?_
  refine lv_istore_n (lv' := [(0, .int (((((((x - (((x.toUInt32 >>> ((1 : Int32).toUInt32 &&& Int32.toUInt32 31)).toInt32) &&& 1431655765)) &&& 858993459) + ((((x - (((x.toUInt32 >>> ((1 : Int32).toUInt32 &&& Int32.toUInt32 31)).toInt32) &&& 1431655765)).toUInt32 >>> ((2 : Int32).toUInt32 &&& Int32.toUInt32 31)).toInt32) &&& 858993459)) + (((((x - (((x.toUInt32 >>> ((1 : Int32).toUInt32 &&& Int32.toUInt32 31)).toInt32) &&& 1431655765)) &&& 858993459) + ((((x - (((x.toUInt32 >>> ((1 : Int32).toUInt32 &&& Int32.toUInt32 31)).toInt32) &&& 1431655765)).toUInt32 >>> ((2 : Int32).toUInt32 &&& Int32.toUInt32 31)).toInt32) &&& 858993459)).toUInt32 >>> ((4 : Int32).toUInt32 &&& Int32.toUInt32 31)).toInt32)) &&& 252645135) + (((((((x - (((x.toUInt32 >>> ((1 : Int32).toUInt32 &&& Int32.toUInt32 31)).toInt32) &&& 1431655765)) &&& 858993459) + ((((x - (((x.toUInt32 >>> ((1 : Int32).toUInt32 &&& Int32.toUInt32 31)).toInt32) &&& 1431655765)).toUInt32 >>> ((2 : Int32).toUInt32 &&& Int32.toUInt32 31)).toInt32) &&& 858993459)) + (((((x - (((x.toUInt32 >>> ((1 : Int32).toUInt32 &&& Int32.toUInt32 31)).toInt32) &&& 1431655765)) &&& 858993459) + ((((x - (((x.toUInt32 >>> ((1 : Int32).toUInt32 &&& Int32.toUInt32 31)).toInt32) &&& 1431655765)).toUInt32 >>> ((2 : Int32).toUInt32 &&& Int32.toUInt32 31)).toInt32) &&& 858993459)).toUInt32 >>> ((4 : Int32).toUInt32 &&& Int32.toUInt32 31)).toInt32)) &&& 252645135).toUInt32 >>> ((8 : Int32).toUInt32 &&& Int32.toUInt32 31)).toInt32)) + ((((((((x - (((x.toUInt32 >>> ((1 : Int32).toUInt32 &&& Int32.toUInt32 31)).toInt32) &&& 1431655765)) &&& 858993459) + ((((x - (((x.toUInt32 >>> ((1 : Int32).toUInt32 &&& Int32.toUInt32 31)).toInt32) &&& 1431655765)).toUInt32 >>> ((2 : Int32).toUInt32 &&& Int32.toUInt32 31)).toInt32) &&& 858993459)) + (((((x - (((x.toUInt32 >>> ((1 : Int32).toUInt32 &&& Int32.toUInt32 31)).toInt32) &&& 1431655765)) &&& 858993459) + ((((x - (((x.toUInt32 >>> ((1 : Int32).toUInt32 &&& Int32.toUInt32 31)).toInt32) &&& 1431655765)).toUInt32 >>> ((2 : Int32).toUInt32 &&& Int32.toUInt32 31)).toInt32) &&& 858993459)).toUInt32 >>> ((4 : Int32).toUInt32 &&& Int32.toUInt32 31)).toInt32)) &&& 252645135) + (((((((x - (((x.toUInt32 >>> ((1 : Int32).toUInt32 &&& Int32.toUInt32 31)).toInt32) &&& 1431655765)) &&& 858993459) + ((((x - (((x.toUInt32 >>> ((1 : Int32).toUInt32 &&& Int32.toUInt32 31)).toInt32) &&& 1431655765)).toUInt32 >>> ((2 : Int32).toUInt32 &&& Int32.toUInt32 31)).toInt32) &&& 858993459)) + (((((x - (((x.toUInt32 >>> ((1 : Int32).toUInt32 &&& Int32.toUInt32 31)).toInt32) &&& 1431655765)) &&& 858993459) + ((((x - (((x.toUInt32 >>> ((1 : Int32).toUInt32 &&& Int32.toUInt32 31)).toInt32) &&& 1431655765)).toUInt32 >>> ((2 : Int32).toUInt32 &&& Int32.toUInt32 31)).toInt32) &&& 858993459)).toUInt32 >>> ((4 : Int32).toUInt32 &&& Int32.toUInt32 31)).toInt32)) &&& 252645135).toUInt32 >>> ((8 : Int32).toUInt32 &&& Int32.toUInt32 31)).toInt32)).toUInt32 >>> ((16 : Int32).toUInt32 &&& Int32.toUInt32 31)).toInt32)))]) hx hb dJ6_bitCount_0f7a4_47 rfl hl (by decide) rfl (fun ls hl => ?_)
  refine lv_iload_n hx hb dJ6_bitCount_0f7a4_48 rfl (lv_at hl 0 rfl) ?_
  refine lv_bipush (v := 63) hx hb dJ6_bitCount_0f7a4_49 (by decide) ?_
  refine lv_iand hx hb dJ6_bitCount_0f7a4_51 ?_
  exact qRi hx hb hr hlk hP hK hS dJ6_bitCount_0f7a4_52 rfl rfl
set_option maxHeartbeats 4000000 in
set_option maxRecDepth 100000 in
theorem kX3_within (l : Launch) (g : qG) {S : Type} {Wd : S → va_W} {A : Nat → Prop} (u : S) (v a b : Int32) : qMi l yX3_within wsX3_within 0 g Wd A u [.int v, .int a, .int b] (bI (inR v a b)) u := by
  refine qStart (cc := cX3_within) (maxL := 3) (ret := (some .boolean)) (plainFor_of_name (by decide)) rfl (Nat.le_of_ble_eq_true rfl) ?_
  intro p e s m args below meth c hx hb hml hown hts hr hlk hP hK ls hl
  have hl : lv_has ls 3 [(0, .int v), (1, .int a), (2, .int b)] := hl
  have hS : va_S A s.heap s.heap [] := va_S.rf
  refine lv_iload_n hx hb dX3_within_0 rfl (lv_at hl 0 rfl) ?_
  refine lv_iload_n hx hb dX3_within_1 rfl (lv_at hl 1 rfl) ?_
  refine lv_icmp_lt (tgt := 14) hx hb dX3_within_2 (by decide) (fun c_2 => ?_) (fun c_2 => ?_)
  · -- 2 taken
    have c_2n := i_lt_t c_2
    refine lv_iconst (v := 0) hx hb dX3_within_14 rfl ?_
    exact qRz hx hb hr hlk rfl hP hK hS dX3_within_15 (by first | rfl | simp [bI, inR, c_2, c_2n]) (by first | rfl | simp [bI, inR, c_2, c_2n])
  · -- 2 not taken
    have c_2n := i_lt_f c_2
    refine lv_iload_n hx hb dX3_within_5 rfl (lv_at hl 0 rfl) ?_
    refine lv_iload_n hx hb dX3_within_6 rfl (lv_at hl 2 rfl) ?_
    refine lv_icmp_gt (tgt := 14) hx hb dX3_within_7 (by decide) (fun c_7 => ?_) (fun c_7 => ?_)
    · -- 7 taken
      have c_7n := i_lt_t c_7
      refine lv_iconst (v := 0) hx hb dX3_within_14 rfl ?_
      exact qRz hx hb hr hlk rfl hP hK hS dX3_within_15 (by first | rfl | simp [bI, inR, c_2, c_2n, c_7, c_7n]) (by first | rfl | simp [bI, inR, c_2, c_2n, c_7, c_7n])
    · -- 7 not taken
      have c_7n := i_lt_f c_7
      refine lv_iconst (v := 1) hx hb dX3_within_10 rfl ?_
      refine lv_goto (tgt := 15) hx hb dX3_within_11 (by decide) ?_
      exact qRz hx hb hr hlk rfl hP hK hS dX3_within_15 (by first | rfl | simp [bI, inR, c_2, c_2n, c_7, c_7n]) (by first | rfl | simp [bI, inR, c_2, c_2n, c_7, c_7n])
set_option maxHeartbeats 4000000 in
set_option maxRecDepth 100000 in
theorem kX3_isVolts (l : Launch) (g : qG) {S : Type} {Wd : S → va_W} {A : Nat → Prop} (u : S) (v : Int32) : qMi l yX3_isVolts wsX3_isVolts 1 g Wd A u [.int v] (bI (inR v (-3000) 3000)) u := by
  refine qStart (cc := cX3_isVolts) (maxL := 1) (ret := (some .boolean)) (plainFor_of_name (by decide)) rfl (Nat.le_of_ble_eq_true rfl) ?_
  intro p e s m args below meth c hx hb hml hown hts hr hlk hP hK ls hl
  have hl : lv_has ls 1 [(0, .int v)] := hl
  have hS : va_S A s.heap s.heap [] := va_S.rf
  refine lv_iload_n hx hb dX3_isVolts_0 rfl (lv_at hl 0 rfl) ?_
  refine lv_sipush (v := -3000) hx hb dX3_isVolts_1 (by decide) ?_
  refine lv_sipush (v := 3000) hx hb dX3_isVolts_4 (by decide) ?_
  refine qSi (As := [.int v, .int (-3000), .int 3000]) (rest := []) hx hb hml hown hts (kX3_within l g (Wd := Wd) (A := A) u v (-3000) 3000) gX3_isVolts_X3_within rfl 3 hdX3_within rfl ⟨Nat.le_of_ble_eq_true rfl, Nat.le_of_ble_eq_true rfl⟩ ⟨Nat.zero_le _, Nat.zero_le _⟩ hK hP hS (fun _ h => h) hl.1 rfl (Nat.le_of_ble_eq_true rfl) dX3_isVolts_7 (fun H locs hP hS => ?_)
  exact qRz hx hb hr hlk (bI_nar _) hP hK hS dX3_isVolts_10 (by first | rfl | simp []) (by first | rfl | simp [])
theorem pOk_in {z : zS} {n : Int32} (h : pOk z n = true) : inR n 0 3 = true ∧ ¬ z (10 + ix n) 0 = 0 := by simpa [pOk] using h
theorem pOk_lt {z : zS} {n : Int32} (h : pOk z n = true) : ix n < 4 := Nat.lt_of_le_of_lt (inR_ix (n := 3) rfl (pOk_in h).1).1 (by decide)
theorem nI_v4 {i : Nat} (h : i < 4) : vp_in (nI i) 4 := vp_in_nI h (by decide)
theorem nI_e (i : Nat) (h : i < 2 ^ 31) : (nI i).toNatClampNeg = i := nI_clamp h
set_option maxHeartbeats 4000000 in
set_option maxRecDepth 100000 in
theorem kX3_partAt_t (l : Launch) (g : qG) {ad : Nat → Nat} (z : zS) (hj : adInj 15 ad) (n : Int32) (hp : pOk z n = true) : qMq l yX3_partAt wsX3_partAt 1 g (WX g ad) (adOf 15 ad) z [.ref (ad 0), .int n] (some (ad (10 + ix n))) z := by
  refine qStart (cc := cX3_partAt) (maxL := 2) (ret := (some (.object "PartCurves$Part"))) (plainFor_of_name (by decide)) rfl (Nat.le_of_ble_eq_true rfl) ?_
  intro p e s m args below meth c hx hb hml hown hts hr hlk hP hK ls hl
  have hl : lv_has ls 2 [(0, .ref (ad 0)), (1, .int n)] := hl
  have hS : va_S (adOf 15 ad) s.heap s.heap [] := va_S.rf
  have hin1 : ∀ w ∈ u_ws RX1 TX1 12, w ∈ wsX3_partAt := by decide +kernel
  have hin3 : ∀ w ∈ u_ws RX3 TX3 7, w ∈ wsX3_partAt := by decide +kernel
  refine lv_iload_n hx hb dX3_partAt_0 rfl (lv_at hl 1 rfl) ?_
  refine lv_iconst (v := 0) hx hb dX3_partAt_1 rfl ?_
  refine lv_iconst (v := 3) hx hb dX3_partAt_2 rfl ?_
  refine qSi (As := [.int n, .int 0, .int 3]) (rest := []) hx hb hml hown hts (kX3_within l g (Wd := (WX g ad)) (A := (adOf 15 ad)) z n 0 3) gX3_partAt_X3_within rfl 3 hdX3_within rfl ⟨Nat.le_of_ble_eq_true rfl, Nat.le_of_ble_eq_true rfl⟩ ⟨Nat.zero_le _, Nat.zero_le _⟩ hK hP hS (fun _ h => h) hl.1 rfl (Nat.le_of_ble_eq_true rfl) dX3_partAt_3 (fun H locs hP hS => ?_)
  refine lv_if_eq (tgt := 30) hx hb dX3_partAt_6 (by decide) (fun c_6 => ?_) (fun c_6 => ?_)
  · -- 6 taken
    have c_6 := bI_0 c_6
    exact absurd (pOk_in hp).1 (by rw [c_6]; decide)
  · -- 6 not taken
    have c_6 := bI_n c_6
    have hn4 : ix n < 4 := (Nat.lt_of_le_of_lt (inR_ix (n := 3) rfl c_6).1 (by decide))
    refine lv_aload_n hx hb dX3_partAt_9 rfl (lv_at hl 0 rfl) ?_
    refine qGet (ci := 3) (v := .ref (ad 8)) (C := RX3) (T := TX3) (N := 7) hx hb hts hin3 hown hK hP 0 rfl rfl 0 (by decide) (hts (.fieldLink RX3 13 "PartCurves" "parts" "[LPartCurves$Part;") (by decide +kernel)) rfl dX3_partAt_10 ?_
    refine lv_iload_n hx hb dX3_partAt_13 rfl (lv_at hl 1 rfl) ?_
    refine qQld (v := (ad (10 + ix n))) hx hb hK hP 8 rfl (inR_vp (n := 3) rfl c_6 4 (by decide)) rfl dX3_partAt_14 ?_
    refine qGet (ci := 1) (v := .int (z (10 + ix n) 0)) (C := RX1) (T := TX1) (N := 12) hx hb hts hin1 hown hK hP (10 + ix n) (WX_p g ad z hn4) rfl 0 (by decide) (hts (.fieldLink RX3 51 "PartCurves$Part" "there" "Z") (by decide +kernel)) rfl dX3_partAt_15 ?_
    refine lv_if_eq (tgt := 30) hx hb dX3_partAt_18 (by decide) (fun c_18 => ?_) (fun c_18 => ?_)
    · -- 18 taken
      exact absurd c_18 (pOk_in hp).2
    · -- 18 not taken
      refine lv_aload_n hx hb dX3_partAt_21 rfl (lv_at hl 0 rfl) ?_
      refine qGet (ci := 3) (v := .ref (ad 8)) (C := RX3) (T := TX3) (N := 7) hx hb hts hin3 hown hK hP 0 rfl rfl 0 (by decide) (hts (.fieldLink RX3 13 "PartCurves" "parts" "[LPartCurves$Part;") (by decide +kernel)) rfl dX3_partAt_22 ?_
      refine lv_iload_n hx hb dX3_partAt_25 rfl (lv_at hl 1 rfl) ?_
      refine qQld (v := (ad (10 + ix n))) hx hb hK hP 8 rfl (inR_vp (n := 3) rfl c_6 4 (by decide)) rfl dX3_partAt_26 ?_
      refine lv_goto (tgt := 31) hx hb dX3_partAt_27 (by decide) ?_
      exact qRq (v := (some (ad (10 + ix n)))) hx hb hr hlk hP hK hS dX3_partAt_31 rfl (by first | rfl | simp [c_6, c_18]) (by first | rfl | simp [c_6, c_18])
set_option maxHeartbeats 4000000 in
set_option maxRecDepth 100000 in
theorem kX3_partAt_f (l : Launch) (g : qG) {ad : Nat → Nat} (z : zS) (hj : adInj 15 ad) (n : Int32) (hp : ¬ pOk z n = true) : qMq l yX3_partAt wsX3_partAt 1 g (WX g ad) (adOf 15 ad) z [.ref (ad 0), .int n] none z := by
  refine qStart (cc := cX3_partAt) (maxL := 2) (ret := (some (.object "PartCurves$Part"))) (plainFor_of_name (by decide)) rfl (Nat.le_of_ble_eq_true rfl) ?_
  intro p e s m args below meth c hx hb hml hown hts hr hlk hP hK ls hl
  have hl : lv_has ls 2 [(0, .ref (ad 0)), (1, .int n)] := hl
  have hS : va_S (adOf 15 ad) s.heap s.heap [] := va_S.rf
  have hin1 : ∀ w ∈ u_ws RX1 TX1 12, w ∈ wsX3_partAt := by decide +kernel
  have hin3 : ∀ w ∈ u_ws RX3 TX3 7, w ∈ wsX3_partAt := by decide +kernel
  refine lv_iload_n hx hb dX3_partAt_0 rfl (lv_at hl 1 rfl) ?_
  refine lv_iconst (v := 0) hx hb dX3_partAt_1 rfl ?_
  refine lv_iconst (v := 3) hx hb dX3_partAt_2 rfl ?_
  refine qSi (As := [.int n, .int 0, .int 3]) (rest := []) hx hb hml hown hts (kX3_within l g (Wd := (WX g ad)) (A := (adOf 15 ad)) z n 0 3) gX3_partAt_X3_within rfl 3 hdX3_within rfl ⟨Nat.le_of_ble_eq_true rfl, Nat.le_of_ble_eq_true rfl⟩ ⟨Nat.zero_le _, Nat.zero_le _⟩ hK hP hS (fun _ h => h) hl.1 rfl (Nat.le_of_ble_eq_true rfl) dX3_partAt_3 (fun H locs hP hS => ?_)
  refine lv_if_eq (tgt := 30) hx hb dX3_partAt_6 (by decide) (fun c_6 => ?_) (fun c_6 => ?_)
  · -- 6 taken
    have c_6 := bI_0 c_6
    refine lv_null hx hb dX3_partAt_30 ?_
    exact qRq (v := none) hx hb hr hlk hP hK hS dX3_partAt_31 rfl (by first | rfl | simp [c_6]) (by first | rfl | simp [c_6])
  · -- 6 not taken
    have c_6 := bI_n c_6
    have hn4 : ix n < 4 := (Nat.lt_of_le_of_lt (inR_ix (n := 3) rfl c_6).1 (by decide))
    refine lv_aload_n hx hb dX3_partAt_9 rfl (lv_at hl 0 rfl) ?_
    refine qGet (ci := 3) (v := .ref (ad 8)) (C := RX3) (T := TX3) (N := 7) hx hb hts hin3 hown hK hP 0 rfl rfl 0 (by decide) (hts (.fieldLink RX3 13 "PartCurves" "parts" "[LPartCurves$Part;") (by decide +kernel)) rfl dX3_partAt_10 ?_
    refine lv_iload_n hx hb dX3_partAt_13 rfl (lv_at hl 1 rfl) ?_
    refine qQld (v := (ad (10 + ix n))) hx hb hK hP 8 rfl (inR_vp (n := 3) rfl c_6 4 (by decide)) rfl dX3_partAt_14 ?_
    refine qGet (ci := 1) (v := .int (z (10 + ix n) 0)) (C := RX1) (T := TX1) (N := 12) hx hb hts hin1 hown hK hP (10 + ix n) (WX_p g ad z hn4) rfl 0 (by decide) (hts (.fieldLink RX3 51 "PartCurves$Part" "there" "Z") (by decide +kernel)) rfl dX3_partAt_15 ?_
    refine lv_if_eq (tgt := 30) hx hb dX3_partAt_18 (by decide) (fun c_18 => ?_) (fun c_18 => ?_)
    · -- 18 taken
      refine lv_null hx hb dX3_partAt_30 ?_
      exact qRq (v := none) hx hb hr hlk hP hK hS dX3_partAt_31 rfl (by first | rfl | simp [c_6, c_18]) (by first | rfl | simp [c_6, c_18])
    · -- 18 not taken
      exact absurd (by simp [pOk, c_6, c_18]) hp
set_option maxHeartbeats 4000000 in
set_option maxRecDepth 100000 in
theorem kX3_highAndLowAtOnePinEach (l : Launch) (g : qG) {ad : Nat → Nat} (z : zS) (hj : adInj 15 ad) : qMi l yX3_highAndLowAtOnePinEach wsX3_highAndLowAtOnePinEach 1 g (WX g ad) (adOf 15 ad) z [.ref (ad 0)] (bI (hlB z)) z := by
  refine qStart (cc := cX3_highAndLowAtOnePinEach) (maxL := 1) (ret := (some .boolean)) (plainFor_of_name (by decide)) rfl (Nat.le_of_ble_eq_true rfl) ?_
  intro p e s m args below meth c hx hb hml hown hts hr hlk hP hK ls hl
  have hl : lv_has ls 1 [(0, .ref (ad 0))] := hl
  have hS : va_S (adOf 15 ad) s.heap s.heap [] := va_S.rf
  have hin3 : ∀ w ∈ u_ws RX3 TX3 7, w ∈ wsX3_highAndLowAtOnePinEach := by decide +kernel
  refine lv_aload_n hx hb dX3_highAndLowAtOnePinEach_0 rfl (lv_at hl 0 rfl) ?_
  refine qGet (ci := 3) (v := .ref (ad 1)) (C := RX3) (T := TX3) (N := 7) hx hb hts hin3 hown hK hP 0 rfl rfl 1 (by decide) (hts (.fieldLink RX3 17 "PartCurves" "pinSets" "[I") (by decide +kernel)) rfl dX3_highAndLowAtOnePinEach_1 ?_
  refine lv_iconst (v := 0) hx hb dX3_highAndLowAtOnePinEach_4 rfl ?_
  refine qIld (v := (z 1 0)) hx hb hK hP 1 rfl (vp_in_iff.mpr ⟨by decide, by decide⟩) rfl dX3_highAndLowAtOnePinEach_5 ?_
  refine qSi (As := [.int (z 1 0)]) (rest := []) hx hb hml hown hts (kJ6_bitCount l g (Wd := (WX g ad)) (A := (adOf 15 ad)) z (z 1 0)) gX3_highAndLowAtOnePinEach_J6_bitCount_0f7a4 rfl 1 hdJ6_bitCount_0f7a4 rfl ⟨Nat.le_of_ble_eq_true rfl, Nat.le_of_ble_eq_true rfl⟩ ⟨Nat.zero_le _, Nat.zero_le _⟩ hK hP hS (fun _ h => h) hl.1 rfl (Nat.le_of_ble_eq_true rfl) dX3_highAndLowAtOnePinEach_6 (fun H locs hP hS => ?_)
  refine lv_iconst (v := 1) hx hb dX3_highAndLowAtOnePinEach_9 rfl ?_
  refine lv_icmp_ne (tgt := 30) hx hb dX3_highAndLowAtOnePinEach_10 (by decide) (fun c_10 => ?_) (fun c_10 => ?_)
  · -- 10 taken
    refine lv_iconst (v := 0) hx hb dX3_highAndLowAtOnePinEach_30 rfl ?_
    exact qRz hx hb hr hlk rfl hP hK hS dX3_highAndLowAtOnePinEach_31 (by first | rfl | simp [bI, hlB, c_10]) (by first | rfl | simp [bI, hlB, c_10])
  · -- 10 not taken
    refine lv_aload_n hx hb dX3_highAndLowAtOnePinEach_13 rfl (lv_at hl 0 rfl) ?_
    refine qGet (ci := 3) (v := .ref (ad 1)) (C := RX3) (T := TX3) (N := 7) hx hb hts hin3 hown hK hP 0 rfl rfl 1 (by decide) (hts (.fieldLink RX3 17 "PartCurves" "pinSets" "[I") (by decide +kernel)) rfl dX3_highAndLowAtOnePinEach_14 ?_
    refine lv_iconst (v := 1) hx hb dX3_highAndLowAtOnePinEach_17 rfl ?_
    refine qIld (v := (z 1 1)) hx hb hK hP 1 rfl (vp_in_iff.mpr ⟨by decide, by decide⟩) rfl dX3_highAndLowAtOnePinEach_18 ?_
    refine qSi (As := [.int (z 1 1)]) (rest := []) hx hb hml hown hts (kJ6_bitCount l g (Wd := (WX g ad)) (A := (adOf 15 ad)) z (z 1 1)) gX3_highAndLowAtOnePinEach_J6_bitCount_0f7a4 rfl 1 hdJ6_bitCount_0f7a4 rfl ⟨Nat.le_of_ble_eq_true rfl, Nat.le_of_ble_eq_true rfl⟩ ⟨Nat.zero_le _, Nat.zero_le _⟩ hK hP hS (fun _ h => h) hl.1 rfl (Nat.le_of_ble_eq_true rfl) dX3_highAndLowAtOnePinEach_19 (fun H locs hP hS => ?_)
    refine lv_iconst (v := 1) hx hb dX3_highAndLowAtOnePinEach_22 rfl ?_
    refine lv_icmp_ne (tgt := 30) hx hb dX3_highAndLowAtOnePinEach_23 (by decide) (fun c_23 => ?_) (fun c_23 => ?_)
    · -- 23 taken
      refine lv_iconst (v := 0) hx hb dX3_highAndLowAtOnePinEach_30 rfl ?_
      exact qRz hx hb hr hlk rfl hP hK hS dX3_highAndLowAtOnePinEach_31 (by first | rfl | simp [bI, hlB, c_10, c_23]) (by first | rfl | simp [bI, hlB, c_10, c_23])
    · -- 23 not taken
      refine lv_iconst (v := 1) hx hb dX3_highAndLowAtOnePinEach_26 rfl ?_
      refine lv_goto (tgt := 31) hx hb dX3_highAndLowAtOnePinEach_27 (by decide) ?_
      exact qRz hx hb hr hlk rfl hP hK hS dX3_highAndLowAtOnePinEach_31 (by first | rfl | simp [bI, hlB, c_10, c_23]) (by first | rfl | simp [bI, hlB, c_10, c_23])
set_option maxHeartbeats 4000000 in
set_option maxRecDepth 100000 in
theorem kX3_fourWires (l : Launch) (g : qG) {ad : Nat → Nat} (z : zS) (hj : adInj 15 ad) : qMi l yX3_fourWires wsX3_fourWires 2 g (WX g ad) (adOf 15 ad) z [.ref (ad 0)] (bI (fourB z)) z := by
  refine qStart (cc := cX3_fourWires) (maxL := 1) (ret := (some .boolean)) (plainFor_of_name (by decide)) rfl (Nat.le_of_ble_eq_true rfl) ?_
  intro p e s m args below meth c hx hb hml hown hts hr hlk hP hK ls hl
  have hl : lv_has ls 1 [(0, .ref (ad 0))] := hl
  have hS : va_S (adOf 15 ad) s.heap s.heap [] := va_S.rf
  have hin3 : ∀ w ∈ u_ws RX3 TX3 7, w ∈ wsX3_fourWires := by decide +kernel
  refine lv_aload_n hx hb dX3_fourWires_0 rfl (lv_at hl 0 rfl) ?_
  refine qVi (As := []) (rest := []) hx hb hml hown hts (kX3_highAndLowAtOnePinEach l g z hj) gX3_fourWires_X3_highAndLowAtOnePinEach rfl 0 hdX3_highAndLowAtOnePinEach rfl ⟨Nat.le_of_ble_eq_true rfl, Nat.le_of_ble_eq_true rfl⟩ ⟨Nat.zero_le _, Nat.zero_le _⟩ hK hP hS (fun _ h => h) 0 3 rfl rfl rfl hl.1 rfl (Nat.le_of_ble_eq_true rfl) dX3_fourWires_1 (fun H locs hP hS => ?_)
  refine lv_if_eq (tgt := 41) hx hb dX3_fourWires_4 (by decide) (fun c_4 => ?_) (fun c_4 => ?_)
  · -- 4 taken
    have c_4 := bI_0 c_4
    refine lv_iconst (v := 0) hx hb dX3_fourWires_41 rfl ?_
    exact qRz hx hb hr hlk rfl hP hK hS dX3_fourWires_42 (by first | rfl | simp [bI, fourB, c_4]) (by first | rfl | simp [bI, fourB, c_4])
  · -- 4 not taken
    have c_4 := bI_n c_4
    refine lv_aload_n hx hb dX3_fourWires_7 rfl (lv_at hl 0 rfl) ?_
    refine qGet (ci := 3) (v := .ref (ad 1)) (C := RX3) (T := TX3) (N := 7) hx hb hts hin3 hown hK hP 0 rfl rfl 1 (by decide) (hts (.fieldLink RX3 17 "PartCurves" "pinSets" "[I") (by decide +kernel)) rfl dX3_fourWires_8 ?_
    refine lv_iconst (v := 2) hx hb dX3_fourWires_11 rfl ?_
    refine qIld (v := (z 1 2)) hx hb hK hP 1 rfl (vp_in_iff.mpr ⟨by decide, by decide⟩) rfl dX3_fourWires_12 ?_
    refine lv_aload_n hx hb dX3_fourWires_13 rfl (lv_at hl 0 rfl) ?_
    refine qGet (ci := 3) (v := .ref (ad 1)) (C := RX3) (T := TX3) (N := 7) hx hb hts hin3 hown hK hP 0 rfl rfl 1 (by decide) (hts (.fieldLink RX3 17 "PartCurves" "pinSets" "[I") (by decide +kernel)) rfl dX3_fourWires_14 ?_
    refine lv_iconst (v := 0) hx hb dX3_fourWires_17 rfl ?_
    refine qIld (v := (z 1 0)) hx hb hK hP 1 rfl (vp_in_iff.mpr ⟨by decide, by decide⟩) rfl dX3_fourWires_18 ?_
    refine lv_icmp_ne (tgt := 41) hx hb dX3_fourWires_19 (by decide) (fun c_19 => ?_) (fun c_19 => ?_)
    · -- 19 taken
      refine lv_iconst (v := 0) hx hb dX3_fourWires_41 rfl ?_
      exact qRz hx hb hr hlk rfl hP hK hS dX3_fourWires_42 (by first | rfl | simp [bI, fourB, c_4, c_19]) (by first | rfl | simp [bI, fourB, c_4, c_19])
    · -- 19 not taken
      refine lv_aload_n hx hb dX3_fourWires_22 rfl (lv_at hl 0 rfl) ?_
      refine qGet (ci := 3) (v := .ref (ad 1)) (C := RX3) (T := TX3) (N := 7) hx hb hts hin3 hown hK hP 0 rfl rfl 1 (by decide) (hts (.fieldLink RX3 17 "PartCurves" "pinSets" "[I") (by decide +kernel)) rfl dX3_fourWires_23 ?_
      refine lv_iconst (v := 3) hx hb dX3_fourWires_26 rfl ?_
      refine qIld (v := (z 1 3)) hx hb hK hP 1 rfl (vp_in_iff.mpr ⟨by decide, by decide⟩) rfl dX3_fourWires_27 ?_
      refine lv_aload_n hx hb dX3_fourWires_28 rfl (lv_at hl 0 rfl) ?_
      refine qGet (ci := 3) (v := .ref (ad 1)) (C := RX3) (T := TX3) (N := 7) hx hb hts hin3 hown hK hP 0 rfl rfl 1 (by decide) (hts (.fieldLink RX3 17 "PartCurves" "pinSets" "[I") (by decide +kernel)) rfl dX3_fourWires_29 ?_
      refine lv_iconst (v := 1) hx hb dX3_fourWires_32 rfl ?_
      refine qIld (v := (z 1 1)) hx hb hK hP 1 rfl (vp_in_iff.mpr ⟨by decide, by decide⟩) rfl dX3_fourWires_33 ?_
      refine lv_icmp_ne (tgt := 41) hx hb dX3_fourWires_34 (by decide) (fun c_34 => ?_) (fun c_34 => ?_)
      · -- 34 taken
        refine lv_iconst (v := 0) hx hb dX3_fourWires_41 rfl ?_
        exact qRz hx hb hr hlk rfl hP hK hS dX3_fourWires_42 (by first | rfl | simp [bI, fourB, c_4, c_19, c_34]) (by first | rfl | simp [bI, fourB, c_4, c_19, c_34])
      · -- 34 not taken
        refine lv_iconst (v := 1) hx hb dX3_fourWires_37 rfl ?_
        refine lv_goto (tgt := 42) hx hb dX3_fourWires_38 (by decide) ?_
        exact qRz hx hb hr hlk rfl hP hK hS dX3_fourWires_42 (by first | rfl | simp [bI, fourB, c_4, c_19, c_34]) (by first | rfl | simp [bI, fourB, c_4, c_19, c_34])
set_option maxHeartbeats 4000000 in
set_option maxRecDepth 100000 in
theorem kX3_wouldShort (l : Launch) (g : qG) {ad : Nat → Nat} (z : zS) (hj : adInj 15 ad) (t q : Int32) : qMi l yX3_wouldShort wsX3_wouldShort 0 g (WX g ad) (adOf 15 ad) z [.ref (ad 0), .int t, .int q] (bI (shortsB z t q)) z := by
  refine qStart (cc := cX3_wouldShort) (maxL := 3) (ret := (some .boolean)) (plainFor_of_name (by decide)) rfl (Nat.le_of_ble_eq_true rfl) ?_
  intro p e s m args below meth c hx hb hml hown hts hr hlk hP hK ls hl
  have hl : lv_has ls 3 [(0, .ref (ad 0)), (1, .int t), (2, .int q)] := hl
  have hS : va_S (adOf 15 ad) s.heap s.heap [] := va_S.rf
  have hin3 : ∀ w ∈ u_ws RX3 TX3 7, w ∈ wsX3_wouldShort := by decide +kernel
  refine lv_iload_n hx hb dX3_wouldShort_0 rfl (lv_at hl 1 rfl) ?_
  refine lv_if_ne (tgt := 15) hx hb dX3_wouldShort_1 (by decide) (fun c_1 => ?_) (fun c_1 => ?_)
  · -- 1 taken
    refine lv_iload_n hx hb dX3_wouldShort_15 rfl (lv_at hl 1 rfl) ?_
    refine lv_iconst (v := 1) hx hb dX3_wouldShort_16 rfl ?_
    refine lv_icmp_ne (tgt := 35) hx hb dX3_wouldShort_17 (by decide) (fun c_17 => ?_) (fun c_17 => ?_)
    · -- 17 taken
      refine lv_iconst (v := 0) hx hb dX3_wouldShort_35 rfl ?_
      exact qRz hx hb hr hlk rfl hP hK hS dX3_wouldShort_36 (by first | rfl | simp [bI, shortsB, c_1, c_17]) (by first | rfl | simp [bI, shortsB, c_1, c_17])
    · -- 17 not taken
      refine lv_aload_n hx hb dX3_wouldShort_20 rfl (lv_at hl 0 rfl) ?_
      refine qGet (ci := 3) (v := .ref (ad 1)) (C := RX3) (T := TX3) (N := 7) hx hb hts hin3 hown hK hP 0 rfl rfl 1 (by decide) (hts (.fieldLink RX3 17 "PartCurves" "pinSets" "[I") (by decide +kernel)) rfl dX3_wouldShort_21 ?_
      refine lv_iconst (v := 0) hx hb dX3_wouldShort_24 rfl ?_
      refine qIld (v := (z 1 0)) hx hb hK hP 1 rfl (vp_in_iff.mpr ⟨by decide, by decide⟩) rfl dX3_wouldShort_25 ?_
      refine lv_iload_n hx hb dX3_wouldShort_26 rfl (lv_at hl 2 rfl) ?_
      refine lv_iand hx hb dX3_wouldShort_27 ?_
      refine lv_if_eq (tgt := 35) hx hb dX3_wouldShort_28 (by decide) (fun c_28 => ?_) (fun c_28 => ?_)
      · -- 28 taken
        refine lv_iconst (v := 0) hx hb dX3_wouldShort_35 rfl ?_
        exact qRz hx hb hr hlk rfl hP hK hS dX3_wouldShort_36 (by first | rfl | simp [bI, shortsB, c_1, c_17, c_28]) (by first | rfl | simp [bI, shortsB, c_1, c_17, c_28])
      · -- 28 not taken
        refine lv_iconst (v := 1) hx hb dX3_wouldShort_31 rfl ?_
        refine lv_goto (tgt := 36) hx hb dX3_wouldShort_32 (by decide) ?_
        exact qRz hx hb hr hlk rfl hP hK hS dX3_wouldShort_36 (by first | rfl | simp [bI, shortsB, c_1, c_17, c_28]) (by first | rfl | simp [bI, shortsB, c_1, c_17, c_28])
  · -- 1 not taken
    refine lv_aload_n hx hb dX3_wouldShort_4 rfl (lv_at hl 0 rfl) ?_
    refine qGet (ci := 3) (v := .ref (ad 1)) (C := RX3) (T := TX3) (N := 7) hx hb hts hin3 hown hK hP 0 rfl rfl 1 (by decide) (hts (.fieldLink RX3 17 "PartCurves" "pinSets" "[I") (by decide +kernel)) rfl dX3_wouldShort_5 ?_
    refine lv_iconst (v := 1) hx hb dX3_wouldShort_8 rfl ?_
    refine qIld (v := (z 1 1)) hx hb hK hP 1 rfl (vp_in_iff.mpr ⟨by decide, by decide⟩) rfl dX3_wouldShort_9 ?_
    refine lv_iload_n hx hb dX3_wouldShort_10 rfl (lv_at hl 2 rfl) ?_
    refine lv_iand hx hb dX3_wouldShort_11 ?_
    refine lv_if_ne (tgt := 31) hx hb dX3_wouldShort_12 (by decide) (fun c_12 => ?_) (fun c_12 => ?_)
    · -- 12 taken
      refine lv_iconst (v := 1) hx hb dX3_wouldShort_31 rfl ?_
      refine lv_goto (tgt := 36) hx hb dX3_wouldShort_32 (by decide) ?_
      exact qRz hx hb hr hlk rfl hP hK hS dX3_wouldShort_36 (by first | rfl | simp [bI, shortsB, c_1, c_12]) (by first | rfl | simp [bI, shortsB, c_1, c_12])
    · -- 12 not taken
      refine lv_iload_n hx hb dX3_wouldShort_15 rfl (lv_at hl 1 rfl) ?_
      refine lv_iconst (v := 1) hx hb dX3_wouldShort_16 rfl ?_
      refine lv_icmp_ne (tgt := 35) hx hb dX3_wouldShort_17 (by decide) (fun c_17 => ?_) (fun c_17 => ?_)
      · -- 17 taken
        refine lv_iconst (v := 0) hx hb dX3_wouldShort_35 rfl ?_
        exact qRz hx hb hr hlk rfl hP hK hS dX3_wouldShort_36 (by first | rfl | simp [bI, shortsB, c_1, c_12, c_17]) (by first | rfl | simp [bI, shortsB, c_1, c_12, c_17])
      · -- 17 not taken
        exact absurd (c_1.symm.trans c_17) (by decide)
theorem jn_f {z : zS} {p : Nat} (h1 : ¬ (sh (z p 3) = z 1 0 ∧ sh (z p 4) = z 1 1)) (h2 : ¬ (sh (z p 3) = z 1 1 ∧ sh (z p 4) = z 1 0)) : 0 = bI (jnB z p) := by
  have e : jnB z p = false := by
    unfold jnB
    rw [Bool.or_eq_false_iff]
    exact ⟨by simpa using h1, by simpa using h2⟩
  rw [e]; rfl
theorem jn_t {z : zS} {p : Nat} (h : (sh (z p 3) = z 1 0 ∧ sh (z p 4) = z 1 1) ∨ (sh (z p 3) = z 1 1 ∧ sh (z p 4) = z 1 0)) : 1 = bI (jnB z p) := by
  have e : jnB z p = true := by unfold jnB; simpa using h
  rw [e]; rfl
set_option maxHeartbeats 4000000 in
set_option maxRecDepth 100000 in
theorem kX3_joinsHighAndLow (l : Launch) (g : qG) {ad : Nat → Nat} (z : zS) (hj : adInj 15 ad) {i : Nat} (hi : i < 4) : qMi l yX3_joinsHighAndLow wsX3_joinsHighAndLow 0 g (WX g ad) (adOf 15 ad) z [.ref (ad 0), .ref (ad (10 + i))] (bI (jnB z (10 + i))) z := by
  refine qStart (cc := cX3_joinsHighAndLow) (maxL := 4) (ret := (some .boolean)) (plainFor_of_name (by decide)) rfl (Nat.le_of_ble_eq_true rfl) ?_
  intro p e s m args below meth c hx hb hml hown hts hr hlk hP hK ls hl
  have hl : lv_has ls 4 [(0, .ref (ad 0)), (1, .ref (ad (10 + i)))] := hl
  have hS : va_S (adOf 15 ad) s.heap s.heap [] := va_S.rf
  have hin1 : ∀ w ∈ u_ws RX1 TX1 12, w ∈ wsX3_joinsHighAndLow := by decide +kernel
  have hin3 : ∀ w ∈ u_ws RX3 TX3 7, w ∈ wsX3_joinsHighAndLow := by decide +kernel
  refine lv_iconst (v := 1) hx hb dX3_joinsHighAndLow_0 rfl ?_
  refine lv_aload_n hx hb dX3_joinsHighAndLow_1 rfl (lv_at hl 1 rfl) ?_
  refine qGet (ci := 1) (v := .int (z (10 + i) 3)) (C := RX1) (T := TX1) (N := 12) hx hb hts hin1 hown hK hP (10 + i) (WX_p g ad z hi) rfl 3 (by decide) (hts (.fieldLink RX3 74 "PartCurves$Part" "first" "I") (by decide +kernel)) rfl dX3_joinsHighAndLow_2 ?_
  refine lv_ishl hx hb dX3_joinsHighAndLow_5 ?_
  refine lv_istore_n (lv' := [(2, .int (1 <<< ((z (10 + i) 3) &&& 31))), (0, .ref (ad 0)), (1, .ref (ad (10 + i)))]) hx hb dX3_joinsHighAndLow_6 rfl hl (by decide) rfl (fun ls hl => ?_)
  refine lv_iconst (v := 1) hx hb dX3_joinsHighAndLow_7 rfl ?_
  refine lv_aload_n hx hb dX3_joinsHighAndLow_8 rfl (lv_at hl 2 rfl) ?_
  refine qGet (ci := 1) (v := .int (z (10 + i) 4)) (C := RX1) (T := TX1) (N := 12) hx hb hts hin1 hown hK hP (10 + i) (WX_p g ad z hi) rfl 4 (by decide) (hts (.fieldLink RX3 77 "PartCurves$Part" "other" "I") (by decide +kernel)) rfl dX3_joinsHighAndLow_9 ?_
  refine lv_ishl hx hb dX3_joinsHighAndLow_12 ?_
  refine lv_istore_n (lv' := [(3, .int (1 <<< ((z (10 + i) 4) &&& 31))), (2, .int (1 <<< ((z (10 + i) 3) &&& 31))), (0, .ref (ad 0)), (1, .ref (ad (10 + i)))]) hx hb dX3_joinsHighAndLow_13 rfl hl (by decide) rfl (fun ls hl => ?_)
  refine lv_iload_n hx hb dX3_joinsHighAndLow_14 rfl (lv_at hl 1 rfl) ?_
  refine lv_aload_n hx hb dX3_joinsHighAndLow_15 rfl (lv_at hl 2 rfl) ?_
  refine qGet (ci := 3) (v := .ref (ad 1)) (C := RX3) (T := TX3) (N := 7) hx hb hts hin3 hown hK hP 0 rfl rfl 1 (by decide) (hts (.fieldLink RX3 17 "PartCurves" "pinSets" "[I") (by decide +kernel)) rfl dX3_joinsHighAndLow_16 ?_
  refine lv_iconst (v := 0) hx hb dX3_joinsHighAndLow_19 rfl ?_
  refine qIld (v := (z 1 0)) hx hb hK hP 1 rfl (vp_in_iff.mpr ⟨by decide, by decide⟩) rfl dX3_joinsHighAndLow_20 ?_
  refine lv_icmp_ne (tgt := 34) hx hb dX3_joinsHighAndLow_21 (by decide) (fun c_21 => ?_) (fun c_21 => ?_)
  · -- 21 taken
    refine lv_iload_n hx hb dX3_joinsHighAndLow_34 rfl (lv_at hl 1 rfl) ?_
    refine lv_aload_n hx hb dX3_joinsHighAndLow_35 rfl (lv_at hl 2 rfl) ?_
    refine qGet (ci := 3) (v := .ref (ad 1)) (C := RX3) (T := TX3) (N := 7) hx hb hts hin3 hown hK hP 0 rfl rfl 1 (by decide) (hts (.fieldLink RX3 17 "PartCurves" "pinSets" "[I") (by decide +kernel)) rfl dX3_joinsHighAndLow_36 ?_
    refine lv_iconst (v := 1) hx hb dX3_joinsHighAndLow_39 rfl ?_
    refine qIld (v := (z 1 1)) hx hb hK hP 1 rfl (vp_in_iff.mpr ⟨by decide, by decide⟩) rfl dX3_joinsHighAndLow_40 ?_
    refine lv_icmp_ne (tgt := 58) hx hb dX3_joinsHighAndLow_41 (by decide) (fun c_41 => ?_) (fun c_41 => ?_)
    · -- 41 taken
      refine lv_iconst (v := 0) hx hb dX3_joinsHighAndLow_58 rfl ?_
      exact qRz hx hb hr hlk rfl hP hK hS dX3_joinsHighAndLow_59 (jn_f (by first | exact fun h => c_21 h.1 | exact fun h => c_31 h.2) (by first | exact fun h => c_41 h.1 | exact fun h => c_51 h.2)) rfl
    · -- 41 not taken
      refine lv_iload_n hx hb dX3_joinsHighAndLow_44 rfl (lv_at hl 0 rfl) ?_
      refine lv_aload_n hx hb dX3_joinsHighAndLow_45 rfl (lv_at hl 2 rfl) ?_
      refine qGet (ci := 3) (v := .ref (ad 1)) (C := RX3) (T := TX3) (N := 7) hx hb hts hin3 hown hK hP 0 rfl rfl 1 (by decide) (hts (.fieldLink RX3 17 "PartCurves" "pinSets" "[I") (by decide +kernel)) rfl dX3_joinsHighAndLow_46 ?_
      refine lv_iconst (v := 0) hx hb dX3_joinsHighAndLow_49 rfl ?_
      refine qIld (v := (z 1 0)) hx hb hK hP 1 rfl (vp_in_iff.mpr ⟨by decide, by decide⟩) rfl dX3_joinsHighAndLow_50 ?_
      refine lv_icmp_ne (tgt := 58) hx hb dX3_joinsHighAndLow_51 (by decide) (fun c_51 => ?_) (fun c_51 => ?_)
      · -- 51 taken
        refine lv_iconst (v := 0) hx hb dX3_joinsHighAndLow_58 rfl ?_
        exact qRz hx hb hr hlk rfl hP hK hS dX3_joinsHighAndLow_59 (jn_f (by first | exact fun h => c_21 h.1 | exact fun h => c_31 h.2) (by first | exact fun h => c_41 h.1 | exact fun h => c_51 h.2)) rfl
      · -- 51 not taken
        refine lv_iconst (v := 1) hx hb dX3_joinsHighAndLow_54 rfl ?_
        refine lv_goto (tgt := 59) hx hb dX3_joinsHighAndLow_55 (by decide) ?_
        exact qRz hx hb hr hlk rfl hP hK hS dX3_joinsHighAndLow_59 (jn_t (by first | exact Or.inl ⟨c_21, c_31⟩ | exact Or.inr ⟨c_41, c_51⟩)) rfl
  · -- 21 not taken
    refine lv_iload_n hx hb dX3_joinsHighAndLow_24 rfl (lv_at hl 0 rfl) ?_
    refine lv_aload_n hx hb dX3_joinsHighAndLow_25 rfl (lv_at hl 2 rfl) ?_
    refine qGet (ci := 3) (v := .ref (ad 1)) (C := RX3) (T := TX3) (N := 7) hx hb hts hin3 hown hK hP 0 rfl rfl 1 (by decide) (hts (.fieldLink RX3 17 "PartCurves" "pinSets" "[I") (by decide +kernel)) rfl dX3_joinsHighAndLow_26 ?_
    refine lv_iconst (v := 1) hx hb dX3_joinsHighAndLow_29 rfl ?_
    refine qIld (v := (z 1 1)) hx hb hK hP 1 rfl (vp_in_iff.mpr ⟨by decide, by decide⟩) rfl dX3_joinsHighAndLow_30 ?_
    refine lv_icmp_eq (tgt := 54) hx hb dX3_joinsHighAndLow_31 (by decide) (fun c_31 => ?_) (fun c_31 => ?_)
    · -- 31 taken
      refine lv_iconst (v := 1) hx hb dX3_joinsHighAndLow_54 rfl ?_
      refine lv_goto (tgt := 59) hx hb dX3_joinsHighAndLow_55 (by decide) ?_
      exact qRz hx hb hr hlk rfl hP hK hS dX3_joinsHighAndLow_59 (jn_t (by first | exact Or.inl ⟨c_21, c_31⟩ | exact Or.inr ⟨c_41, c_51⟩)) rfl
    · -- 31 not taken
      refine lv_iload_n hx hb dX3_joinsHighAndLow_34 rfl (lv_at hl 1 rfl) ?_
      refine lv_aload_n hx hb dX3_joinsHighAndLow_35 rfl (lv_at hl 2 rfl) ?_
      refine qGet (ci := 3) (v := .ref (ad 1)) (C := RX3) (T := TX3) (N := 7) hx hb hts hin3 hown hK hP 0 rfl rfl 1 (by decide) (hts (.fieldLink RX3 17 "PartCurves" "pinSets" "[I") (by decide +kernel)) rfl dX3_joinsHighAndLow_36 ?_
      refine lv_iconst (v := 1) hx hb dX3_joinsHighAndLow_39 rfl ?_
      refine qIld (v := (z 1 1)) hx hb hK hP 1 rfl (vp_in_iff.mpr ⟨by decide, by decide⟩) rfl dX3_joinsHighAndLow_40 ?_
      refine lv_icmp_ne (tgt := 58) hx hb dX3_joinsHighAndLow_41 (by decide) (fun c_41 => ?_) (fun c_41 => ?_)
      · -- 41 taken
        refine lv_iconst (v := 0) hx hb dX3_joinsHighAndLow_58 rfl ?_
        exact qRz hx hb hr hlk rfl hP hK hS dX3_joinsHighAndLow_59 (jn_f (by first | exact fun h => c_21 h.1 | exact fun h => c_31 h.2) (by first | exact fun h => c_41 h.1 | exact fun h => c_51 h.2)) rfl
      · -- 41 not taken
        refine lv_iload_n hx hb dX3_joinsHighAndLow_44 rfl (lv_at hl 0 rfl) ?_
        refine lv_aload_n hx hb dX3_joinsHighAndLow_45 rfl (lv_at hl 2 rfl) ?_
        refine qGet (ci := 3) (v := .ref (ad 1)) (C := RX3) (T := TX3) (N := 7) hx hb hts hin3 hown hK hP 0 rfl rfl 1 (by decide) (hts (.fieldLink RX3 17 "PartCurves" "pinSets" "[I") (by decide +kernel)) rfl dX3_joinsHighAndLow_46 ?_
        refine lv_iconst (v := 0) hx hb dX3_joinsHighAndLow_49 rfl ?_
        refine qIld (v := (z 1 0)) hx hb hK hP 1 rfl (vp_in_iff.mpr ⟨by decide, by decide⟩) rfl dX3_joinsHighAndLow_50 ?_
        refine lv_icmp_ne (tgt := 58) hx hb dX3_joinsHighAndLow_51 (by decide) (fun c_51 => ?_) (fun c_51 => ?_)
        · -- 51 taken
          refine lv_iconst (v := 0) hx hb dX3_joinsHighAndLow_58 rfl ?_
          exact qRz hx hb hr hlk rfl hP hK hS dX3_joinsHighAndLow_59 (jn_f (by first | exact fun h => c_21 h.1 | exact fun h => c_31 h.2) (by first | exact fun h => c_41 h.1 | exact fun h => c_51 h.2)) rfl
        · -- 51 not taken
          refine lv_iconst (v := 1) hx hb dX3_joinsHighAndLow_54 rfl ?_
          refine lv_goto (tgt := 59) hx hb dX3_joinsHighAndLow_55 (by decide) ?_
          exact qRz hx hb hr hlk rfl hP hK hS dX3_joinsHighAndLow_59 (jn_t (by first | exact Or.inl ⟨c_21, c_31⟩ | exact Or.inr ⟨c_41, c_51⟩)) rfl
end
section
theorem pos_of_le {x : Int32} (h : 1 ≤ x) : 0 < x.toInt := by have := Int32.le_iff_toInt_le.mp h; have e : (1 : Int32).toInt = 1 := rfl; omega
theorem zu_zu (z : zS) (i j : Nat) (v w : Int32) : zu (zu z i j v) i j w = zu z i j w := by
  funext a b; simp only [zu]; by_cases h : a = i <;> by_cases h2 : b = j <;> simp [h, h2]
theorem zu_self (z : zS) (i j : Nat) : zu z i j (z i j) = z := by
  funext a b; simp only [zu]; by_cases h : a = i
  · by_cases h2 : b = j
    · rw [if_pos h, if_pos h2, h, h2]
    · rw [if_pos h, if_neg h2]
  · rw [if_neg h]
theorem num4 {w : Int32} (h : inR w 0 4 = true) (h0 : ¬ w = 0) (h1 : ¬ w = 1) (h2 : ¬ w = 2) (h3 : ¬ w = 3) : ix w = 4 := by
  obtain ⟨a, b, c⟩ := inR_ix (n := 4) rfl h
  have g0 := ne_toInt h0 (k := 0) rfl
  have g1 := ne_toInt h1 (k := 1) rfl
  have g2 := ne_toInt h2 (k := 2) rfl
  have g3 := ne_toInt h3 (k := 3) rfl
  omega
theorem lt3 {a b : Int32} (h : ¬ b ≤ a) : a < b := by
  rw [Int32.lt_iff_toInt_lt]; rw [Int32.le_iff_toInt_le] at h; omega
theorem nlt3 {a b : Int32} (h : b ≤ a) : ¬ a < b := by
  rw [Int32.lt_iff_toInt_lt]; rw [Int32.le_iff_toInt_le] at h; omega
set_option maxHeartbeats 4000000 in
set_option maxRecDepth 100000 in
theorem kX1_coldAmps (l : Launch) (g : qG) {ad : Nat → Nat} (z : zS) (hj : adInj 15 ad) {i : Nat} (hi : i < 4) (v : Int32) : qMi l yX1_coldAmps wsX1_coldAmps 1 g (WX g ad) (adOf 15 ad) z [.ref (ad (10 + i)), .int v] (coldF (z (10 + i)) v) z := by
  refine qStart (cc := cX1_coldAmps) (maxL := 3) (ret := (some .int)) (plainFor_of_name (by decide)) rfl (Nat.le_of_ble_eq_true rfl) ?_
  intro p e s m args below meth c hx hb hml hown hts hr hlk hP hK ls hl
  have hl : lv_has ls 3 [(0, .ref (ad (10 + i))), (1, .int v)] := hl
  have hS : va_S (adOf 15 ad) s.heap s.heap [] := va_S.rf
  have hin1 : ∀ w ∈ u_ws RX1 TX1 12, w ∈ wsX1_coldAmps := by decide +kernel
  refine lv_aload_n hx hb dX1_coldAmps_0 rfl (lv_at hl 0 rfl) ?_
  refine qGet (ci := 1) (v := .int (z (10 + i) 5)) (C := RX1) (T := TX1) (N := 12) hx hb hts hin1 hown hK hP (10 + i) (WX_p g ad z hi) rfl 5 (by decide) (hts (.fieldLink RX1 33 "PartCurves$Part" "kind" "I") (by decide +kernel)) rfl dX1_coldAmps_1 ?_
  refine lv_if_eq (tgt := 22) hx hb dX1_coldAmps_4 (by decide) (fun c_4 => ?_) (fun c_4 => ?_)
  · -- 4 taken
    refine lv_iload_n hx hb dX1_coldAmps_22 rfl (lv_at hl 1 rfl) ?_
    refine lv_aload_n hx hb dX1_coldAmps_23 rfl (lv_at hl 0 rfl) ?_
    refine qGet (ci := 1) (v := .int (z (10 + i) 7)) (C := RX1) (T := TX1) (N := 12) hx hb hts hin1 hown hK hP (10 + i) (WX_p g ad z hi) rfl 7 (by decide) (hts (.fieldLink RX1 39 "PartCurves$Part" "g" "I") (by decide +kernel)) rfl dX1_coldAmps_24 ?_
    refine lv_imul hx hb dX1_coldAmps_27 ?_
    refine lv_sipush (v := 1000) hx hb dX1_coldAmps_28 (by decide) ?_
    refine qSi (As := [.int (v * (z (10 + i) 7)), .int 1000]) (rest := []) hx hb hml hown hts (kJ9_floorDiv l g (Wd := (WX g ad)) (A := (adOf 15 ad)) z (v * (z (10 + i) 7)) 1000 (by decide)) gX1_coldAmps_J9_floorDiv_7cf53 rfl 2 hdJ9_floorDiv_7cf53 rfl ⟨Nat.le_of_ble_eq_true rfl, Nat.le_of_ble_eq_true rfl⟩ ⟨Nat.zero_le _, Nat.zero_le _⟩ hK hP hS (fun _ h => h) hl.1 rfl (Nat.le_of_ble_eq_true rfl) dX1_coldAmps_31 (fun H locs hP hS => ?_)
    exact qRi hx hb hr hlk hP hK hS dX1_coldAmps_34 (by first | rfl | simp [coldF, c_4]) (by first | rfl | simp [coldF, c_4])
  · -- 4 not taken
    refine lv_aload_n hx hb dX1_coldAmps_7 rfl (lv_at hl 0 rfl) ?_
    refine qGet (ci := 1) (v := .int (z (10 + i) 5)) (C := RX1) (T := TX1) (N := 12) hx hb hts hin1 hown hK hP (10 + i) (WX_p g ad z hi) rfl 5 (by decide) (hts (.fieldLink RX1 33 "PartCurves$Part" "kind" "I") (by decide +kernel)) rfl dX1_coldAmps_8 ?_
    refine lv_iconst (v := 3) hx hb dX1_coldAmps_11 rfl ?_
    refine lv_icmp_ne (tgt := 35) hx hb dX1_coldAmps_12 (by decide) (fun c_12 => ?_) (fun c_12 => ?_)
    · -- 12 taken
      refine lv_iload_n hx hb dX1_coldAmps_35 rfl (lv_at hl 1 rfl) ?_
      refine lv_aload_n hx hb dX1_coldAmps_36 rfl (lv_at hl 0 rfl) ?_
      refine qGet (ci := 1) (v := .int (z (10 + i) 9)) (C := RX1) (T := TX1) (N := 12) hx hb hts hin1 hown hK hP (10 + i) (WX_p g ad z hi) rfl 9 (by decide) (hts (.fieldLink RX1 45 "PartCurves$Part" "h" "I") (by decide +kernel)) rfl dX1_coldAmps_37 ?_
      refine lv_imul hx hb dX1_coldAmps_40 ?_
      refine lv_sipush (v := 1000) hx hb dX1_coldAmps_41 (by decide) ?_
      refine qSi (As := [.int (v * (z (10 + i) 9)), .int 1000]) (rest := []) hx hb hml hown hts (kJ9_floorDiv l g (Wd := (WX g ad)) (A := (adOf 15 ad)) z (v * (z (10 + i) 9)) 1000 (by decide)) gX1_coldAmps_J9_floorDiv_7cf53 rfl 2 hdJ9_floorDiv_7cf53 rfl ⟨Nat.le_of_ble_eq_true rfl, Nat.le_of_ble_eq_true rfl⟩ ⟨Nat.zero_le _, Nat.zero_le _⟩ hK hP hS (fun _ h => h) hl.1 rfl (Nat.le_of_ble_eq_true rfl) dX1_coldAmps_44 (fun H locs hP hS => ?_)
      refine lv_istore_n (lv' := [(2, .int (fdv (v * (z (10 + i) 9)) 1000)), (0, .ref (ad (10 + i))), (1, .int v)]) hx hb dX1_coldAmps_47 rfl hl (by decide) rfl (fun ls hl => ?_)
      refine lv_iload_n hx hb dX1_coldAmps_48 rfl (lv_at hl 2 rfl) ?_
      refine lv_aload_n hx hb dX1_coldAmps_49 rfl (lv_at hl 1 rfl) ?_
      refine qGet (ci := 1) (v := .int (z (10 + i) 8)) (C := RX1) (T := TX1) (N := 12) hx hb hts hin1 hown hK hP (10 + i) (WX_p g ad z hi) rfl 8 (by decide) (hts (.fieldLink RX1 42 "PartCurves$Part" "k" "I") (by decide +kernel)) rfl dX1_coldAmps_50 ?_
      refine lv_icmp_le (tgt := 84) hx hb dX1_coldAmps_53 (by decide) (fun c_53 => ?_) (fun c_53 => ?_)
      · -- 53 taken
        have c_53n := i_le_t c_53
        refine lv_iload_n hx hb dX1_coldAmps_84 rfl (lv_at hl 2 rfl) ?_
        refine lv_aload_n hx hb dX1_coldAmps_85 rfl (lv_at hl 1 rfl) ?_
        refine qGet (ci := 1) (v := .int (z (10 + i) 8)) (C := RX1) (T := TX1) (N := 12) hx hb hts hin1 hown hK hP (10 + i) (WX_p g ad z hi) rfl 8 (by decide) (hts (.fieldLink RX1 42 "PartCurves$Part" "k" "I") (by decide +kernel)) rfl dX1_coldAmps_86 ?_
        refine lv_ineg hx hb dX1_coldAmps_89 ?_
        refine lv_icmp_ge (tgt := 121) hx hb dX1_coldAmps_90 (by decide) (fun c_90 => ?_) (fun c_90 => ?_)
        · -- 90 taken
          have c_90n := i_le_t c_90
          refine lv_iload_n hx hb dX1_coldAmps_121 rfl (lv_at hl 0 rfl) ?_
          exact qRi hx hb hr hlk hP hK hS dX1_coldAmps_122 (by first | rfl | simp [coldF, c_4, c_12, c_53, c_53n, c_90, c_90n]) (by first | rfl | simp [coldF, c_4, c_12, c_53, c_53n, c_90, c_90n])
        · -- 90 not taken
          have c_90n := i_le_f c_90
          refine lv_aload_n hx hb dX1_coldAmps_93 rfl (lv_at hl 1 rfl) ?_
          refine qGet (ci := 1) (v := .int (z (10 + i) 5)) (C := RX1) (T := TX1) (N := 12) hx hb hts hin1 hown hK hP (10 + i) (WX_p g ad z hi) rfl 5 (by decide) (hts (.fieldLink RX1 33 "PartCurves$Part" "kind" "I") (by decide +kernel)) rfl dX1_coldAmps_94 ?_
          refine lv_iconst (v := 2) hx hb dX1_coldAmps_97 rfl ?_
          refine lv_icmp_ne (tgt := 121) hx hb dX1_coldAmps_98 (by decide) (fun c_98 => ?_) (fun c_98 => ?_)
          · -- 98 taken
            refine lv_iload_n hx hb dX1_coldAmps_121 rfl (lv_at hl 0 rfl) ?_
            exact qRi hx hb hr hlk hP hK hS dX1_coldAmps_122 (by first | rfl | simp [coldF, c_4, c_12, c_53, c_53n, c_90, c_90n, c_98]) (by first | rfl | simp [coldF, c_4, c_12, c_53, c_53n, c_90, c_90n, c_98])
          · -- 98 not taken
            refine lv_iload_n hx hb dX1_coldAmps_101 rfl (lv_at hl 0 rfl) ?_
            refine lv_iload_n hx hb dX1_coldAmps_102 rfl (lv_at hl 2 rfl) ?_
            refine lv_aload_n hx hb dX1_coldAmps_103 rfl (lv_at hl 1 rfl) ?_
            refine qGet (ci := 1) (v := .int (z (10 + i) 8)) (C := RX1) (T := TX1) (N := 12) hx hb hts hin1 hown hK hP (10 + i) (WX_p g ad z hi) rfl 8 (by decide) (hts (.fieldLink RX1 42 "PartCurves$Part" "k" "I") (by decide +kernel)) rfl dX1_coldAmps_104 ?_
            refine lv_iadd hx hb dX1_coldAmps_107 ?_
            refine lv_aload_n hx hb dX1_coldAmps_108 rfl (lv_at hl 1 rfl) ?_
            refine qGet (ci := 1) (v := .int (z (10 + i) 7)) (C := RX1) (T := TX1) (N := 12) hx hb hts hin1 hown hK hP (10 + i) (WX_p g ad z hi) rfl 7 (by decide) (hts (.fieldLink RX1 39 "PartCurves$Part" "g" "I") (by decide +kernel)) rfl dX1_coldAmps_109 ?_
            refine lv_imul hx hb dX1_coldAmps_112 ?_
            refine lv_sipush (v := 1000) hx hb dX1_coldAmps_113 (by decide) ?_
            refine qSi (As := [.int ((v + (z (10 + i) 8)) * (z (10 + i) 7)), .int 1000]) (rest := [.int (fdv (v * (z (10 + i) 9)) 1000)]) hx hb hml hown hts (kJ9_floorDiv l g (Wd := (WX g ad)) (A := (adOf 15 ad)) z ((v + (z (10 + i) 8)) * (z (10 + i) 7)) 1000 (by decide)) gX1_coldAmps_J9_floorDiv_7cf53 rfl 2 hdJ9_floorDiv_7cf53 rfl ⟨Nat.le_of_ble_eq_true rfl, Nat.le_of_ble_eq_true rfl⟩ ⟨Nat.zero_le _, Nat.zero_le _⟩ hK hP hS (fun _ h => h) hl.1 rfl (Nat.le_of_ble_eq_true rfl) dX1_coldAmps_116 (fun H locs hP hS => ?_)
            refine lv_iadd hx hb dX1_coldAmps_119 ?_
            refine lv_istore_n (lv' := [(2, .int ((fdv (v * (z (10 + i) 9)) 1000) + (fdv ((v + (z (10 + i) 8)) * (z (10 + i) 7)) 1000))), (0, .ref (ad (10 + i))), (1, .int v)]) hx hb dX1_coldAmps_120 rfl hl (by decide) rfl (fun ls hl => ?_)
            refine lv_iload_n hx hb dX1_coldAmps_121 rfl (lv_at hl 0 rfl) ?_
            exact qRi hx hb hr hlk hP hK hS dX1_coldAmps_122 (by first | rfl | simp [coldF, c_4, c_12, c_53, c_53n, c_90, c_90n, c_98]) (by first | rfl | simp [coldF, c_4, c_12, c_53, c_53n, c_90, c_90n, c_98])
      · -- 53 not taken
        have c_53n := i_le_f c_53
        refine lv_aload_n hx hb dX1_coldAmps_56 rfl (lv_at hl 1 rfl) ?_
        refine qGet (ci := 1) (v := .int (z (10 + i) 5)) (C := RX1) (T := TX1) (N := 12) hx hb hts hin1 hown hK hP (10 + i) (WX_p g ad z hi) rfl 5 (by decide) (hts (.fieldLink RX1 33 "PartCurves$Part" "kind" "I") (by decide +kernel)) rfl dX1_coldAmps_57 ?_
        refine lv_iconst (v := 3) hx hb dX1_coldAmps_60 rfl ?_
        refine lv_icmp_eq (tgt := 84) hx hb dX1_coldAmps_61 (by decide) (fun c_61 => ?_) (fun c_61 => ?_)
        · -- 61 taken
          exact absurd c_61 c_12
        · -- 61 not taken
          refine lv_iload_n hx hb dX1_coldAmps_64 rfl (lv_at hl 0 rfl) ?_
          refine lv_iload_n hx hb dX1_coldAmps_65 rfl (lv_at hl 2 rfl) ?_
          refine lv_aload_n hx hb dX1_coldAmps_66 rfl (lv_at hl 1 rfl) ?_
          refine qGet (ci := 1) (v := .int (z (10 + i) 8)) (C := RX1) (T := TX1) (N := 12) hx hb hts hin1 hown hK hP (10 + i) (WX_p g ad z hi) rfl 8 (by decide) (hts (.fieldLink RX1 42 "PartCurves$Part" "k" "I") (by decide +kernel)) rfl dX1_coldAmps_67 ?_
          refine lv_isub hx hb dX1_coldAmps_70 ?_
          refine lv_aload_n hx hb dX1_coldAmps_71 rfl (lv_at hl 1 rfl) ?_
          refine qGet (ci := 1) (v := .int (z (10 + i) 7)) (C := RX1) (T := TX1) (N := 12) hx hb hts hin1 hown hK hP (10 + i) (WX_p g ad z hi) rfl 7 (by decide) (hts (.fieldLink RX1 39 "PartCurves$Part" "g" "I") (by decide +kernel)) rfl dX1_coldAmps_72 ?_
          refine lv_imul hx hb dX1_coldAmps_75 ?_
          refine lv_sipush (v := 1000) hx hb dX1_coldAmps_76 (by decide) ?_
          refine qSi (As := [.int ((v - (z (10 + i) 8)) * (z (10 + i) 7)), .int 1000]) (rest := [.int (fdv (v * (z (10 + i) 9)) 1000)]) hx hb hml hown hts (kJ9_floorDiv l g (Wd := (WX g ad)) (A := (adOf 15 ad)) z ((v - (z (10 + i) 8)) * (z (10 + i) 7)) 1000 (by decide)) gX1_coldAmps_J9_floorDiv_7cf53 rfl 2 hdJ9_floorDiv_7cf53 rfl ⟨Nat.le_of_ble_eq_true rfl, Nat.le_of_ble_eq_true rfl⟩ ⟨Nat.zero_le _, Nat.zero_le _⟩ hK hP hS (fun _ h => h) hl.1 rfl (Nat.le_of_ble_eq_true rfl) dX1_coldAmps_79 (fun H locs hP hS => ?_)
          refine lv_iadd hx hb dX1_coldAmps_82 ?_
          refine lv_istore_n (lv' := [(2, .int ((fdv (v * (z (10 + i) 9)) 1000) + (fdv ((v - (z (10 + i) 8)) * (z (10 + i) 7)) 1000))), (0, .ref (ad (10 + i))), (1, .int v)]) hx hb dX1_coldAmps_83 rfl hl (by decide) rfl (fun ls hl => ?_)
          refine lv_iload_n hx hb dX1_coldAmps_84 rfl (lv_at hl 2 rfl) ?_
          refine lv_aload_n hx hb dX1_coldAmps_85 rfl (lv_at hl 1 rfl) ?_
          refine qGet (ci := 1) (v := .int (z (10 + i) 8)) (C := RX1) (T := TX1) (N := 12) hx hb hts hin1 hown hK hP (10 + i) (WX_p g ad z hi) rfl 8 (by decide) (hts (.fieldLink RX1 42 "PartCurves$Part" "k" "I") (by decide +kernel)) rfl dX1_coldAmps_86 ?_
          refine lv_ineg hx hb dX1_coldAmps_89 ?_
          refine lv_icmp_ge (tgt := 121) hx hb dX1_coldAmps_90 (by decide) (fun c_90 => ?_) (fun c_90 => ?_)
          · -- 90 taken
            have c_90n := i_le_t c_90
            refine lv_iload_n hx hb dX1_coldAmps_121 rfl (lv_at hl 0 rfl) ?_
            exact qRi hx hb hr hlk hP hK hS dX1_coldAmps_122 (by first | rfl | simp [coldF, c_4, c_12, c_53, c_53n, c_61, c_90, c_90n]) (by first | rfl | simp [coldF, c_4, c_12, c_53, c_53n, c_61, c_90, c_90n])
          · -- 90 not taken
            have c_90n := i_le_f c_90
            refine lv_aload_n hx hb dX1_coldAmps_93 rfl (lv_at hl 1 rfl) ?_
            refine qGet (ci := 1) (v := .int (z (10 + i) 5)) (C := RX1) (T := TX1) (N := 12) hx hb hts hin1 hown hK hP (10 + i) (WX_p g ad z hi) rfl 5 (by decide) (hts (.fieldLink RX1 33 "PartCurves$Part" "kind" "I") (by decide +kernel)) rfl dX1_coldAmps_94 ?_
            refine lv_iconst (v := 2) hx hb dX1_coldAmps_97 rfl ?_
            refine lv_icmp_ne (tgt := 121) hx hb dX1_coldAmps_98 (by decide) (fun c_98 => ?_) (fun c_98 => ?_)
            · -- 98 taken
              refine lv_iload_n hx hb dX1_coldAmps_121 rfl (lv_at hl 0 rfl) ?_
              exact qRi hx hb hr hlk hP hK hS dX1_coldAmps_122 (by first | rfl | simp [coldF, c_4, c_12, c_53, c_53n, c_61, c_90, c_90n, c_98]) (by first | rfl | simp [coldF, c_4, c_12, c_53, c_53n, c_61, c_90, c_90n, c_98])
            · -- 98 not taken
              refine lv_iload_n hx hb dX1_coldAmps_101 rfl (lv_at hl 0 rfl) ?_
              refine lv_iload_n hx hb dX1_coldAmps_102 rfl (lv_at hl 2 rfl) ?_
              refine lv_aload_n hx hb dX1_coldAmps_103 rfl (lv_at hl 1 rfl) ?_
              refine qGet (ci := 1) (v := .int (z (10 + i) 8)) (C := RX1) (T := TX1) (N := 12) hx hb hts hin1 hown hK hP (10 + i) (WX_p g ad z hi) rfl 8 (by decide) (hts (.fieldLink RX1 42 "PartCurves$Part" "k" "I") (by decide +kernel)) rfl dX1_coldAmps_104 ?_
              refine lv_iadd hx hb dX1_coldAmps_107 ?_
              refine lv_aload_n hx hb dX1_coldAmps_108 rfl (lv_at hl 1 rfl) ?_
              refine qGet (ci := 1) (v := .int (z (10 + i) 7)) (C := RX1) (T := TX1) (N := 12) hx hb hts hin1 hown hK hP (10 + i) (WX_p g ad z hi) rfl 7 (by decide) (hts (.fieldLink RX1 39 "PartCurves$Part" "g" "I") (by decide +kernel)) rfl dX1_coldAmps_109 ?_
              refine lv_imul hx hb dX1_coldAmps_112 ?_
              refine lv_sipush (v := 1000) hx hb dX1_coldAmps_113 (by decide) ?_
              refine qSi (As := [.int ((v + (z (10 + i) 8)) * (z (10 + i) 7)), .int 1000]) (rest := [.int ((fdv (v * (z (10 + i) 9)) 1000) + (fdv ((v - (z (10 + i) 8)) * (z (10 + i) 7)) 1000))]) hx hb hml hown hts (kJ9_floorDiv l g (Wd := (WX g ad)) (A := (adOf 15 ad)) z ((v + (z (10 + i) 8)) * (z (10 + i) 7)) 1000 (by decide)) gX1_coldAmps_J9_floorDiv_7cf53 rfl 2 hdJ9_floorDiv_7cf53 rfl ⟨Nat.le_of_ble_eq_true rfl, Nat.le_of_ble_eq_true rfl⟩ ⟨Nat.zero_le _, Nat.zero_le _⟩ hK hP hS (fun _ h => h) hl.1 rfl (Nat.le_of_ble_eq_true rfl) dX1_coldAmps_116 (fun H locs hP hS => ?_)
              refine lv_iadd hx hb dX1_coldAmps_119 ?_
              refine lv_istore_n (lv' := [(2, .int (((fdv (v * (z (10 + i) 9)) 1000) + (fdv ((v - (z (10 + i) 8)) * (z (10 + i) 7)) 1000)) + (fdv ((v + (z (10 + i) 8)) * (z (10 + i) 7)) 1000))), (0, .ref (ad (10 + i))), (1, .int v)]) hx hb dX1_coldAmps_120 rfl hl (by decide) rfl (fun ls hl => ?_)
              refine lv_iload_n hx hb dX1_coldAmps_121 rfl (lv_at hl 0 rfl) ?_
              exact qRi hx hb hr hlk hP hK hS dX1_coldAmps_122 (by first | rfl | simp [coldF, c_4, c_12, c_53, c_53n, c_61, c_90, c_90n, c_98]) (by first | rfl | simp [coldF, c_4, c_12, c_53, c_53n, c_61, c_90, c_90n, c_98])
    · -- 12 not taken
      refine lv_aload_n hx hb dX1_coldAmps_15 rfl (lv_at hl 0 rfl) ?_
      refine qGet (ci := 1) (v := .int (z (10 + i) 2)) (C := RX1) (T := TX1) (N := 12) hx hb hts hin1 hown hK hP (10 + i) (WX_p g ad z hi) rfl 2 (by decide) (hts (.fieldLink RX1 23 "PartCurves$Part" "open" "Z") (by decide +kernel)) rfl dX1_coldAmps_16 ?_
      refine lv_if_eq (tgt := 35) hx hb dX1_coldAmps_19 (by decide) (fun c_19 => ?_) (fun c_19 => ?_)
      · -- 19 taken
        refine lv_iload_n hx hb dX1_coldAmps_35 rfl (lv_at hl 1 rfl) ?_
        refine lv_aload_n hx hb dX1_coldAmps_36 rfl (lv_at hl 0 rfl) ?_
        refine qGet (ci := 1) (v := .int (z (10 + i) 9)) (C := RX1) (T := TX1) (N := 12) hx hb hts hin1 hown hK hP (10 + i) (WX_p g ad z hi) rfl 9 (by decide) (hts (.fieldLink RX1 45 "PartCurves$Part" "h" "I") (by decide +kernel)) rfl dX1_coldAmps_37 ?_
        refine lv_imul hx hb dX1_coldAmps_40 ?_
        refine lv_sipush (v := 1000) hx hb dX1_coldAmps_41 (by decide) ?_
        refine qSi (As := [.int (v * (z (10 + i) 9)), .int 1000]) (rest := []) hx hb hml hown hts (kJ9_floorDiv l g (Wd := (WX g ad)) (A := (adOf 15 ad)) z (v * (z (10 + i) 9)) 1000 (by decide)) gX1_coldAmps_J9_floorDiv_7cf53 rfl 2 hdJ9_floorDiv_7cf53 rfl ⟨Nat.le_of_ble_eq_true rfl, Nat.le_of_ble_eq_true rfl⟩ ⟨Nat.zero_le _, Nat.zero_le _⟩ hK hP hS (fun _ h => h) hl.1 rfl (Nat.le_of_ble_eq_true rfl) dX1_coldAmps_44 (fun H locs hP hS => ?_)
        refine lv_istore_n (lv' := [(2, .int (fdv (v * (z (10 + i) 9)) 1000)), (0, .ref (ad (10 + i))), (1, .int v)]) hx hb dX1_coldAmps_47 rfl hl (by decide) rfl (fun ls hl => ?_)
        refine lv_iload_n hx hb dX1_coldAmps_48 rfl (lv_at hl 2 rfl) ?_
        refine lv_aload_n hx hb dX1_coldAmps_49 rfl (lv_at hl 1 rfl) ?_
        refine qGet (ci := 1) (v := .int (z (10 + i) 8)) (C := RX1) (T := TX1) (N := 12) hx hb hts hin1 hown hK hP (10 + i) (WX_p g ad z hi) rfl 8 (by decide) (hts (.fieldLink RX1 42 "PartCurves$Part" "k" "I") (by decide +kernel)) rfl dX1_coldAmps_50 ?_
        refine lv_icmp_le (tgt := 84) hx hb dX1_coldAmps_53 (by decide) (fun c_53 => ?_) (fun c_53 => ?_)
        · -- 53 taken
          have c_53n := i_le_t c_53
          refine lv_iload_n hx hb dX1_coldAmps_84 rfl (lv_at hl 2 rfl) ?_
          refine lv_aload_n hx hb dX1_coldAmps_85 rfl (lv_at hl 1 rfl) ?_
          refine qGet (ci := 1) (v := .int (z (10 + i) 8)) (C := RX1) (T := TX1) (N := 12) hx hb hts hin1 hown hK hP (10 + i) (WX_p g ad z hi) rfl 8 (by decide) (hts (.fieldLink RX1 42 "PartCurves$Part" "k" "I") (by decide +kernel)) rfl dX1_coldAmps_86 ?_
          refine lv_ineg hx hb dX1_coldAmps_89 ?_
          refine lv_icmp_ge (tgt := 121) hx hb dX1_coldAmps_90 (by decide) (fun c_90 => ?_) (fun c_90 => ?_)
          · -- 90 taken
            have c_90n := i_le_t c_90
            refine lv_iload_n hx hb dX1_coldAmps_121 rfl (lv_at hl 0 rfl) ?_
            exact qRi hx hb hr hlk hP hK hS dX1_coldAmps_122 (by first | rfl | simp [coldF, c_4, c_12, c_19, c_53, c_53n, c_90, c_90n]) (by first | rfl | simp [coldF, c_4, c_12, c_19, c_53, c_53n, c_90, c_90n])
          · -- 90 not taken
            have c_90n := i_le_f c_90
            refine lv_aload_n hx hb dX1_coldAmps_93 rfl (lv_at hl 1 rfl) ?_
            refine qGet (ci := 1) (v := .int (z (10 + i) 5)) (C := RX1) (T := TX1) (N := 12) hx hb hts hin1 hown hK hP (10 + i) (WX_p g ad z hi) rfl 5 (by decide) (hts (.fieldLink RX1 33 "PartCurves$Part" "kind" "I") (by decide +kernel)) rfl dX1_coldAmps_94 ?_
            refine lv_iconst (v := 2) hx hb dX1_coldAmps_97 rfl ?_
            refine lv_icmp_ne (tgt := 121) hx hb dX1_coldAmps_98 (by decide) (fun c_98 => ?_) (fun c_98 => ?_)
            · -- 98 taken
              refine lv_iload_n hx hb dX1_coldAmps_121 rfl (lv_at hl 0 rfl) ?_
              exact qRi hx hb hr hlk hP hK hS dX1_coldAmps_122 (by first | rfl | simp [coldF, c_4, c_12, c_19, c_53, c_53n, c_90, c_90n, c_98]) (by first | rfl | simp [coldF, c_4, c_12, c_19, c_53, c_53n, c_90, c_90n, c_98])
            · -- 98 not taken
              exact absurd (c_12.symm.trans c_98) (by decide)
        · -- 53 not taken
          have c_53n := i_le_f c_53
          refine lv_aload_n hx hb dX1_coldAmps_56 rfl (lv_at hl 1 rfl) ?_
          refine qGet (ci := 1) (v := .int (z (10 + i) 5)) (C := RX1) (T := TX1) (N := 12) hx hb hts hin1 hown hK hP (10 + i) (WX_p g ad z hi) rfl 5 (by decide) (hts (.fieldLink RX1 33 "PartCurves$Part" "kind" "I") (by decide +kernel)) rfl dX1_coldAmps_57 ?_
          refine lv_iconst (v := 3) hx hb dX1_coldAmps_60 rfl ?_
          refine lv_icmp_eq (tgt := 84) hx hb dX1_coldAmps_61 (by decide) (fun c_61 => ?_) (fun c_61 => ?_)
          · -- 61 taken
            refine lv_iload_n hx hb dX1_coldAmps_84 rfl (lv_at hl 2 rfl) ?_
            refine lv_aload_n hx hb dX1_coldAmps_85 rfl (lv_at hl 1 rfl) ?_
            refine qGet (ci := 1) (v := .int (z (10 + i) 8)) (C := RX1) (T := TX1) (N := 12) hx hb hts hin1 hown hK hP (10 + i) (WX_p g ad z hi) rfl 8 (by decide) (hts (.fieldLink RX1 42 "PartCurves$Part" "k" "I") (by decide +kernel)) rfl dX1_coldAmps_86 ?_
            refine lv_ineg hx hb dX1_coldAmps_89 ?_
            refine lv_icmp_ge (tgt := 121) hx hb dX1_coldAmps_90 (by decide) (fun c_90 => ?_) (fun c_90 => ?_)
            · -- 90 taken
              have c_90n := i_le_t c_90
              refine lv_iload_n hx hb dX1_coldAmps_121 rfl (lv_at hl 0 rfl) ?_
              exact qRi hx hb hr hlk hP hK hS dX1_coldAmps_122 (by first | rfl | simp [coldF, c_4, c_12, c_19, c_53, c_53n, c_61, c_90, c_90n]) (by first | rfl | simp [coldF, c_4, c_12, c_19, c_53, c_53n, c_61, c_90, c_90n])
            · -- 90 not taken
              have c_90n := i_le_f c_90
              refine lv_aload_n hx hb dX1_coldAmps_93 rfl (lv_at hl 1 rfl) ?_
              refine qGet (ci := 1) (v := .int (z (10 + i) 5)) (C := RX1) (T := TX1) (N := 12) hx hb hts hin1 hown hK hP (10 + i) (WX_p g ad z hi) rfl 5 (by decide) (hts (.fieldLink RX1 33 "PartCurves$Part" "kind" "I") (by decide +kernel)) rfl dX1_coldAmps_94 ?_
              refine lv_iconst (v := 2) hx hb dX1_coldAmps_97 rfl ?_
              refine lv_icmp_ne (tgt := 121) hx hb dX1_coldAmps_98 (by decide) (fun c_98 => ?_) (fun c_98 => ?_)
              · -- 98 taken
                refine lv_iload_n hx hb dX1_coldAmps_121 rfl (lv_at hl 0 rfl) ?_
                exact qRi hx hb hr hlk hP hK hS dX1_coldAmps_122 (by first | rfl | simp [coldF, c_4, c_12, c_19, c_53, c_53n, c_61, c_90, c_90n, c_98]) (by first | rfl | simp [coldF, c_4, c_12, c_19, c_53, c_53n, c_61, c_90, c_90n, c_98])
              · -- 98 not taken
                exact absurd (c_12.symm.trans c_98) (by decide)
          · -- 61 not taken
            exact absurd c_12 c_61
      · -- 19 not taken
        refine lv_iload_n hx hb dX1_coldAmps_22 rfl (lv_at hl 1 rfl) ?_
        refine lv_aload_n hx hb dX1_coldAmps_23 rfl (lv_at hl 0 rfl) ?_
        refine qGet (ci := 1) (v := .int (z (10 + i) 7)) (C := RX1) (T := TX1) (N := 12) hx hb hts hin1 hown hK hP (10 + i) (WX_p g ad z hi) rfl 7 (by decide) (hts (.fieldLink RX1 39 "PartCurves$Part" "g" "I") (by decide +kernel)) rfl dX1_coldAmps_24 ?_
        refine lv_imul hx hb dX1_coldAmps_27 ?_
        refine lv_sipush (v := 1000) hx hb dX1_coldAmps_28 (by decide) ?_
        refine qSi (As := [.int (v * (z (10 + i) 7)), .int 1000]) (rest := []) hx hb hml hown hts (kJ9_floorDiv l g (Wd := (WX g ad)) (A := (adOf 15 ad)) z (v * (z (10 + i) 7)) 1000 (by decide)) gX1_coldAmps_J9_floorDiv_7cf53 rfl 2 hdJ9_floorDiv_7cf53 rfl ⟨Nat.le_of_ble_eq_true rfl, Nat.le_of_ble_eq_true rfl⟩ ⟨Nat.zero_le _, Nat.zero_le _⟩ hK hP hS (fun _ h => h) hl.1 rfl (Nat.le_of_ble_eq_true rfl) dX1_coldAmps_31 (fun H locs hP hS => ?_)
        exact qRi hx hb hr hlk hP hK hS dX1_coldAmps_34 (by first | rfl | simp [coldF, c_4, c_12, c_19]) (by first | rfl | simp [coldF, c_4, c_12, c_19])
set_option maxHeartbeats 4000000 in
set_option maxRecDepth 100000 in
theorem kX1_ownAmps (l : Launch) (g : qG) {ad : Nat → Nat} (z : zS) (hj : adInj 15 ad) {i : Nat} (hi : i < 4) (v : Int32) : qMi l yX1_ownAmps wsX1_ownAmps 2 g (WX g ad) (adOf 15 ad) z [.ref (ad (10 + i)), .int v] (ownF (z (10 + i)) v) z := by
  refine qStart (cc := cX1_ownAmps) (maxL := 3) (ret := (some .int)) (plainFor_of_name (by decide)) rfl (Nat.le_of_ble_eq_true rfl) ?_
  intro p e s m args below meth c hx hb hml hown hts hr hlk hP hK ls hl
  have hl : lv_has ls 3 [(0, .ref (ad (10 + i))), (1, .int v)] := hl
  have hS : va_S (adOf 15 ad) s.heap s.heap [] := va_S.rf
  have hin1 : ∀ w ∈ u_ws RX1 TX1 12, w ∈ wsX1_ownAmps := by decide +kernel
  refine lv_sipush (v := 1000) hx hb dX1_ownAmps_0 (by decide) ?_
  refine lv_aload_n hx hb dX1_ownAmps_3 rfl (lv_at hl 0 rfl) ?_
  refine qGet (ci := 1) (v := .int (z (10 + i) 11)) (C := RX1) (T := TX1) (N := 12) hx hb hts hin1 hown hK hP (10 + i) (WX_p g ad z hi) rfl 11 (by decide) (hts (.fieldLink RX1 51 "PartCurves$Part" "c" "I") (by decide +kernel)) rfl dX1_ownAmps_4 ?_
  refine lv_aload_n hx hb dX1_ownAmps_7 rfl (lv_at hl 0 rfl) ?_
  refine qGet (ci := 1) (v := .int (z (10 + i) 6)) (C := RX1) (T := TX1) (N := 12) hx hb hts hin1 hown hK hP (10 + i) (WX_p g ad z hi) rfl 6 (by decide) (hts (.fieldLink RX1 36 "PartCurves$Part" "heat" "I") (by decide +kernel)) rfl dX1_ownAmps_8 ?_
  refine lv_imul hx hb dX1_ownAmps_11 ?_
  refine lv_iadd hx hb dX1_ownAmps_12 ?_
  refine lv_istore_n (lv' := [(2, .int (1000 + ((z (10 + i) 11) * (z (10 + i) 6)))), (0, .ref (ad (10 + i))), (1, .int v)]) hx hb dX1_ownAmps_13 rfl hl (by decide) rfl (fun ls hl => ?_)
  refine lv_aload_n hx hb dX1_ownAmps_14 rfl (lv_at hl 1 rfl) ?_
  refine qGet (ci := 1) (v := .int (z (10 + i) 1)) (C := RX1) (T := TX1) (N := 12) hx hb hts hin1 hown hK hP (10 + i) (WX_p g ad z hi) rfl 1 (by decide) (hts (.fieldLink RX1 20 "PartCurves$Part" "burnt" "Z") (by decide +kernel)) rfl dX1_ownAmps_15 ?_
  refine lv_if_ne (tgt := 26) hx hb dX1_ownAmps_18 (by decide) (fun c_18 => ?_) (fun c_18 => ?_)
  · -- 18 taken
    refine lv_iconst (v := 0) hx hb dX1_ownAmps_26 rfl ?_
    exact qRi hx hb hr hlk hP hK hS dX1_ownAmps_27 (by first | rfl | simp [ownF, c_18]) (by first | rfl | simp [ownF, c_18])
  · -- 18 not taken
    refine lv_iload_n hx hb dX1_ownAmps_21 rfl (lv_at hl 0 rfl) ?_
    refine lv_iconst (v := 1) hx hb dX1_ownAmps_22 rfl ?_
    refine lv_icmp_ge (tgt := 28) hx hb dX1_ownAmps_23 (by decide) (fun c_23 => ?_) (fun c_23 => ?_)
    · -- 23 taken
      have c_23n := i_le_t c_23
      refine lv_sipush (v := 1000) hx hb dX1_ownAmps_28 (by decide) ?_
      refine lv_aload_n hx hb dX1_ownAmps_31 rfl (lv_at hl 1 rfl) ?_
      refine lv_iload_n hx hb dX1_ownAmps_32 rfl (lv_at hl 2 rfl) ?_
      refine qVi (As := [.int v]) (rest := [.int 1000]) hx hb hml hown hts (kX1_coldAmps l g z hj hi v) gX1_ownAmps_X1_coldAmps rfl 1 hdX1_coldAmps rfl ⟨Nat.le_of_ble_eq_true rfl, Nat.le_of_ble_eq_true rfl⟩ ⟨Nat.zero_le _, Nat.zero_le _⟩ hK hP hS (fun _ h => h) (10 + i) 1 rfl rfl (WX_p g ad z hi) hl.1 rfl (Nat.le_of_ble_eq_true rfl) dX1_ownAmps_33 (fun H locs hP hS => ?_)
      refine lv_imul hx hb dX1_ownAmps_36 ?_
      refine lv_iload_n hx hb dX1_ownAmps_37 rfl (lv_at hl 0 rfl) ?_
      refine qSi (As := [.int (1000 * (coldF (z (10 + i)) v)), .int (1000 + ((z (10 + i) 11) * (z (10 + i) 6)))]) (rest := []) hx hb hml hown hts (kJ9_floorDiv l g (Wd := (WX g ad)) (A := (adOf 15 ad)) z (1000 * (coldF (z (10 + i)) v)) (1000 + ((z (10 + i) 11) * (z (10 + i) 6))) (pos_of_le c_23)) gX1_ownAmps_J9_floorDiv_7cf53 rfl 2 hdJ9_floorDiv_7cf53 rfl ⟨Nat.le_of_ble_eq_true rfl, Nat.le_of_ble_eq_true rfl⟩ ⟨Nat.zero_le _, Nat.zero_le _⟩ hK hP hS (fun _ h => h) hl.1 rfl (Nat.le_of_ble_eq_true rfl) dX1_ownAmps_38 (fun H locs hP hS => ?_)
      exact qRi hx hb hr hlk hP hK hS dX1_ownAmps_41 (by first | rfl | simp [ownF, c_18, c_23, c_23n]) (by first | rfl | simp [ownF, c_18, c_23, c_23n])
    · -- 23 not taken
      have c_23n := i_le_f c_23
      refine lv_iconst (v := 0) hx hb dX1_ownAmps_26 rfl ?_
      exact qRi hx hb hr hlk hP hK hS dX1_ownAmps_27 (by first | rfl | simp [ownF, c_18, c_23, c_23n]) (by first | rfl | simp [ownF, c_18, c_23, c_23n])
set_option maxHeartbeats 4000000 in
set_option maxRecDepth 100000 in
theorem kX1_snapsOpenAt (l : Launch) (g : qG) {ad : Nat → Nat} (z : zS) (hj : adInj 15 ad) {i : Nat} (hi : i < 4) (v : Int32) : qMi l yX1_snapsOpenAt wsX1_snapsOpenAt 0 g (WX g ad) (adOf 15 ad) z [.ref (ad (10 + i)), .int v] (bI (snB (z (10 + i)) v)) z := by
  refine qStart (cc := cX1_snapsOpenAt) (maxL := 2) (ret := (some .boolean)) (plainFor_of_name (by decide)) rfl (Nat.le_of_ble_eq_true rfl) ?_
  intro p e s m args below meth c hx hb hml hown hts hr hlk hP hK ls hl
  have hl : lv_has ls 2 [(0, .ref (ad (10 + i))), (1, .int v)] := hl
  have hS : va_S (adOf 15 ad) s.heap s.heap [] := va_S.rf
  have hin1 : ∀ w ∈ u_ws RX1 TX1 12, w ∈ wsX1_snapsOpenAt := by decide +kernel
  refine lv_aload_n hx hb dX1_snapsOpenAt_0 rfl (lv_at hl 0 rfl) ?_
  refine qGet (ci := 1) (v := .int (z (10 + i) 5)) (C := RX1) (T := TX1) (N := 12) hx hb hts hin1 hown hK hP (10 + i) (WX_p g ad z hi) rfl 5 (by decide) (hts (.fieldLink RX1 33 "PartCurves$Part" "kind" "I") (by decide +kernel)) rfl dX1_snapsOpenAt_1 ?_
  refine lv_iconst (v := 3) hx hb dX1_snapsOpenAt_4 rfl ?_
  refine lv_icmp_ne (tgt := 34) hx hb dX1_snapsOpenAt_5 (by decide) (fun c_5 => ?_) (fun c_5 => ?_)
  · -- 5 taken
    refine lv_iconst (v := 0) hx hb dX1_snapsOpenAt_34 rfl ?_
    exact qRz hx hb hr hlk rfl hP hK hS dX1_snapsOpenAt_35 (by first | rfl | simp [bI, snB, c_5]) (by first | rfl | simp [bI, snB, c_5])
  · -- 5 not taken
    refine lv_aload_n hx hb dX1_snapsOpenAt_8 rfl (lv_at hl 0 rfl) ?_
    refine qGet (ci := 1) (v := .int (z (10 + i) 2)) (C := RX1) (T := TX1) (N := 12) hx hb hts hin1 hown hK hP (10 + i) (WX_p g ad z hi) rfl 2 (by decide) (hts (.fieldLink RX1 23 "PartCurves$Part" "open" "Z") (by decide +kernel)) rfl dX1_snapsOpenAt_9 ?_
    refine lv_if_ne (tgt := 34) hx hb dX1_snapsOpenAt_12 (by decide) (fun c_12 => ?_) (fun c_12 => ?_)
    · -- 12 taken
      refine lv_iconst (v := 0) hx hb dX1_snapsOpenAt_34 rfl ?_
      exact qRz hx hb hr hlk rfl hP hK hS dX1_snapsOpenAt_35 (by first | rfl | simp [bI, snB, c_5, c_12]) (by first | rfl | simp [bI, snB, c_5, c_12])
    · -- 12 not taken
      refine lv_aload_n hx hb dX1_snapsOpenAt_15 rfl (lv_at hl 0 rfl) ?_
      refine qGet (ci := 1) (v := .int (z (10 + i) 1)) (C := RX1) (T := TX1) (N := 12) hx hb hts hin1 hown hK hP (10 + i) (WX_p g ad z hi) rfl 1 (by decide) (hts (.fieldLink RX1 20 "PartCurves$Part" "burnt" "Z") (by decide +kernel)) rfl dX1_snapsOpenAt_16 ?_
      refine lv_if_ne (tgt := 34) hx hb dX1_snapsOpenAt_19 (by decide) (fun c_19 => ?_) (fun c_19 => ?_)
      · -- 19 taken
        refine lv_iconst (v := 0) hx hb dX1_snapsOpenAt_34 rfl ?_
        exact qRz hx hb hr hlk rfl hP hK hS dX1_snapsOpenAt_35 (by first | rfl | simp [bI, snB, c_5, c_12, c_19]) (by first | rfl | simp [bI, snB, c_5, c_12, c_19])
      · -- 19 not taken
        refine lv_iload_n hx hb dX1_snapsOpenAt_22 rfl (lv_at hl 1 rfl) ?_
        refine lv_aload_n hx hb dX1_snapsOpenAt_23 rfl (lv_at hl 0 rfl) ?_
        refine qGet (ci := 1) (v := .int (z (10 + i) 8)) (C := RX1) (T := TX1) (N := 12) hx hb hts hin1 hown hK hP (10 + i) (WX_p g ad z hi) rfl 8 (by decide) (hts (.fieldLink RX1 42 "PartCurves$Part" "k" "I") (by decide +kernel)) rfl dX1_snapsOpenAt_24 ?_
        refine lv_icmp_lt (tgt := 34) hx hb dX1_snapsOpenAt_27 (by decide) (fun c_27 => ?_) (fun c_27 => ?_)
        · -- 27 taken
          have c_27n := i_lt_t c_27
          refine lv_iconst (v := 0) hx hb dX1_snapsOpenAt_34 rfl ?_
          exact qRz hx hb hr hlk rfl hP hK hS dX1_snapsOpenAt_35 (by first | rfl | simp [bI, snB, c_5, c_12, c_19, c_27, c_27n]) (by first | rfl | simp [bI, snB, c_5, c_12, c_19, c_27, c_27n])
        · -- 27 not taken
          have c_27n := i_lt_f c_27
          refine lv_iconst (v := 1) hx hb dX1_snapsOpenAt_30 rfl ?_
          refine lv_goto (tgt := 35) hx hb dX1_snapsOpenAt_31 (by decide) ?_
          exact qRz hx hb hr hlk rfl hP hK hS dX1_snapsOpenAt_35 (by first | rfl | simp [bI, snB, c_5, c_12, c_19, c_27, c_27n]) (by first | rfl | simp [bI, snB, c_5, c_12, c_19, c_27, c_27n])
set_option maxHeartbeats 4000000 in
set_option maxRecDepth 100000 in
theorem kX1_shutBelow (l : Launch) (g : qG) {ad : Nat → Nat} (z : zS) (hj : adInj 15 ad) {i : Nat} (hi : i < 4) (v : Int32) : qMv l yX1_shutBelow wsX1_shutBelow 0 g (WX g ad) (adOf 15 ad) z [.ref (ad (10 + i)), .int v] (shutS z (10 + i) v) := by
  refine qStart (cc := cX1_shutBelow) (maxL := 2) (ret := none) (plainFor_of_name (by decide)) rfl (Nat.le_of_ble_eq_true rfl) ?_
  intro p e s m args below meth c hx hb hml hown hts hr hlk hP hK ls hl
  have hl : lv_has ls 2 [(0, .ref (ad (10 + i))), (1, .int v)] := hl
  have hS : va_S (adOf 15 ad) s.heap s.heap [] := va_S.rf
  have hin1 : ∀ w ∈ u_ws RX1 TX1 12, w ∈ wsX1_shutBelow := by decide +kernel
  refine lv_aload_n hx hb dX1_shutBelow_0 rfl (lv_at hl 0 rfl) ?_
  refine qGet (ci := 1) (v := .int (z (10 + i) 5)) (C := RX1) (T := TX1) (N := 12) hx hb hts hin1 hown hK hP (10 + i) (WX_p g ad z hi) rfl 5 (by decide) (hts (.fieldLink RX1 33 "PartCurves$Part" "kind" "I") (by decide +kernel)) rfl dX1_shutBelow_1 ?_
  refine lv_iconst (v := 3) hx hb dX1_shutBelow_4 rfl ?_
  refine lv_icmp_ne (tgt := 28) hx hb dX1_shutBelow_5 (by decide) (fun c_5 => ?_) (fun c_5 => ?_)
  · -- 5 taken
    exact qRv hx hb hr hlk hP hK hS dX1_shutBelow_28 (by first | rfl | simp [shutS, c_5])
  · -- 5 not taken
    refine lv_aload_n hx hb dX1_shutBelow_8 rfl (lv_at hl 0 rfl) ?_
    refine qGet (ci := 1) (v := .int (z (10 + i) 2)) (C := RX1) (T := TX1) (N := 12) hx hb hts hin1 hown hK hP (10 + i) (WX_p g ad z hi) rfl 2 (by decide) (hts (.fieldLink RX1 23 "PartCurves$Part" "open" "Z") (by decide +kernel)) rfl dX1_shutBelow_9 ?_
    refine lv_if_eq (tgt := 28) hx hb dX1_shutBelow_12 (by decide) (fun c_12 => ?_) (fun c_12 => ?_)
    · -- 12 taken
      exact qRv hx hb hr hlk hP hK hS dX1_shutBelow_28 (by first | rfl | simp [shutS, c_5, c_12])
    · -- 12 not taken
      refine lv_iload_n hx hb dX1_shutBelow_15 rfl (lv_at hl 1 rfl) ?_
      refine lv_aload_n hx hb dX1_shutBelow_16 rfl (lv_at hl 0 rfl) ?_
      refine qGet (ci := 1) (v := .int (z (10 + i) 10)) (C := RX1) (T := TX1) (N := 12) hx hb hts hin1 hown hK hP (10 + i) (WX_p g ad z hi) rfl 10 (by decide) (hts (.fieldLink RX1 48 "PartCurves$Part" "m" "I") (by decide +kernel)) rfl dX1_shutBelow_17 ?_
      refine lv_icmp_ge (tgt := 28) hx hb dX1_shutBelow_20 (by decide) (fun c_20 => ?_) (fun c_20 => ?_)
      · -- 20 taken
        have c_20n := i_le_t c_20
        exact qRv hx hb hr hlk hP hK hS dX1_shutBelow_28 (by first | rfl | simp [shutS, c_5, c_12, c_20, c_20n])
      · -- 20 not taken
        have c_20n := i_le_f c_20
        refine lv_aload_n hx hb dX1_shutBelow_23 rfl (lv_at hl 0 rfl) ?_
        refine lv_iconst (v := 0) hx hb dX1_shutBelow_24 rfl ?_
        refine qPut (ci := 1) (ty := .boolean) (C := RX1) (T := TX1) (N := 12) (u' := zu z (10 + i) 2 0) hx hb hts hin1 tyX1 tyX1_ok nmX1 hown hK hP (WX_D g z hj) hS (10 + i) (WX_p g ad z hi) rfl 2 (by decide) (hts (.fieldLink RX1 23 "PartCurves$Part" "open" "Z") (by decide +kernel)) rfl (by decide +kernel) rfl rfl (Nat.le_of_ble_eq_true rfl) (WX_part g ad z hi 0 (k := 2) (by decide)) dX1_shutBelow_25 (fun H locs hP hS => ?_)
        exact qRv hx hb hr hlk hP hK hS dX1_shutBelow_28 (by first | rfl | simp [shutS, c_5, c_12, c_20, c_20n])
set_option maxHeartbeats 4000000 in
set_option maxRecDepth 100000 in
theorem kX1_warm (l : Launch) (g : qG) {ad : Nat → Nat} (z : zS) (hj : adInj 15 ad) {i : Nat} (hi : i < 4) (u a w : Int32) : qMi l yX1_warm wsX1_warm 1 g (WX g ad) (adOf 15 ad) z [.ref (ad (10 + i)), .int u, .int a, .int w] ((warmS z (10 + i) u a w).1) ((warmS z (10 + i) u a w).2) := by
  refine qStart (cc := cX1_warm) (maxL := 7) (ret := (some .int)) (plainFor_of_name (by decide)) rfl (Nat.le_of_ble_eq_true rfl) ?_
  intro p e s m args below meth c hx hb hml hown hts hr hlk hP hK ls hl
  have hl : lv_has ls 7 [(0, .ref (ad (10 + i))), (1, .int u), (2, .int a), (3, .int w)] := hl
  have hS : va_S (adOf 15 ad) s.heap s.heap [] := va_S.rf
  have hin1 : ∀ w ∈ u_ws RX1 TX1 12, w ∈ wsX1_warm := by decide +kernel
  refine lv_iload_n hx hb dX1_warm_0 rfl (lv_at hl 1 rfl) ?_
  refine lv_i2l hx hb dX1_warm_1 rfl ?_
  refine lv_iload_n hx hb dX1_warm_2 rfl (lv_at hl 2 rfl) ?_
  refine lv_i2l hx hb dX1_warm_3 rfl ?_
  refine lv_lmul hx hb dX1_warm_4 ?_
  refine lv_iload_n hx hb dX1_warm_5 rfl (lv_at hl 3 rfl) ?_
  refine lv_i2l hx hb dX1_warm_6 rfl ?_
  refine lv_lmul hx hb dX1_warm_7 ?_
  refine va_mabs_long hx hb (hml.trans hl.1.symm) hown (hts (.methodLink RX1 64 Lib.MathLoose.abs_long.x) (by decide +kernel)) (hts (.static Lib.MathLoose.abs_long.x) (by decide +kernel)) (hts (.initialized "java/lang/Math") (by decide +kernel)) (hts (.code Lib.MathLoose.abs_long.x Lib.MathLoose.abs_long.code 2 (some .long)) (by decide +kernel)) (Nat.le_of_ble_eq_true rfl) (Nat.le_of_ble_eq_true rfl) (Nat.zero_le _) (Nat.zero_le _) dX1_warm_8 ?_
  refine lv_lstore (lv' := [(4, .long (absL ((u.toInt64 * a.toInt64) * w.toInt64))), (0, .ref (ad (10 + i))), (1, .int u), (2, .int a), (3, .int w)]) hx hb dX1_warm_11 hl (by decide) rfl (fun ls hl => ?_)
  refine lv_aload_n hx hb dX1_warm_13 rfl (lv_at hl 1 rfl) ?_
  refine qGet (ci := 1) (v := .int (z (10 + i) 6)) (C := RX1) (T := TX1) (N := 12) hx hb hts hin1 hown hK hP (10 + i) (WX_p g ad z hi) rfl 6 (by decide) (hts (.fieldLink RX1 36 "PartCurves$Part" "heat" "I") (by decide +kernel)) rfl dX1_warm_14 ?_
  refine lv_lload hx hb dX1_warm_17 (lv_at hl 0 rfl) ?_
  refine lv_ldc2 (v := 500000) hx hb hown (hts (.constantLong RX1 68 (500000)) (by decide +kernel)) dX1_warm_19 ?_
  refine lv_ldiv hx hb dX1_warm_22 (by decide) ?_
  refine lv_l2i hx hb dX1_warm_23 rfl ?_
  refine lv_iadd hx hb dX1_warm_24 ?_
  refine lv_istore (lv' := [(6, .int ((z (10 + i) 6) + (((absL ((u.toInt64 * a.toInt64) * w.toInt64)) / 500000).toInt32))), (4, .long (absL ((u.toInt64 * a.toInt64) * w.toInt64))), (0, .ref (ad (10 + i))), (1, .int u), (2, .int a), (3, .int w)]) hx hb dX1_warm_25 hl (by decide) rfl (fun ls hl => ?_)
  refine lv_aload_n hx hb dX1_warm_27 rfl (lv_at hl 2 rfl) ?_
  refine lv_iload hx hb dX1_warm_28 (lv_at hl 0 rfl) ?_
  refine lv_sipush (v := 1000) hx hb dX1_warm_30 (by decide) ?_
  refine va_mmin hx hb (hml.trans hl.1.symm) hown (hts (.methodLink RX1 70 Lib.Math.min.name) (by decide +kernel)) (hts (.static Lib.Math.min.name) (by decide +kernel)) (hts (.initialized "java/lang/Math") (by decide +kernel)) (hts (.code Lib.Math.min.name Lib.Math.min.code 2 (some .int)) (by decide +kernel)) (Nat.le_of_ble_eq_true rfl) (Nat.le_of_ble_eq_true rfl) (Nat.zero_le _) (Nat.zero_le _) dX1_warm_33 ?_
  refine qPut (ci := 1) (ty := .int) (C := RX1) (T := TX1) (N := 12) (u' := zu z (10 + i) 6 (minI ((z (10 + i) 6) + (((absL ((u.toInt64 * a.toInt64) * w.toInt64)) / 500000).toInt32)) 1000)) hx hb hts hin1 tyX1 tyX1_ok nmX1 hown hK hP (WX_D g z hj) hS (10 + i) (WX_p g ad z hi) rfl 6 (by decide) (hts (.fieldLink RX1 36 "PartCurves$Part" "heat" "I") (by decide +kernel)) rfl (by decide +kernel) rfl rfl (Nat.le_of_ble_eq_true rfl) (WX_part g ad z hi (minI ((z (10 + i) 6) + (((absL ((u.toInt64 * a.toInt64) * w.toInt64)) / 500000).toInt32)) 1000) (k := 6) (by decide)) dX1_warm_36 (fun H locs hP hS => ?_)
  refine lv_iload hx hb dX1_warm_39 (lv_at hl 0 rfl) ?_
  refine lv_sipush (v := 1000) hx hb dX1_warm_41 (by decide) ?_
  refine lv_icmp_lt (tgt := 54) hx hb dX1_warm_44 (by decide) (fun c_44 => ?_) (fun c_44 => ?_)
  · -- 44 taken
    have c_44n := i_lt_t c_44
    refine lv_iconst (v := 0) hx hb dX1_warm_54 rfl ?_
    exact qRi hx hb hr hlk hP hK hS dX1_warm_55 (by first | rfl | simp [warmS, wldF, c_44, c_44n]) (by first | rfl | simp [warmS, wldF, c_44, c_44n])
  · -- 44 not taken
    have c_44n := i_lt_f c_44
    refine lv_aload_n hx hb dX1_warm_47 rfl (lv_at hl 2 rfl) ?_
    refine qGet (ci := 1) (v := .int (z (10 + i) 1)) (C := RX1) (T := TX1) (N := 12) hx hb hts hin1 hown hK hP (10 + i) (WX_p g ad (zu z (10 + i) 6 (minI ((z (10 + i) 6) + (((absL ((u.toInt64 * a.toInt64) * w.toInt64)) / 500000).toInt32)) 1000)) hi) rfl 1 (by decide) (hts (.fieldLink RX1 20 "PartCurves$Part" "burnt" "Z") (by decide +kernel)) (by simp [pF, zu, upd]) dX1_warm_48 ?_
    refine lv_if_eq (tgt := 56) hx hb dX1_warm_51 (by decide) (fun c_51 => ?_) (fun c_51 => ?_)
    · -- 51 taken
      refine lv_aload_n hx hb dX1_warm_56 rfl (lv_at hl 2 rfl) ?_
      refine lv_iconst (v := 1) hx hb dX1_warm_57 rfl ?_
      refine qPut (ci := 1) (ty := .boolean) (C := RX1) (T := TX1) (N := 12) (u' := zu (zu z (10 + i) 6 (minI ((z (10 + i) 6) + (((absL ((u.toInt64 * a.toInt64) * w.toInt64)) / 500000).toInt32)) 1000)) (10 + i) 1 1) hx hb hts hin1 tyX1 tyX1_ok nmX1 hown hK hP (WX_D g (zu z (10 + i) 6 (minI ((z (10 + i) 6) + (((absL ((u.toInt64 * a.toInt64) * w.toInt64)) / 500000).toInt32)) 1000)) hj) hS (10 + i) (WX_p g ad (zu z (10 + i) 6 (minI ((z (10 + i) 6) + (((absL ((u.toInt64 * a.toInt64) * w.toInt64)) / 500000).toInt32)) 1000)) hi) rfl 1 (by decide) (hts (.fieldLink RX1 20 "PartCurves$Part" "burnt" "Z") (by decide +kernel)) rfl (by decide +kernel) rfl rfl (Nat.le_of_ble_eq_true rfl) (WX_part g ad (zu z (10 + i) 6 (minI ((z (10 + i) 6) + (((absL ((u.toInt64 * a.toInt64) * w.toInt64)) / 500000).toInt32)) 1000)) hi 1 (k := 1) (by decide)) dX1_warm_58 (fun H locs hP hS => ?_)
      refine lv_iload hx hb dX1_warm_61 (lv_at hl 0 rfl) ?_
      refine lv_sipush (v := 999) hx hb dX1_warm_63 (by decide) ?_
      refine lv_isub hx hb dX1_warm_66 ?_
      exact qRi hx hb hr hlk hP hK hS dX1_warm_67 (by first | rfl | simp [warmS, wldF, c_44, c_44n, c_51]) (by first | rfl | simp [warmS, wldF, c_44, c_44n, c_51])
    · -- 51 not taken
      refine lv_iconst (v := 0) hx hb dX1_warm_54 rfl ?_
      exact qRi hx hb hr hlk hP hK hS dX1_warm_55 (by first | rfl | simp [warmS, wldF, c_44, c_44n, c_51]) (by first | rfl | simp [warmS, wldF, c_44, c_44n, c_51])
set_option maxHeartbeats 4000000 in
set_option maxRecDepth 100000 in
theorem kX1_renew (l : Launch) (g : qG) {ad : Nat → Nat} (z : zS) (hj : adInj 15 ad) {i : Nat} (hi : i < 4) (first other kind : Int32) : qMv l yX1_renew wsX1_renew 0 g (WX g ad) (adOf 15 ad) z [.ref (ad (10 + i)), .int first, .int other, .int kind] (renewS z (10 + i) first other kind) := by
  refine qStart (cc := cX1_renew) (maxL := 4) (ret := none) (plainFor_of_name (by decide)) rfl (Nat.le_of_ble_eq_true rfl) ?_
  intro p e s m args below meth c hx hb hml hown hts hr hlk hP hK ls hl
  have hl : lv_has ls 4 [(0, .ref (ad (10 + i))), (1, .int first), (2, .int other), (3, .int kind)] := hl
  have hS : va_S (adOf 15 ad) s.heap s.heap [] := va_S.rf
  have hin1 : ∀ w ∈ u_ws RX1 TX1 12, w ∈ wsX1_renew := by decide +kernel
  refine lv_aload_n hx hb dX1_renew_0 rfl (lv_at hl 0 rfl) ?_
  refine lv_iconst (v := 1) hx hb dX1_renew_1 rfl ?_
  refine qPut (ci := 1) (ty := .boolean) (C := RX1) (T := TX1) (N := 12) (u' := zu z (10 + i) 0 1) hx hb hts hin1 tyX1 tyX1_ok nmX1 hown hK hP (WX_D g z hj) hS (10 + i) (WX_p g ad z hi) rfl 0 (by decide) (hts (.fieldLink RX1 16 "PartCurves$Part" "there" "Z") (by decide +kernel)) rfl (by decide +kernel) rfl rfl (Nat.le_of_ble_eq_true rfl) (WX_part g ad z hi 1 (k := 0) (by decide)) dX1_renew_2 (fun H locs hP hS => ?_)
  refine lv_aload_n hx hb dX1_renew_5 rfl (lv_at hl 0 rfl) ?_
  refine lv_iconst (v := 0) hx hb dX1_renew_6 rfl ?_
  refine qPut (ci := 1) (ty := .boolean) (C := RX1) (T := TX1) (N := 12) (u' := zu (zu z (10 + i) 0 1) (10 + i) 1 0) hx hb hts hin1 tyX1 tyX1_ok nmX1 hown hK hP (WX_D g (zu z (10 + i) 0 1) hj) hS (10 + i) (WX_p g ad (zu z (10 + i) 0 1) hi) rfl 1 (by decide) (hts (.fieldLink RX1 20 "PartCurves$Part" "burnt" "Z") (by decide +kernel)) rfl (by decide +kernel) rfl rfl (Nat.le_of_ble_eq_true rfl) (WX_part g ad (zu z (10 + i) 0 1) hi 0 (k := 1) (by decide)) dX1_renew_7 (fun H locs hP hS => ?_)
  refine lv_aload_n hx hb dX1_renew_10 rfl (lv_at hl 0 rfl) ?_
  refine lv_iconst (v := 0) hx hb dX1_renew_11 rfl ?_
  refine qPut (ci := 1) (ty := .boolean) (C := RX1) (T := TX1) (N := 12) (u' := zu (zu (zu z (10 + i) 0 1) (10 + i) 1 0) (10 + i) 2 0) hx hb hts hin1 tyX1 tyX1_ok nmX1 hown hK hP (WX_D g (zu (zu z (10 + i) 0 1) (10 + i) 1 0) hj) hS (10 + i) (WX_p g ad (zu (zu z (10 + i) 0 1) (10 + i) 1 0) hi) rfl 2 (by decide) (hts (.fieldLink RX1 23 "PartCurves$Part" "open" "Z") (by decide +kernel)) rfl (by decide +kernel) rfl rfl (Nat.le_of_ble_eq_true rfl) (WX_part g ad (zu (zu z (10 + i) 0 1) (10 + i) 1 0) hi 0 (k := 2) (by decide)) dX1_renew_12 (fun H locs hP hS => ?_)
  refine lv_aload_n hx hb dX1_renew_15 rfl (lv_at hl 0 rfl) ?_
  refine lv_iload_n hx hb dX1_renew_16 rfl (lv_at hl 1 rfl) ?_
  refine qPut (ci := 1) (ty := .int) (C := RX1) (T := TX1) (N := 12) (u' := zu (zu (zu (zu z (10 + i) 0 1) (10 + i) 1 0) (10 + i) 2 0) (10 + i) 3 first) hx hb hts hin1 tyX1 tyX1_ok nmX1 hown hK hP (WX_D g (zu (zu (zu z (10 + i) 0 1) (10 + i) 1 0) (10 + i) 2 0) hj) hS (10 + i) (WX_p g ad (zu (zu (zu z (10 + i) 0 1) (10 + i) 1 0) (10 + i) 2 0) hi) rfl 3 (by decide) (hts (.fieldLink RX1 26 "PartCurves$Part" "first" "I") (by decide +kernel)) rfl (by decide +kernel) rfl rfl (Nat.le_of_ble_eq_true rfl) (WX_part g ad (zu (zu (zu z (10 + i) 0 1) (10 + i) 1 0) (10 + i) 2 0) hi first (k := 3) (by decide)) dX1_renew_17 (fun H locs hP hS => ?_)
  refine lv_aload_n hx hb dX1_renew_20 rfl (lv_at hl 0 rfl) ?_
  refine lv_iload_n hx hb dX1_renew_21 rfl (lv_at hl 2 rfl) ?_
  refine qPut (ci := 1) (ty := .int) (C := RX1) (T := TX1) (N := 12) (u' := zu (zu (zu (zu (zu z (10 + i) 0 1) (10 + i) 1 0) (10 + i) 2 0) (10 + i) 3 first) (10 + i) 4 other) hx hb hts hin1 tyX1 tyX1_ok nmX1 hown hK hP (WX_D g (zu (zu (zu (zu z (10 + i) 0 1) (10 + i) 1 0) (10 + i) 2 0) (10 + i) 3 first) hj) hS (10 + i) (WX_p g ad (zu (zu (zu (zu z (10 + i) 0 1) (10 + i) 1 0) (10 + i) 2 0) (10 + i) 3 first) hi) rfl 4 (by decide) (hts (.fieldLink RX1 30 "PartCurves$Part" "other" "I") (by decide +kernel)) rfl (by decide +kernel) rfl rfl (Nat.le_of_ble_eq_true rfl) (WX_part g ad (zu (zu (zu (zu z (10 + i) 0 1) (10 + i) 1 0) (10 + i) 2 0) (10 + i) 3 first) hi other (k := 4) (by decide)) dX1_renew_22 (fun H locs hP hS => ?_)
  refine lv_aload_n hx hb dX1_renew_25 rfl (lv_at hl 0 rfl) ?_
  refine lv_iload_n hx hb dX1_renew_26 rfl (lv_at hl 3 rfl) ?_
  refine qPut (ci := 1) (ty := .int) (C := RX1) (T := TX1) (N := 12) (u' := zu (zu (zu (zu (zu (zu z (10 + i) 0 1) (10 + i) 1 0) (10 + i) 2 0) (10 + i) 3 first) (10 + i) 4 other) (10 + i) 5 kind) hx hb hts hin1 tyX1 tyX1_ok nmX1 hown hK hP (WX_D g (zu (zu (zu (zu (zu z (10 + i) 0 1) (10 + i) 1 0) (10 + i) 2 0) (10 + i) 3 first) (10 + i) 4 other) hj) hS (10 + i) (WX_p g ad (zu (zu (zu (zu (zu z (10 + i) 0 1) (10 + i) 1 0) (10 + i) 2 0) (10 + i) 3 first) (10 + i) 4 other) hi) rfl 5 (by decide) (hts (.fieldLink RX1 33 "PartCurves$Part" "kind" "I") (by decide +kernel)) rfl (by decide +kernel) rfl rfl (Nat.le_of_ble_eq_true rfl) (WX_part g ad (zu (zu (zu (zu (zu z (10 + i) 0 1) (10 + i) 1 0) (10 + i) 2 0) (10 + i) 3 first) (10 + i) 4 other) hi kind (k := 5) (by decide)) dX1_renew_27 (fun H locs hP hS => ?_)
  refine lv_aload_n hx hb dX1_renew_30 rfl (lv_at hl 0 rfl) ?_
  refine lv_iconst (v := 0) hx hb dX1_renew_31 rfl ?_
  refine qPut (ci := 1) (ty := .int) (C := RX1) (T := TX1) (N := 12) (u' := zu (zu (zu (zu (zu (zu (zu z (10 + i) 0 1) (10 + i) 1 0) (10 + i) 2 0) (10 + i) 3 first) (10 + i) 4 other) (10 + i) 5 kind) (10 + i) 6 0) hx hb hts hin1 tyX1 tyX1_ok nmX1 hown hK hP (WX_D g (zu (zu (zu (zu (zu (zu z (10 + i) 0 1) (10 + i) 1 0) (10 + i) 2 0) (10 + i) 3 first) (10 + i) 4 other) (10 + i) 5 kind) hj) hS (10 + i) (WX_p g ad (zu (zu (zu (zu (zu (zu z (10 + i) 0 1) (10 + i) 1 0) (10 + i) 2 0) (10 + i) 3 first) (10 + i) 4 other) (10 + i) 5 kind) hi) rfl 6 (by decide) (hts (.fieldLink RX1 36 "PartCurves$Part" "heat" "I") (by decide +kernel)) rfl (by decide +kernel) rfl rfl (Nat.le_of_ble_eq_true rfl) (WX_part g ad (zu (zu (zu (zu (zu (zu z (10 + i) 0 1) (10 + i) 1 0) (10 + i) 2 0) (10 + i) 3 first) (10 + i) 4 other) (10 + i) 5 kind) hi 0 (k := 6) (by decide)) dX1_renew_32 (fun H locs hP hS => ?_)
  refine lv_aload_n hx hb dX1_renew_35 rfl (lv_at hl 0 rfl) ?_
  refine lv_sipush (v := 1000) hx hb dX1_renew_36 (by decide) ?_
  refine qPut (ci := 1) (ty := .int) (C := RX1) (T := TX1) (N := 12) (u' := zu (zu (zu (zu (zu (zu (zu (zu z (10 + i) 0 1) (10 + i) 1 0) (10 + i) 2 0) (10 + i) 3 first) (10 + i) 4 other) (10 + i) 5 kind) (10 + i) 6 0) (10 + i) 7 1000) hx hb hts hin1 tyX1 tyX1_ok nmX1 hown hK hP (WX_D g (zu (zu (zu (zu (zu (zu (zu z (10 + i) 0 1) (10 + i) 1 0) (10 + i) 2 0) (10 + i) 3 first) (10 + i) 4 other) (10 + i) 5 kind) (10 + i) 6 0) hj) hS (10 + i) (WX_p g ad (zu (zu (zu (zu (zu (zu (zu z (10 + i) 0 1) (10 + i) 1 0) (10 + i) 2 0) (10 + i) 3 first) (10 + i) 4 other) (10 + i) 5 kind) (10 + i) 6 0) hi) rfl 7 (by decide) (hts (.fieldLink RX1 39 "PartCurves$Part" "g" "I") (by decide +kernel)) rfl (by decide +kernel) rfl rfl (Nat.le_of_ble_eq_true rfl) (WX_part g ad (zu (zu (zu (zu (zu (zu (zu z (10 + i) 0 1) (10 + i) 1 0) (10 + i) 2 0) (10 + i) 3 first) (10 + i) 4 other) (10 + i) 5 kind) (10 + i) 6 0) hi 1000 (k := 7) (by decide)) dX1_renew_39 (fun H locs hP hS => ?_)
  refine lv_aload_n hx hb dX1_renew_42 rfl (lv_at hl 0 rfl) ?_
  refine lv_sipush (v := 600) hx hb dX1_renew_43 (by decide) ?_
  refine qPut (ci := 1) (ty := .int) (C := RX1) (T := TX1) (N := 12) (u' := zu (zu (zu (zu (zu (zu (zu (zu (zu z (10 + i) 0 1) (10 + i) 1 0) (10 + i) 2 0) (10 + i) 3 first) (10 + i) 4 other) (10 + i) 5 kind) (10 + i) 6 0) (10 + i) 7 1000) (10 + i) 8 600) hx hb hts hin1 tyX1 tyX1_ok nmX1 hown hK hP (WX_D g (zu (zu (zu (zu (zu (zu (zu (zu z (10 + i) 0 1) (10 + i) 1 0) (10 + i) 2 0) (10 + i) 3 first) (10 + i) 4 other) (10 + i) 5 kind) (10 + i) 6 0) (10 + i) 7 1000) hj) hS (10 + i) (WX_p g ad (zu (zu (zu (zu (zu (zu (zu (zu z (10 + i) 0 1) (10 + i) 1 0) (10 + i) 2 0) (10 + i) 3 first) (10 + i) 4 other) (10 + i) 5 kind) (10 + i) 6 0) (10 + i) 7 1000) hi) rfl 8 (by decide) (hts (.fieldLink RX1 42 "PartCurves$Part" "k" "I") (by decide +kernel)) rfl (by decide +kernel) rfl rfl (Nat.le_of_ble_eq_true rfl) (WX_part g ad (zu (zu (zu (zu (zu (zu (zu (zu z (10 + i) 0 1) (10 + i) 1 0) (10 + i) 2 0) (10 + i) 3 first) (10 + i) 4 other) (10 + i) 5 kind) (10 + i) 6 0) (10 + i) 7 1000) hi 600 (k := 8) (by decide)) dX1_renew_46 (fun H locs hP hS => ?_)
  refine lv_aload_n hx hb dX1_renew_49 rfl (lv_at hl 0 rfl) ?_
  refine lv_iconst (v := 0) hx hb dX1_renew_50 rfl ?_
  refine qPut (ci := 1) (ty := .int) (C := RX1) (T := TX1) (N := 12) (u' := zu (zu (zu (zu (zu (zu (zu (zu (zu (zu z (10 + i) 0 1) (10 + i) 1 0) (10 + i) 2 0) (10 + i) 3 first) (10 + i) 4 other) (10 + i) 5 kind) (10 + i) 6 0) (10 + i) 7 1000) (10 + i) 8 600) (10 + i) 9 0) hx hb hts hin1 tyX1 tyX1_ok nmX1 hown hK hP (WX_D g (zu (zu (zu (zu (zu (zu (zu (zu (zu z (10 + i) 0 1) (10 + i) 1 0) (10 + i) 2 0) (10 + i) 3 first) (10 + i) 4 other) (10 + i) 5 kind) (10 + i) 6 0) (10 + i) 7 1000) (10 + i) 8 600) hj) hS (10 + i) (WX_p g ad (zu (zu (zu (zu (zu (zu (zu (zu (zu z (10 + i) 0 1) (10 + i) 1 0) (10 + i) 2 0) (10 + i) 3 first) (10 + i) 4 other) (10 + i) 5 kind) (10 + i) 6 0) (10 + i) 7 1000) (10 + i) 8 600) hi) rfl 9 (by decide) (hts (.fieldLink RX1 45 "PartCurves$Part" "h" "I") (by decide +kernel)) rfl (by decide +kernel) rfl rfl (Nat.le_of_ble_eq_true rfl) (WX_part g ad (zu (zu (zu (zu (zu (zu (zu (zu (zu z (10 + i) 0 1) (10 + i) 1 0) (10 + i) 2 0) (10 + i) 3 first) (10 + i) 4 other) (10 + i) 5 kind) (10 + i) 6 0) (10 + i) 7 1000) (10 + i) 8 600) hi 0 (k := 9) (by decide)) dX1_renew_51 (fun H locs hP hS => ?_)
  refine lv_aload_n hx hb dX1_renew_54 rfl (lv_at hl 0 rfl) ?_
  refine lv_iconst (v := 0) hx hb dX1_renew_55 rfl ?_
  refine qPut (ci := 1) (ty := .int) (C := RX1) (T := TX1) (N := 12) (u' := zu (zu (zu (zu (zu (zu (zu (zu (zu (zu (zu z (10 + i) 0 1) (10 + i) 1 0) (10 + i) 2 0) (10 + i) 3 first) (10 + i) 4 other) (10 + i) 5 kind) (10 + i) 6 0) (10 + i) 7 1000) (10 + i) 8 600) (10 + i) 9 0) (10 + i) 10 0) hx hb hts hin1 tyX1 tyX1_ok nmX1 hown hK hP (WX_D g (zu (zu (zu (zu (zu (zu (zu (zu (zu (zu z (10 + i) 0 1) (10 + i) 1 0) (10 + i) 2 0) (10 + i) 3 first) (10 + i) 4 other) (10 + i) 5 kind) (10 + i) 6 0) (10 + i) 7 1000) (10 + i) 8 600) (10 + i) 9 0) hj) hS (10 + i) (WX_p g ad (zu (zu (zu (zu (zu (zu (zu (zu (zu (zu z (10 + i) 0 1) (10 + i) 1 0) (10 + i) 2 0) (10 + i) 3 first) (10 + i) 4 other) (10 + i) 5 kind) (10 + i) 6 0) (10 + i) 7 1000) (10 + i) 8 600) (10 + i) 9 0) hi) rfl 10 (by decide) (hts (.fieldLink RX1 48 "PartCurves$Part" "m" "I") (by decide +kernel)) rfl (by decide +kernel) rfl rfl (Nat.le_of_ble_eq_true rfl) (WX_part g ad (zu (zu (zu (zu (zu (zu (zu (zu (zu (zu z (10 + i) 0 1) (10 + i) 1 0) (10 + i) 2 0) (10 + i) 3 first) (10 + i) 4 other) (10 + i) 5 kind) (10 + i) 6 0) (10 + i) 7 1000) (10 + i) 8 600) (10 + i) 9 0) hi 0 (k := 10) (by decide)) dX1_renew_56 (fun H locs hP hS => ?_)
  refine lv_aload_n hx hb dX1_renew_59 rfl (lv_at hl 0 rfl) ?_
  refine lv_iconst (v := 0) hx hb dX1_renew_60 rfl ?_
  refine qPut (ci := 1) (ty := .int) (C := RX1) (T := TX1) (N := 12) (u' := zu (zu (zu (zu (zu (zu (zu (zu (zu (zu (zu (zu z (10 + i) 0 1) (10 + i) 1 0) (10 + i) 2 0) (10 + i) 3 first) (10 + i) 4 other) (10 + i) 5 kind) (10 + i) 6 0) (10 + i) 7 1000) (10 + i) 8 600) (10 + i) 9 0) (10 + i) 10 0) (10 + i) 11 0) hx hb hts hin1 tyX1 tyX1_ok nmX1 hown hK hP (WX_D g (zu (zu (zu (zu (zu (zu (zu (zu (zu (zu (zu z (10 + i) 0 1) (10 + i) 1 0) (10 + i) 2 0) (10 + i) 3 first) (10 + i) 4 other) (10 + i) 5 kind) (10 + i) 6 0) (10 + i) 7 1000) (10 + i) 8 600) (10 + i) 9 0) (10 + i) 10 0) hj) hS (10 + i) (WX_p g ad (zu (zu (zu (zu (zu (zu (zu (zu (zu (zu (zu z (10 + i) 0 1) (10 + i) 1 0) (10 + i) 2 0) (10 + i) 3 first) (10 + i) 4 other) (10 + i) 5 kind) (10 + i) 6 0) (10 + i) 7 1000) (10 + i) 8 600) (10 + i) 9 0) (10 + i) 10 0) hi) rfl 11 (by decide) (hts (.fieldLink RX1 51 "PartCurves$Part" "c" "I") (by decide +kernel)) rfl (by decide +kernel) rfl rfl (Nat.le_of_ble_eq_true rfl) (WX_part g ad (zu (zu (zu (zu (zu (zu (zu (zu (zu (zu (zu z (10 + i) 0 1) (10 + i) 1 0) (10 + i) 2 0) (10 + i) 3 first) (10 + i) 4 other) (10 + i) 5 kind) (10 + i) 6 0) (10 + i) 7 1000) (10 + i) 8 600) (10 + i) 9 0) (10 + i) 10 0) hi 0 (k := 11) (by decide)) dX1_renew_61 (fun H locs hP hS => ?_)
  exact qRv hx hb hr hlk hP hK hS dX1_renew_64 (by first | rfl | simp [renewS])
set_option maxHeartbeats 4000000 in
set_option maxRecDepth 100000 in
theorem kX1_number (l : Launch) (g : qG) {ad : Nat → Nat} (z : zS) (hj : adInj 15 ad) {i : Nat} (hi : i < 4) (w : Int32) (hw : inR w 0 4 = true) : qMi l yX1_number wsX1_number 0 g (WX g ad) (adOf 15 ad) z [.ref (ad (10 + i)), .int w] (z (10 + i) (7 + ix w)) z := by
  refine qStart (cc := cX1_number) (maxL := 2) (ret := (some .int)) (plainFor_of_name (by decide)) rfl (Nat.le_of_ble_eq_true rfl) ?_
  intro p e s m args below meth c hx hb hml hown hts hr hlk hP hK ls hl
  have hl : lv_has ls 2 [(0, .ref (ad (10 + i))), (1, .int w)] := hl
  have hS : va_S (adOf 15 ad) s.heap s.heap [] := va_S.rf
  have hin1 : ∀ w ∈ u_ws RX1 TX1 12, w ∈ wsX1_number := by decide +kernel
  refine lv_iload_n hx hb dX1_number_0 rfl (lv_at hl 1 rfl) ?_
  by_cases c_1_is0 : w = 0
  · -- 1 is 0
    refine lv_tableIn (tgt := 32) hx hb dX1_number_1 (by rw [c_1_is0]; decide) (by rw [c_1_is0]; decide) (by rw [c_1_is0]; rfl) (by decide) ?_
    refine lv_aload_n hx hb dX1_number_32 rfl (lv_at hl 0 rfl) ?_
    refine qGet (ci := 1) (v := .int (z (10 + i) 7)) (C := RX1) (T := TX1) (N := 12) hx hb hts hin1 hown hK hP (10 + i) (WX_p g ad z hi) rfl 7 (by decide) (hts (.fieldLink RX1 39 "PartCurves$Part" "g" "I") (by decide +kernel)) rfl dX1_number_33 ?_
    exact qRi hx hb hr hlk hP hK hS dX1_number_36 (by rw [c_1_is0]; rfl) rfl
  by_cases c_1_is1 : w = 1
  · -- 1 is 1
    refine lv_tableIn (tgt := 37) hx hb dX1_number_1 (by rw [c_1_is1]; decide) (by rw [c_1_is1]; decide) (by rw [c_1_is1]; rfl) (by decide) ?_
    refine lv_aload_n hx hb dX1_number_37 rfl (lv_at hl 0 rfl) ?_
    refine qGet (ci := 1) (v := .int (z (10 + i) 8)) (C := RX1) (T := TX1) (N := 12) hx hb hts hin1 hown hK hP (10 + i) (WX_p g ad z hi) rfl 8 (by decide) (hts (.fieldLink RX1 42 "PartCurves$Part" "k" "I") (by decide +kernel)) rfl dX1_number_38 ?_
    exact qRi hx hb hr hlk hP hK hS dX1_number_41 (by rw [c_1_is1]; rfl) rfl
  by_cases c_1_is2 : w = 2
  · -- 1 is 2
    refine lv_tableIn (tgt := 42) hx hb dX1_number_1 (by rw [c_1_is2]; decide) (by rw [c_1_is2]; decide) (by rw [c_1_is2]; rfl) (by decide) ?_
    refine lv_aload_n hx hb dX1_number_42 rfl (lv_at hl 0 rfl) ?_
    refine qGet (ci := 1) (v := .int (z (10 + i) 9)) (C := RX1) (T := TX1) (N := 12) hx hb hts hin1 hown hK hP (10 + i) (WX_p g ad z hi) rfl 9 (by decide) (hts (.fieldLink RX1 45 "PartCurves$Part" "h" "I") (by decide +kernel)) rfl dX1_number_43 ?_
    exact qRi hx hb hr hlk hP hK hS dX1_number_46 (by rw [c_1_is2]; rfl) rfl
  by_cases c_1_is3 : w = 3
  · -- 1 is 3
    refine lv_tableIn (tgt := 47) hx hb dX1_number_1 (by rw [c_1_is3]; decide) (by rw [c_1_is3]; decide) (by rw [c_1_is3]; rfl) (by decide) ?_
    refine lv_aload_n hx hb dX1_number_47 rfl (lv_at hl 0 rfl) ?_
    refine qGet (ci := 1) (v := .int (z (10 + i) 10)) (C := RX1) (T := TX1) (N := 12) hx hb hts hin1 hown hK hP (10 + i) (WX_p g ad z hi) rfl 10 (by decide) (hts (.fieldLink RX1 48 "PartCurves$Part" "m" "I") (by decide +kernel)) rfl dX1_number_48 ?_
    exact qRi hx hb hr hlk hP hK hS dX1_number_51 (by rw [c_1_is3]; rfl) rfl
  refine lv_tableOut (tgt := 52) hx hb dX1_number_1 (by have := ne_toInt c_1_is0 (k := 0) rfl; have := ne_toInt c_1_is1 (k := 1) rfl; have := ne_toInt c_1_is2 (k := 2) rfl; have := ne_toInt c_1_is3 (k := 3) rfl; omega) (by decide) ?_
  refine lv_aload_n hx hb dX1_number_52 rfl (lv_at hl 0 rfl) ?_
  refine qGet (ci := 1) (v := .int (z (10 + i) 11)) (C := RX1) (T := TX1) (N := 12) hx hb hts hin1 hown hK hP (10 + i) (WX_p g ad z hi) rfl 11 (by decide) (hts (.fieldLink RX1 51 "PartCurves$Part" "c" "I") (by decide +kernel)) rfl dX1_number_53 ?_
  exact qRi hx hb hr hlk hP hK hS dX1_number_56 (by rw [num4 hw c_1_is0 c_1_is1 c_1_is2 c_1_is3]) rfl
set_option maxHeartbeats 4000000 in
set_option maxRecDepth 100000 in
theorem kX1_putNumber (l : Launch) (g : qG) {ad : Nat → Nat} (z : zS) (hj : adInj 15 ad) {i : Nat} (hi : i < 4) (w v : Int32) (hw : inR w 0 4 = true) : qMv l yX1_putNumber wsX1_putNumber 0 g (WX g ad) (adOf 15 ad) z [.ref (ad (10 + i)), .int w, .int v] (zu z (10 + i) (7 + ix w) v) := by
  refine qStart (cc := cX1_putNumber) (maxL := 3) (ret := none) (plainFor_of_name (by decide)) rfl (Nat.le_of_ble_eq_true rfl) ?_
  intro p e s m args below meth c hx hb hml hown hts hr hlk hP hK ls hl
  have hl : lv_has ls 3 [(0, .ref (ad (10 + i))), (1, .int w), (2, .int v)] := hl
  have hS : va_S (adOf 15 ad) s.heap s.heap [] := va_S.rf
  have hin1 : ∀ w ∈ u_ws RX1 TX1 12, w ∈ wsX1_putNumber := by decide +kernel
  refine lv_iload_n hx hb dX1_putNumber_0 rfl (lv_at hl 1 rfl) ?_
  by_cases c_1_is0 : w = 0
  · -- 1 is 0
    refine lv_tableIn (tgt := 32) hx hb dX1_putNumber_1 (by rw [c_1_is0]; decide) (by rw [c_1_is0]; decide) (by rw [c_1_is0]; rfl) (by decide) ?_
    refine lv_aload_n hx hb dX1_putNumber_32 rfl (lv_at hl 0 rfl) ?_
    refine lv_iload_n hx hb dX1_putNumber_33 rfl (lv_at hl 2 rfl) ?_
    refine qPut (ci := 1) (ty := .int) (C := RX1) (T := TX1) (N := 12) (u' := zu z (10 + i) 7 v) hx hb hts hin1 tyX1 tyX1_ok nmX1 hown hK hP (WX_D g z hj) hS (10 + i) (WX_p g ad z hi) rfl 7 (by decide) (hts (.fieldLink RX1 39 "PartCurves$Part" "g" "I") (by decide +kernel)) rfl (by decide +kernel) rfl rfl (Nat.le_of_ble_eq_true rfl) (WX_part g ad z hi v (k := 7) (by decide)) dX1_putNumber_34 (fun H locs hP hS => ?_)
    refine lv_goto (tgt := 69) hx hb dX1_putNumber_37 (by decide) ?_
    exact qRv hx hb hr hlk hP hK hS dX1_putNumber_69 (by rw [c_1_is0]; rfl)
  by_cases c_1_is1 : w = 1
  · -- 1 is 1
    refine lv_tableIn (tgt := 40) hx hb dX1_putNumber_1 (by rw [c_1_is1]; decide) (by rw [c_1_is1]; decide) (by rw [c_1_is1]; rfl) (by decide) ?_
    refine lv_aload_n hx hb dX1_putNumber_40 rfl (lv_at hl 0 rfl) ?_
    refine lv_iload_n hx hb dX1_putNumber_41 rfl (lv_at hl 2 rfl) ?_
    refine qPut (ci := 1) (ty := .int) (C := RX1) (T := TX1) (N := 12) (u' := zu z (10 + i) 8 v) hx hb hts hin1 tyX1 tyX1_ok nmX1 hown hK hP (WX_D g z hj) hS (10 + i) (WX_p g ad z hi) rfl 8 (by decide) (hts (.fieldLink RX1 42 "PartCurves$Part" "k" "I") (by decide +kernel)) rfl (by decide +kernel) rfl rfl (Nat.le_of_ble_eq_true rfl) (WX_part g ad z hi v (k := 8) (by decide)) dX1_putNumber_42 (fun H locs hP hS => ?_)
    refine lv_goto (tgt := 69) hx hb dX1_putNumber_45 (by decide) ?_
    exact qRv hx hb hr hlk hP hK hS dX1_putNumber_69 (by rw [c_1_is1]; rfl)
  by_cases c_1_is2 : w = 2
  · -- 1 is 2
    refine lv_tableIn (tgt := 48) hx hb dX1_putNumber_1 (by rw [c_1_is2]; decide) (by rw [c_1_is2]; decide) (by rw [c_1_is2]; rfl) (by decide) ?_
    refine lv_aload_n hx hb dX1_putNumber_48 rfl (lv_at hl 0 rfl) ?_
    refine lv_iload_n hx hb dX1_putNumber_49 rfl (lv_at hl 2 rfl) ?_
    refine qPut (ci := 1) (ty := .int) (C := RX1) (T := TX1) (N := 12) (u' := zu z (10 + i) 9 v) hx hb hts hin1 tyX1 tyX1_ok nmX1 hown hK hP (WX_D g z hj) hS (10 + i) (WX_p g ad z hi) rfl 9 (by decide) (hts (.fieldLink RX1 45 "PartCurves$Part" "h" "I") (by decide +kernel)) rfl (by decide +kernel) rfl rfl (Nat.le_of_ble_eq_true rfl) (WX_part g ad z hi v (k := 9) (by decide)) dX1_putNumber_50 (fun H locs hP hS => ?_)
    refine lv_goto (tgt := 69) hx hb dX1_putNumber_53 (by decide) ?_
    exact qRv hx hb hr hlk hP hK hS dX1_putNumber_69 (by rw [c_1_is2]; rfl)
  by_cases c_1_is3 : w = 3
  · -- 1 is 3
    refine lv_tableIn (tgt := 56) hx hb dX1_putNumber_1 (by rw [c_1_is3]; decide) (by rw [c_1_is3]; decide) (by rw [c_1_is3]; rfl) (by decide) ?_
    refine lv_aload_n hx hb dX1_putNumber_56 rfl (lv_at hl 0 rfl) ?_
    refine lv_iload_n hx hb dX1_putNumber_57 rfl (lv_at hl 2 rfl) ?_
    refine qPut (ci := 1) (ty := .int) (C := RX1) (T := TX1) (N := 12) (u' := zu z (10 + i) 10 v) hx hb hts hin1 tyX1 tyX1_ok nmX1 hown hK hP (WX_D g z hj) hS (10 + i) (WX_p g ad z hi) rfl 10 (by decide) (hts (.fieldLink RX1 48 "PartCurves$Part" "m" "I") (by decide +kernel)) rfl (by decide +kernel) rfl rfl (Nat.le_of_ble_eq_true rfl) (WX_part g ad z hi v (k := 10) (by decide)) dX1_putNumber_58 (fun H locs hP hS => ?_)
    refine lv_goto (tgt := 69) hx hb dX1_putNumber_61 (by decide) ?_
    exact qRv hx hb hr hlk hP hK hS dX1_putNumber_69 (by rw [c_1_is3]; rfl)
  refine lv_tableOut (tgt := 64) hx hb dX1_putNumber_1 (by have := ne_toInt c_1_is0 (k := 0) rfl; have := ne_toInt c_1_is1 (k := 1) rfl; have := ne_toInt c_1_is2 (k := 2) rfl; have := ne_toInt c_1_is3 (k := 3) rfl; omega) (by decide) ?_
  refine lv_aload_n hx hb dX1_putNumber_64 rfl (lv_at hl 0 rfl) ?_
  refine lv_iload_n hx hb dX1_putNumber_65 rfl (lv_at hl 2 rfl) ?_
  refine qPut (ci := 1) (ty := .int) (C := RX1) (T := TX1) (N := 12) (u' := zu z (10 + i) 11 v) hx hb hts hin1 tyX1 tyX1_ok nmX1 hown hK hP (WX_D g z hj) hS (10 + i) (WX_p g ad z hi) rfl 11 (by decide) (hts (.fieldLink RX1 51 "PartCurves$Part" "c" "I") (by decide +kernel)) rfl (by decide +kernel) rfl rfl (Nat.le_of_ble_eq_true rfl) (WX_part g ad z hi v (k := 11) (by decide)) dX1_putNumber_66 (fun H locs hP hS => ?_)
  exact qRv hx hb hr hlk hP hK hS dX1_putNumber_69 (by rw [num4 hw c_1_is0 c_1_is1 c_1_is2 c_1_is3])
set_option maxHeartbeats 4000000 in
set_option maxRecDepth 100000 in
theorem kX1_cool (l : Launch) (g : qG) {ad : Nat → Nat} (z : zS) (hj : adInj 15 ad) {i : Nat} (hi : i < 4) (n : Nat) (hn : n ≤ 100) : qMv l yX1_cool wsX1_cool 0 g (WX g ad) (adOf 15 ad) z [.ref (ad (10 + i)), .int (nI n)] (zu z (10 + i) 6 (coolN n (z (10 + i) 6))) := by
  refine qStart (cc := cX1_cool) (maxL := 3) (ret := none) (plainFor_of_name (by decide)) rfl (Nat.le_of_ble_eq_true rfl) ?_
  intro p e s m args below meth c hx hb hml hown hts hr hlk hP hK ls hl
  have hl : lv_has ls 3 [(0, .ref (ad (10 + i))), (1, .int (nI n))] := hl
  have hS : va_S (adOf 15 ad) s.heap s.heap [] := va_S.rf
  have hin1 : ∀ w ∈ u_ws RX1 TX1 12, w ∈ wsX1_cool := by decide +kernel
  have loop : ∀ (k : Nat) (j : Nat) (y : zS), j + k = n → zu y (10 + i) 6 (coolN k (y (10 + i) 6)) = zu z (10 + i) 6 (coolN n (z (10 + i) 6)) → ∀ (H : Heap) (locs : List Loc), va_P g.1 vwCl ((WX g ad) y) H → va_S (adOf 15 ad) s.heap H locs → ∀ ls : Array Slot, lv_has ls 3 [(0, .ref (ad (10 + i))), (1, .int (nI n)), (2, .int (nI j))] → W p l e (rmL 0) s m args below meth c H locs 0 0 (MQ below (va_Qv (fun u9 => u9 = zu z (10 + i) 6 (coolN n (z (10 + i) 6))) (qU g (WX g ad)) (adOf 15 ad)) args s 0 0 (adOf 15 ad)) (F0 m 2 ls []) := by
    intro k
    induction k with
    | zero =>
      intro j y hj2 hz H locs hP hS ls hl
      refine lv_iload_n hx hb dX1_cool_2 rfl (lv_at hl 2 rfl) ?_
      refine lv_iload_n hx hb dX1_cool_3 rfl (lv_at hl 1 rfl) ?_
      refine lv_icmp_ge (tgt := 32) hx hb dX1_cool_4 (by decide) (fun c_4 => ?_) (fun c_4 => ?_)
      · -- 4 taken
        have c_4n := i_le_t c_4
        exact qRv hx hb hr hlk hP hK hS dX1_cool_32 (by rw [← hz]; exact (zu_self _ _ _).symm)
      · -- 4 not taken
        have c_4n := i_le_f c_4
        exact absurd (nI_lt' (by omega) (by omega) c_4) (by omega)
    | succ k ih =>
      intro j y hj2 hz H locs hP hS ls hl
      refine lv_iload_n hx hb dX1_cool_2 rfl (lv_at hl 2 rfl) ?_
      refine lv_iload_n hx hb dX1_cool_3 rfl (lv_at hl 1 rfl) ?_
      refine lv_icmp_ge (tgt := 32) hx hb dX1_cool_4 (by decide) (fun c_4 => ?_) (fun c_4 => ?_)
      · -- 4 taken
        have c_4n := i_le_t c_4
        exact absurd (nI_ge' (by omega) (by omega) c_4) (by omega)
      · -- 4 not taken
        have c_4n := i_le_f c_4
        refine lv_aload_n hx hb dX1_cool_7 rfl (lv_at hl 0 rfl) ?_
        refine lv_dup hx hb dX1_cool_8 rfl ?_
        refine qGet (ci := 1) (v := .int (y (10 + i) 6)) (C := RX1) (T := TX1) (N := 12) hx hb hts hin1 hown hK hP (10 + i) (WX_p g ad y hi) rfl 6 (by decide) (hts (.fieldLink RX1 36 "PartCurves$Part" "heat" "I") (by decide +kernel)) rfl dX1_cool_9 ?_
        refine lv_aload_n hx hb dX1_cool_12 rfl (lv_at hl 0 rfl) ?_
        refine qGet (ci := 1) (v := .int (y (10 + i) 6)) (C := RX1) (T := TX1) (N := 12) hx hb hts hin1 hown hK hP (10 + i) (WX_p g ad y hi) rfl 6 (by decide) (hts (.fieldLink RX1 36 "PartCurves$Part" "heat" "I") (by decide +kernel)) rfl dX1_cool_13 ?_
        refine lv_bipush (v := 15) hx hb dX1_cool_16 (by decide) ?_
        refine lv_iadd hx hb dX1_cool_18 ?_
        refine lv_bipush (v := 16) hx hb dX1_cool_19 (by decide) ?_
        refine lv_idiv hx hb dX1_cool_21 (by decide) ?_
        refine lv_isub hx hb dX1_cool_22 ?_
        refine qPut (ci := 1) (ty := .int) (C := RX1) (T := TX1) (N := 12) (u' := zu y (10 + i) 6 ((y (10 + i) 6) - (((y (10 + i) 6) + 15) / 16))) hx hb hts hin1 tyX1 tyX1_ok nmX1 hown hK hP (WX_D g y hj) hS (10 + i) (WX_p g ad y hi) rfl 6 (by decide) (hts (.fieldLink RX1 36 "PartCurves$Part" "heat" "I") (by decide +kernel)) rfl (by decide +kernel) rfl rfl (Nat.le_of_ble_eq_true rfl) (WX_part g ad y hi ((y (10 + i) 6) - (((y (10 + i) 6) + 15) / 16)) (k := 6) (by decide)) dX1_cool_23 (fun H locs hP hS => ?_)
        refine lv_iinc (v := nI (j + 1)) (lv' := [(2, .int (nI (j + 1))), (0, .ref (ad (10 + i))), (1, .int (nI n))]) hx hb dX1_cool_26 hl (k := 2) rfl (nI_1 j) (by decide) rfl (fun ls hl => ?_)
        refine lv_goto (tgt := 2) hx hb dX1_cool_29 (by decide) ?_
        exact ih (j + 1) _ (by omega) (by rw [zu_zu, zu_same]; exact hz) _ _ hP hS ls (lv_sub hl [1, 2, 0] rfl)
  refine lv_iconst (v := 0) hx hb dX1_cool_0 rfl ?_
  refine lv_istore_n (lv' := [(2, .int 0), (0, .ref (ad (10 + i))), (1, .int (nI n))]) hx hb dX1_cool_1 rfl hl (by decide) rfl (fun ls hl => ?_)
  exact loop n 0 z (Nat.zero_add n) rfl _ _ hP hS ls (lv_sub hl [1, 2, 0] rfl)
set_option maxHeartbeats 4000000 in
set_option maxRecDepth 100000 in
theorem kX0_clearAll (l : Launch) (g : qG) {ad : Nat → Nat} (z : zS) (hj : adInj 15 ad) : qMv l yX0_clearAll wsX0_clearAll 0 g (WX g ad) (adOf 15 ad) z [.ref (ad 14)] (zu z 0 4 0) := by
  refine qStart (cc := cX0_clearAll) (maxL := 1) (ret := none) (plainFor_of_name (by decide)) rfl (Nat.le_of_ble_eq_true rfl) ?_
  intro p e s m args below meth c hx hb hml hown hts hr hlk hP hK ls hl
  have hl : lv_has ls 1 [(0, .ref (ad 14))] := hl
  have hS : va_S (adOf 15 ad) s.heap s.heap [] := va_S.rf
  have hin0 : ∀ w ∈ u_ws RX0 TX0 3, w ∈ wsX0_clearAll := by decide +kernel
  refine lv_aload_n hx hb dX0_clearAll_0 rfl (lv_at hl 0 rfl) ?_
  refine lv_iconst (v := 0) hx hb dX0_clearAll_1 rfl ?_
  refine qPut (ci := 0) (ty := .int) (C := RX0) (T := TX0) (N := 3) (u' := zu z 0 4 0) hx hb hts hin0 tyX0 tyX0_ok nmX0 hown hK hP (WX_D g z hj) hS 14 rfl rfl 2 (by decide) (hts (.fieldLink RX0 16 "PartCurves$Causes" "count" "I") (by decide +kernel)) rfl (by decide +kernel) rfl rfl (Nat.le_of_ble_eq_true rfl) (WX_cc g ad z 0) dX0_clearAll_2 (fun H locs hP hS => ?_)
  exact qRv hx hb hr hlk hP hK hS dX0_clearAll_5 (by first | rfl | simp [])
theorem inv_cc {z : zS} (hI : qInv z) : inR (z 0 4) 0 3 = true := hI.2.2.2.2.1
theorem inv_rc {z : zS} (hI : qInv z) : inR (z 0 3) 0 60 = true := hI.2.2.2.1
theorem ge_lt {a b : Int32} {n : Nat} (ha : inR a 0 b = true) {m : Int32} (hm : m.toInt = n) (hb : b.toInt < 2147483648) (h : ¬ m ≤ a) : vp_in a n ∧ ix a < n := by
  have h1 := inR_iff.mp ha
  have h2 : a.toInt < m.toInt := by
    rcases Int.lt_or_le a.toInt m.toInt with q | q
    · exact q
    · exact absurd (Int32.le_iff_toInt_le.mpr q) h
  have h3 : (0 : Int32).toInt = 0 := rfl
  rw [h3] at h1
  refine ⟨vp_in_iff.mpr ⟨h1.1, by omega⟩, ?_⟩
  obtain ⟨k, hk, e⟩ := nI_of (x := a) (fun q => by have := (fb_sgnI a).mp q; omega)
  rw [e, ix_nI hk]
  rw [e, nI_toInt hk] at h2
  omega
set_option maxHeartbeats 4000000 in
set_option maxRecDepth 100000 in
theorem kX0_put (l : Launch) (g : qG) {ad : Nat → Nat} (z : zS) (hj : adInj 15 ad) (t v : Int32) (hcc : inR (z 0 4) 0 3 = true) : qMv l yX0_put wsX0_put 0 g (WX g ad) (adOf 15 ad) z [.ref (ad 14), .int t, .int v] (putS z t v) := by
  refine qStart (cc := cX0_put) (maxL := 3) (ret := none) (plainFor_of_name (by decide)) rfl (Nat.le_of_ble_eq_true rfl) ?_
  intro p e s m args below meth c hx hb hml hown hts hr hlk hP hK ls hl
  have hl : lv_has ls 3 [(0, .ref (ad 14)), (1, .int t), (2, .int v)] := hl
  have hS : va_S (adOf 15 ad) s.heap s.heap [] := va_S.rf
  have hin0 : ∀ w ∈ u_ws RX0 TX0 3, w ∈ wsX0_put := by decide +kernel
  refine lv_aload_n hx hb dX0_put_0 rfl (lv_at hl 0 rfl) ?_
  refine qGet (ci := 0) (v := .int (z 0 4)) (C := RX0) (T := TX0) (N := 3) hx hb hts hin0 hown hK hP 14 rfl rfl 2 (by decide) (hts (.fieldLink RX0 16 "PartCurves$Causes" "count" "I") (by decide +kernel)) rfl dX0_put_1 ?_
  refine lv_iconst (v := 3) hx hb dX0_put_4 rfl ?_
  refine lv_icmp_ge (tgt := 38) hx hb dX0_put_5 (by decide) (fun c_5 => ?_) (fun c_5 => ?_)
  · -- 5 taken
    have c_5n := i_le_t c_5
    exact qRv hx hb hr hlk hP hK hS dX0_put_38 (by simp [putS, nlt3 c_5])
  · -- 5 not taken
    have c_5n := i_le_f c_5
    refine lv_aload_n hx hb dX0_put_8 rfl (lv_at hl 0 rfl) ?_
    refine qGet (ci := 0) (v := .ref (ad 6)) (C := RX0) (T := TX0) (N := 3) hx hb hts hin0 hown hK hP 14 rfl rfl 0 (by decide) (hts (.fieldLink RX0 9 "PartCurves$Causes" "sorts" "[I") (by decide +kernel)) rfl dX0_put_9 ?_
    refine lv_aload_n hx hb dX0_put_12 rfl (lv_at hl 0 rfl) ?_
    refine qGet (ci := 0) (v := .int (z 0 4)) (C := RX0) (T := TX0) (N := 3) hx hb hts hin0 hown hK hP 14 rfl rfl 2 (by decide) (hts (.fieldLink RX0 16 "PartCurves$Causes" "count" "I") (by decide +kernel)) rfl dX0_put_13 ?_
    refine lv_iload_n hx hb dX0_put_16 rfl (lv_at hl 1 rfl) ?_
    refine qIst (j := (ix (z 0 4))) (u' := zu z 6 (ix (z 0 4)) t) hx hb hK hP (WX_D g z hj) hS 6 rfl (ge_lt hcc (n := 3) rfl (by decide) c_5).1 rfl (WX_6 g ad z (ix (z 0 4)) t) dX0_put_17 (fun H locs hP hS => ?_)
    refine lv_aload_n hx hb dX0_put_18 rfl (lv_at hl 0 rfl) ?_
    refine qGet (ci := 0) (v := .ref (ad 7)) (C := RX0) (T := TX0) (N := 3) hx hb hts hin0 hown hK hP 14 rfl rfl 1 (by decide) (hts (.fieldLink RX0 13 "PartCurves$Causes" "numbers" "[I") (by decide +kernel)) (by simp [pF, zu, upd]) dX0_put_19 ?_
    refine lv_aload_n hx hb dX0_put_22 rfl (lv_at hl 0 rfl) ?_
    refine qGet (ci := 0) (v := .int (z 0 4)) (C := RX0) (T := TX0) (N := 3) hx hb hts hin0 hown hK hP 14 rfl rfl 2 (by decide) (hts (.fieldLink RX0 16 "PartCurves$Causes" "count" "I") (by decide +kernel)) (by simp [pF, zu, upd]) dX0_put_23 ?_
    refine lv_iload_n hx hb dX0_put_26 rfl (lv_at hl 2 rfl) ?_
    refine qIst (j := (ix (z 0 4))) (u' := zu (zu z 6 (ix (z 0 4)) t) 7 (ix (z 0 4)) v) hx hb hK hP (WX_D g (zu z 6 (ix (z 0 4)) t) hj) hS 7 rfl (ge_lt hcc (n := 3) rfl (by decide) c_5).1 rfl (WX_7 g ad (zu z 6 (ix (z 0 4)) t) (ix (z 0 4)) v) dX0_put_27 (fun H locs hP hS => ?_)
    refine lv_aload_n hx hb dX0_put_28 rfl (lv_at hl 0 rfl) ?_
    refine lv_dup hx hb dX0_put_29 rfl ?_
    refine qGet (ci := 0) (v := .int (z 0 4)) (C := RX0) (T := TX0) (N := 3) hx hb hts hin0 hown hK hP 14 rfl rfl 2 (by decide) (hts (.fieldLink RX0 16 "PartCurves$Causes" "count" "I") (by decide +kernel)) (by simp [pF, zu, upd]) dX0_put_30 ?_
    refine lv_iconst (v := 1) hx hb dX0_put_33 rfl ?_
    refine lv_iadd hx hb dX0_put_34 ?_
    refine qPut (ci := 0) (ty := .int) (C := RX0) (T := TX0) (N := 3) (u' := zu (zu (zu z 6 (ix (z 0 4)) t) 7 (ix (z 0 4)) v) 0 4 ((z 0 4) + 1)) hx hb hts hin0 tyX0 tyX0_ok nmX0 hown hK hP (WX_D g (zu (zu z 6 (ix (z 0 4)) t) 7 (ix (z 0 4)) v) hj) hS 14 rfl rfl 2 (by decide) (hts (.fieldLink RX0 16 "PartCurves$Causes" "count" "I") (by decide +kernel)) rfl (by decide +kernel) rfl rfl (Nat.le_of_ble_eq_true rfl) (WX_cc g ad (zu (zu z 6 (ix (z 0 4)) t) 7 (ix (z 0 4)) v) ((z 0 4) + 1)) dX0_put_35 (fun H locs hP hS => ?_)
    exact qRv hx hb hr hlk hP hK hS dX0_put_38 (by simp [putS, lt3 c_5])
set_option maxHeartbeats 4000000 in
set_option maxRecDepth 100000 in
theorem kX2_has (l : Launch) (g : qG) {ad : Nat → Nat} (z : zS) (hj : adInj 15 ad) (k : Int32) : qMi l yX2_has wsX2_has 0 g (WX g ad) (adOf 15 ad) z [.ref (ad 9), .int k] (bI (hasB z k)) z := by
  refine qStart (cc := cX2_has) (maxL := 2) (ret := (some .boolean)) (plainFor_of_name (by decide)) rfl (Nat.le_of_ble_eq_true rfl) ?_
  intro p e s m args below meth c hx hb hml hown hts hr hlk hP hK ls hl
  have hl : lv_has ls 2 [(0, .ref (ad 9)), (1, .int k)] := hl
  have hS : va_S (adOf 15 ad) s.heap s.heap [] := va_S.rf
  have hin2 : ∀ w ∈ u_ws RX2 TX2 5, w ∈ wsX2_has := by decide +kernel
  refine lv_iload_n hx hb dX2_has_0 rfl (lv_at hl 1 rfl) ?_
  refine lv_if_lt (tgt := 16) hx hb dX2_has_1 (by decide) (fun c_1 => ?_) (fun c_1 => ?_)
  · -- 1 taken
    have c_1n := i_lt_t c_1
    refine lv_iconst (v := 0) hx hb dX2_has_16 rfl ?_
    exact qRz hx hb hr hlk rfl hP hK hS dX2_has_17 (by first | rfl | simp [bI, hasB, c_1, c_1n]) (by first | rfl | simp [bI, hasB, c_1, c_1n])
  · -- 1 not taken
    have c_1n := i_lt_f c_1
    refine lv_iload_n hx hb dX2_has_4 rfl (lv_at hl 1 rfl) ?_
    refine lv_aload_n hx hb dX2_has_5 rfl (lv_at hl 0 rfl) ?_
    refine qGet (ci := 2) (v := .int (z 0 3)) (C := RX2) (T := TX2) (N := 5) hx hb hts hin2 hown hK hP 9 rfl rfl 4 (by decide) (hts (.fieldLink RX2 24 "PartCurves$Readings" "count" "I") (by decide +kernel)) rfl dX2_has_6 ?_
    refine lv_icmp_ge (tgt := 16) hx hb dX2_has_9 (by decide) (fun c_9 => ?_) (fun c_9 => ?_)
    · -- 9 taken
      have c_9n := i_le_t c_9
      refine lv_iconst (v := 0) hx hb dX2_has_16 rfl ?_
      exact qRz hx hb hr hlk rfl hP hK hS dX2_has_17 (by first | rfl | simp [bI, hasB, c_1, c_1n, c_9, c_9n]) (by first | rfl | simp [bI, hasB, c_1, c_1n, c_9, c_9n])
    · -- 9 not taken
      have c_9n := i_le_f c_9
      refine lv_iconst (v := 1) hx hb dX2_has_12 rfl ?_
      refine lv_goto (tgt := 17) hx hb dX2_has_13 (by decide) ?_
      exact qRz hx hb hr hlk rfl hP hK hS dX2_has_17 (by first | rfl | simp [bI, hasB, c_1, c_1n, c_9, c_9n]) (by first | rfl | simp [bI, hasB, c_1, c_1n, c_9, c_9n])
set_option maxHeartbeats 4000000 in
set_option maxRecDepth 100000 in
theorem kX2_room (l : Launch) (g : qG) {ad : Nat → Nat} (z : zS) (hj : adInj 15 ad) : qMi l yX2_room wsX2_room 0 g (WX g ad) (adOf 15 ad) z [.ref (ad 9)] (60 - z 0 3) z := by
  refine qStart (cc := cX2_room) (maxL := 1) (ret := (some .int)) (plainFor_of_name (by decide)) rfl (Nat.le_of_ble_eq_true rfl) ?_
  intro p e s m args below meth c hx hb hml hown hts hr hlk hP hK ls hl
  have hl : lv_has ls 1 [(0, .ref (ad 9))] := hl
  have hS : va_S (adOf 15 ad) s.heap s.heap [] := va_S.rf
  have hin2 : ∀ w ∈ u_ws RX2 TX2 5, w ∈ wsX2_room := by decide +kernel
  refine lv_bipush (v := 60) hx hb dX2_room_0 (by decide) ?_
  refine lv_aload_n hx hb dX2_room_2 rfl (lv_at hl 0 rfl) ?_
  refine qGet (ci := 2) (v := .int (z 0 3)) (C := RX2) (T := TX2) (N := 5) hx hb hts hin2 hown hK hP 9 rfl rfl 4 (by decide) (hts (.fieldLink RX2 24 "PartCurves$Readings" "count" "I") (by decide +kernel)) rfl dX2_room_3 ?_
  refine lv_isub hx hb dX2_room_6 ?_
  exact qRi hx hb hr hlk hP hK hS dX2_room_7 (by first | rfl | simp []) (by first | rfl | simp [])
theorem rm_1 (x : Int32) (hx : inR x 0 60 = true) : (1 ≤ 60 - x) ↔ ¬ x = 60 := by
  have h := inR_iff.mp hx
  have e0 : (0 : Int32).toInt = 0 := rfl
  have e1 : (60 : Int32).toInt = 60 := rfl
  have e2 : (1 : Int32).toInt = 1 := rfl
  rw [e0, e1] at h
  rw [Int32.le_iff_toInt_le, fb_subI (by rw [e1]; omega) (by rw [e1]; omega), e1, e2, ← Int32.toInt_inj, e1]
  omega
theorem room_in {x : Int32} (hx : inR x 0 60 = true) (h : ¬ x = 60) : vp_in x 60 := by
  have h1 := inR_iff.mp hx
  have e0 : (0 : Int32).toInt = 0 := rfl
  have e1 : (60 : Int32).toInt = 60 := rfl
  rw [e0, e1] at h1
  have := ne_toInt h (k := 60) rfl
  exact vp_in_iff.mpr ⟨h1.1, by omega⟩
set_option maxHeartbeats 4000000 in
set_option maxRecDepth 100000 in
theorem kX2_add (l : Launch) (g : qG) {ad : Nat → Nat} (z : zS) (hj : adInj 15 ad) (v t a r : Int32) (hrc : inR (z 0 3) 0 60 = true) (hnf : ¬ z 0 3 = 60) : qMv l yX2_add wsX2_add 1 g (WX g ad) (adOf 15 ad) z [.ref (ad 9), .int v, .int t, .int a, .int r] (addS z v t a r) := by
  refine qStart (cc := cX2_add) (maxL := 5) (ret := none) (plainFor_of_name (by decide)) rfl (Nat.le_of_ble_eq_true rfl) ?_
  intro p e s m args below meth c hx hb hml hown hts hr hlk hP hK ls hl
  have hl : lv_has ls 5 [(0, .ref (ad 9)), (1, .int v), (2, .int t), (3, .int a), (4, .int r)] := hl
  have hS : va_S (adOf 15 ad) s.heap s.heap [] := va_S.rf
  have hin2 : ∀ w ∈ u_ws RX2 TX2 5, w ∈ wsX2_add := by decide +kernel
  refine lv_aload_n hx hb dX2_add_0 rfl (lv_at hl 0 rfl) ?_
  refine qVi (As := []) (rest := []) hx hb hml hown hts (kX2_room l g z hj) gX2_add_X2_room rfl 0 hdX2_room rfl ⟨Nat.le_of_ble_eq_true rfl, Nat.le_of_ble_eq_true rfl⟩ ⟨Nat.zero_le _, Nat.zero_le _⟩ hK hP hS (fun _ h => h) 9 2 rfl rfl rfl hl.1 rfl (Nat.le_of_ble_eq_true rfl) dX2_add_1 (fun H locs hP hS => ?_)
  refine lv_iconst (v := 1) hx hb dX2_add_4 rfl ?_
  refine lv_icmp_ge (tgt := 9) hx hb dX2_add_5 (by decide) (fun c_5 => ?_) (fun c_5 => ?_)
  · -- 5 taken
    have c_5n := i_le_t c_5
    refine lv_aload_n hx hb dX2_add_9 rfl (lv_at hl 0 rfl) ?_
    refine qGet (ci := 2) (v := .ref (ad 2)) (C := RX2) (T := TX2) (N := 5) hx hb hts hin2 hown hK hP 9 rfl rfl 0 (by decide) (hts (.fieldLink RX2 11 "PartCurves$Readings" "forced" "[I") (by decide +kernel)) rfl dX2_add_10 ?_
    refine lv_aload_n hx hb dX2_add_13 rfl (lv_at hl 0 rfl) ?_
    refine qGet (ci := 2) (v := .int (z 0 3)) (C := RX2) (T := TX2) (N := 5) hx hb hts hin2 hown hK hP 9 rfl rfl 4 (by decide) (hts (.fieldLink RX2 24 "PartCurves$Readings" "count" "I") (by decide +kernel)) rfl dX2_add_14 ?_
    refine lv_iload_n hx hb dX2_add_17 rfl (lv_at hl 1 rfl) ?_
    refine qIst (j := (ix (z 0 3))) (u' := zu z 2 (ix (z 0 3)) v) hx hb hK hP (WX_D g z hj) hS 2 rfl (room_in hrc hnf) rfl (WX_2 g ad z (ix (z 0 3)) v) dX2_add_18 (fun H locs hP hS => ?_)
    refine lv_aload_n hx hb dX2_add_19 rfl (lv_at hl 0 rfl) ?_
    refine qGet (ci := 2) (v := .ref (ad 3)) (C := RX2) (T := TX2) (N := 5) hx hb hts hin2 hown hK hP 9 rfl rfl 1 (by decide) (hts (.fieldLink RX2 15 "PartCurves$Readings" "told" "[I") (by decide +kernel)) (by simp [pF, zu, upd]) dX2_add_20 ?_
    refine lv_aload_n hx hb dX2_add_23 rfl (lv_at hl 0 rfl) ?_
    refine qGet (ci := 2) (v := .int (z 0 3)) (C := RX2) (T := TX2) (N := 5) hx hb hts hin2 hown hK hP 9 rfl rfl 4 (by decide) (hts (.fieldLink RX2 24 "PartCurves$Readings" "count" "I") (by decide +kernel)) (by simp [pF, zu, upd]) dX2_add_24 ?_
    refine lv_iload_n hx hb dX2_add_27 rfl (lv_at hl 2 rfl) ?_
    refine qIst (j := (ix (z 0 3))) (u' := zu (zu z 2 (ix (z 0 3)) v) 3 (ix (z 0 3)) t) hx hb hK hP (WX_D g (zu z 2 (ix (z 0 3)) v) hj) hS 3 rfl (room_in hrc hnf) rfl (WX_3 g ad (zu z 2 (ix (z 0 3)) v) (ix (z 0 3)) t) dX2_add_28 (fun H locs hP hS => ?_)
    refine lv_aload_n hx hb dX2_add_29 rfl (lv_at hl 0 rfl) ?_
    refine qGet (ci := 2) (v := .ref (ad 4)) (C := RX2) (T := TX2) (N := 5) hx hb hts hin2 hown hK hP 9 rfl rfl 2 (by decide) (hts (.fieldLink RX2 18 "PartCurves$Readings" "flowed" "[I") (by decide +kernel)) (by simp [pF, zu, upd]) dX2_add_30 ?_
    refine lv_aload_n hx hb dX2_add_33 rfl (lv_at hl 0 rfl) ?_
    refine qGet (ci := 2) (v := .int (z 0 3)) (C := RX2) (T := TX2) (N := 5) hx hb hts hin2 hown hK hP 9 rfl rfl 4 (by decide) (hts (.fieldLink RX2 24 "PartCurves$Readings" "count" "I") (by decide +kernel)) (by simp [pF, zu, upd]) dX2_add_34 ?_
    refine lv_iload_n hx hb dX2_add_37 rfl (lv_at hl 3 rfl) ?_
    refine qIst (j := (ix (z 0 3))) (u' := zu (zu (zu z 2 (ix (z 0 3)) v) 3 (ix (z 0 3)) t) 4 (ix (z 0 3)) a) hx hb hK hP (WX_D g (zu (zu z 2 (ix (z 0 3)) v) 3 (ix (z 0 3)) t) hj) hS 4 rfl (room_in hrc hnf) rfl (WX_4 g ad (zu (zu z 2 (ix (z 0 3)) v) 3 (ix (z 0 3)) t) (ix (z 0 3)) a) dX2_add_38 (fun H locs hP hS => ?_)
    refine lv_aload_n hx hb dX2_add_39 rfl (lv_at hl 0 rfl) ?_
    refine qGet (ci := 2) (v := .ref (ad 5)) (C := RX2) (T := TX2) (N := 5) hx hb hts hin2 hown hK hP 9 rfl rfl 3 (by decide) (hts (.fieldLink RX2 21 "PartCurves$Readings" "rules" "[I") (by decide +kernel)) (by simp [pF, zu, upd]) dX2_add_40 ?_
    refine lv_aload_n hx hb dX2_add_43 rfl (lv_at hl 0 rfl) ?_
    refine qGet (ci := 2) (v := .int (z 0 3)) (C := RX2) (T := TX2) (N := 5) hx hb hts hin2 hown hK hP 9 rfl rfl 4 (by decide) (hts (.fieldLink RX2 24 "PartCurves$Readings" "count" "I") (by decide +kernel)) (by simp [pF, zu, upd]) dX2_add_44 ?_
    refine lv_iload hx hb dX2_add_47 (lv_at hl 4 rfl) ?_
    refine qIst (j := (ix (z 0 3))) (u' := zu (zu (zu (zu z 2 (ix (z 0 3)) v) 3 (ix (z 0 3)) t) 4 (ix (z 0 3)) a) 5 (ix (z 0 3)) r) hx hb hK hP (WX_D g (zu (zu (zu z 2 (ix (z 0 3)) v) 3 (ix (z 0 3)) t) 4 (ix (z 0 3)) a) hj) hS 5 rfl (room_in hrc hnf) rfl (WX_5 g ad (zu (zu (zu z 2 (ix (z 0 3)) v) 3 (ix (z 0 3)) t) 4 (ix (z 0 3)) a) (ix (z 0 3)) r) dX2_add_49 (fun H locs hP hS => ?_)
    refine lv_aload_n hx hb dX2_add_50 rfl (lv_at hl 0 rfl) ?_
    refine lv_dup hx hb dX2_add_51 rfl ?_
    refine qGet (ci := 2) (v := .int (z 0 3)) (C := RX2) (T := TX2) (N := 5) hx hb hts hin2 hown hK hP 9 rfl rfl 4 (by decide) (hts (.fieldLink RX2 24 "PartCurves$Readings" "count" "I") (by decide +kernel)) (by simp [pF, zu, upd]) dX2_add_52 ?_
    refine lv_iconst (v := 1) hx hb dX2_add_55 rfl ?_
    refine lv_iadd hx hb dX2_add_56 ?_
    refine qPut (ci := 2) (ty := .int) (C := RX2) (T := TX2) (N := 5) (u' := zu (zu (zu (zu (zu z 2 (ix (z 0 3)) v) 3 (ix (z 0 3)) t) 4 (ix (z 0 3)) a) 5 (ix (z 0 3)) r) 0 3 ((z 0 3) + 1)) hx hb hts hin2 tyX2 tyX2_ok nmX2 hown hK hP (WX_D g (zu (zu (zu (zu z 2 (ix (z 0 3)) v) 3 (ix (z 0 3)) t) 4 (ix (z 0 3)) a) 5 (ix (z 0 3)) r) hj) hS 9 rfl rfl 4 (by decide) (hts (.fieldLink RX2 24 "PartCurves$Readings" "count" "I") (by decide +kernel)) rfl (by decide +kernel) rfl rfl (Nat.le_of_ble_eq_true rfl) (WX_rc g ad (zu (zu (zu (zu z 2 (ix (z 0 3)) v) 3 (ix (z 0 3)) t) 4 (ix (z 0 3)) a) 5 (ix (z 0 3)) r) ((z 0 3) + 1)) dX2_add_57 (fun H locs hP hS => ?_)
    exact qRv hx hb hr hlk hP hK hS dX2_add_60 (by first | rfl | simp [addS, c_5, c_5n])
  · -- 5 not taken
    have c_5n := i_le_f c_5
    exact absurd ((rm_1 _ hrc).mpr hnf) c_5
theorem cnt_lt {x : Int32} (hx : inR x 0 60 = true) {j : Nat} (h : ¬ x ≤ nI j) (hj : j < 2 ^ 31) : j < ix x := by
  obtain ⟨h1, h2, h3⟩ := inR_ix (n := 60) rfl hx
  rw [h2] at h
  exact nI_lt' hj (by omega) h
theorem cnt_ge {x : Int32} (hx : inR x 0 60 = true) {j : Nat} (h : x ≤ nI j) (hj : j < 2 ^ 31) : ix x ≤ j := by
  obtain ⟨h1, h2, h3⟩ := inR_ix (n := 60) rfl hx
  rw [h2] at h
  exact nI_ge' hj (by omega) h
set_option maxHeartbeats 4000000 in
set_option maxRecDepth 100000 in
theorem kX2_withRule (l : Launch) (g : qG) {ad : Nat → Nat} (z : zS) (hj : adInj 15 ad) (r : Int32) (hrc : inR (z 0 3) 0 60 = true) : qMi l yX2_withRule wsX2_withRule 0 g (WX g ad) (adOf 15 ad) z [.ref (ad 9), .int r] (wrF z r) z := by
  refine qStart (cc := cX2_withRule) (maxL := 4) (ret := (some .int)) (plainFor_of_name (by decide)) rfl (Nat.le_of_ble_eq_true rfl) ?_
  intro p e s m args below meth c hx hb hml hown hts hr hlk hP hK ls hl
  have hl : lv_has ls 4 [(0, .ref (ad 9)), (1, .int r)] := hl
  have hS : va_S (adOf 15 ad) s.heap s.heap [] := va_S.rf
  have hin2 : ∀ w ∈ u_ws RX2 TX2 5, w ∈ wsX2_withRule := by decide +kernel
  have loop : ∀ (k : Nat) (j : Nat) (g2 : Int32), j + k = ix (z 0 3) → wrR z r k j g2 = wrF z r → ∀ (H : Heap) (locs : List Loc), va_P g.1 vwCl ((WX g ad) z) H → va_S (adOf 15 ad) s.heap H locs → ∀ ls : Array Slot, lv_has ls 4 [(0, .ref (ad 9)), (1, .int r), (2, .int g2), (3, .int (nI j))] → W p l e (rmL 0) s m args below meth c H locs 0 0 (MQ below (va_Qi (fun q9 u9 => q9 = wrF z r ∧ u9 = z) (qU g (WX g ad)) (adOf 15 ad)) args s 0 0 (adOf 15 ad)) (F0 m 4 ls []) := by
    intro k
    induction k with
    | zero =>
      intro j g2 hj2 hz H locs hP hS ls hl
      refine lv_iload_n hx hb dX2_withRule_4 rfl (lv_at hl 3 rfl) ?_
      refine lv_aload_n hx hb dX2_withRule_5 rfl (lv_at hl 0 rfl) ?_
      refine qGet (ci := 2) (v := .int (z 0 3)) (C := RX2) (T := TX2) (N := 5) hx hb hts hin2 hown hK hP 9 rfl rfl 4 (by decide) (hts (.fieldLink RX2 24 "PartCurves$Readings" "count" "I") (by decide +kernel)) rfl dX2_withRule_6 ?_
      refine lv_icmp_ge (tgt := 31) hx hb dX2_withRule_9 (by decide) (fun c_9 => ?_) (fun c_9 => ?_)
      · -- 9 taken
        have c_9n := i_le_t c_9
        refine lv_iload_n hx hb dX2_withRule_31 rfl (lv_at hl 2 rfl) ?_
        exact qRi hx hb hr hlk hP hK hS dX2_withRule_32 hz rfl
      · -- 9 not taken
        have c_9n := i_le_f c_9
        exact absurd (cnt_lt hrc c_9 (by have := (inR_ix (n := 60) rfl hrc).1; omega)) (by omega)
    | succ k ih =>
      intro j g2 hj2 hz H locs hP hS ls hl
      refine lv_iload_n hx hb dX2_withRule_4 rfl (lv_at hl 3 rfl) ?_
      refine lv_aload_n hx hb dX2_withRule_5 rfl (lv_at hl 0 rfl) ?_
      refine qGet (ci := 2) (v := .int (z 0 3)) (C := RX2) (T := TX2) (N := 5) hx hb hts hin2 hown hK hP 9 rfl rfl 4 (by decide) (hts (.fieldLink RX2 24 "PartCurves$Readings" "count" "I") (by decide +kernel)) rfl dX2_withRule_6 ?_
      refine lv_icmp_ge (tgt := 31) hx hb dX2_withRule_9 (by decide) (fun c_9 => ?_) (fun c_9 => ?_)
      · -- 9 taken
        have c_9n := i_le_t c_9
        exact absurd (cnt_ge hrc c_9 (by have := (inR_ix (n := 60) rfl hrc).1; omega)) (by omega)
      · -- 9 not taken
        have c_9n := i_le_f c_9
        refine lv_aload_n hx hb dX2_withRule_12 rfl (lv_at hl 0 rfl) ?_
        refine qGet (ci := 2) (v := .ref (ad 5)) (C := RX2) (T := TX2) (N := 5) hx hb hts hin2 hown hK hP 9 rfl rfl 3 (by decide) (hts (.fieldLink RX2 21 "PartCurves$Readings" "rules" "[I") (by decide +kernel)) rfl dX2_withRule_13 ?_
        refine lv_iload_n hx hb dX2_withRule_16 rfl (lv_at hl 3 rfl) ?_
        refine qIld (v := (z 5 j)) hx hb hK hP 5 rfl (vp_in_nI (n := j) (N := 60) (by have := (inR_ix (n := 60) rfl hrc).1; omega) (by decide)) (congrArg (z 5) (nI_e j (by have := (inR_ix (n := 60) rfl hrc).1; omega))) dX2_withRule_17 ?_
        refine lv_iload_n hx hb dX2_withRule_18 rfl (lv_at hl 1 rfl) ?_
        refine lv_icmp_ne (tgt := 25) hx hb dX2_withRule_19 (by decide) (fun c_19 => ?_) (fun c_19 => ?_)
        · -- 19 taken
          refine lv_iinc (v := nI (j + 1)) (lv' := [(3, .int (nI (j + 1))), (0, .ref (ad 9)), (1, .int r), (2, .int g2)]) hx hb dX2_withRule_25 hl (k := 3) rfl (nI_1 j) (by decide) rfl (fun ls hl => ?_)
          refine lv_goto (tgt := 4) hx hb dX2_withRule_28 (by decide) ?_
          exact ih (j + 1) _ (by omega) (by rw [← hz]; simp [wrR, c_19]) _ _ hP hS ls (lv_sub hl [1, 2, 3, 0] rfl)
        · -- 19 not taken
          refine lv_iinc (v := g2 + 1) (lv' := [(2, .int (g2 + 1)), (0, .ref (ad 9)), (1, .int r), (3, .int (nI j))]) hx hb dX2_withRule_22 hl (k := 2) rfl rfl (by decide) rfl (fun ls hl => ?_)
          refine lv_iinc (v := nI (j + 1)) (lv' := [(3, .int (nI (j + 1))), (2, .int (g2 + 1)), (0, .ref (ad 9)), (1, .int r)]) hx hb dX2_withRule_25 hl (k := 3) rfl (nI_1 j) (by decide) rfl (fun ls hl => ?_)
          refine lv_goto (tgt := 4) hx hb dX2_withRule_28 (by decide) ?_
          exact ih (j + 1) _ (by omega) (by rw [← hz]; simp [wrR, c_19]) _ _ hP hS ls (lv_sub hl [2, 3, 1, 0] rfl)
  refine lv_iconst (v := 0) hx hb dX2_withRule_0 rfl ?_
  refine lv_istore_n (lv' := [(2, .int 0), (0, .ref (ad 9)), (1, .int r)]) hx hb dX2_withRule_1 rfl hl (by decide) rfl (fun ls hl => ?_)
  refine lv_iconst (v := 0) hx hb dX2_withRule_2 rfl ?_
  refine lv_istore_n (lv' := [(3, .int 0), (2, .int 0), (0, .ref (ad 9)), (1, .int r)]) hx hb dX2_withRule_3 rfl hl (by decide) rfl (fun ls hl => ?_)
  exact loop (ix (z 0 3)) 0 0 (Nat.zero_add _) rfl _ _ hP hS ls (lv_sub hl [2, 3, 1, 0] rfl)
end
section
/-! AMPS NEVER FALL as volts rise: so what is found by halving is what a walk finds. -/
theorem mulB {a b A B : Int} (h1 : -A ≤ a) (h2 : a ≤ A) (h3 : 0 ≤ b) (h4 : b ≤ B) (hA : 0 ≤ A) : -(A * B) ≤ a * b ∧ a * b ≤ A * B := by
  have e1 : a * b ≤ A * b := Int.mul_le_mul_of_nonneg_right h2 h3
  have e2 : A * b ≤ A * B := Int.mul_le_mul_of_nonneg_left h4 hA
  have e3 : -A * b ≤ a * b := Int.mul_le_mul_of_nonneg_right h1 h3
  have e4 : -A * b = -(A * b) := Int.neg_mul A b
  omega
theorem i0 : (0 : Int32).toInt = 0 := rfl
theorem inR_b {v a b : Int32} (h : inR v a b = true) {x y : Int} (hx : a.toInt = x) (hy : b.toInt = y) : x ≤ v.toInt ∧ v.toInt ≤ y := by
  have := inR_iff.mp h
  omega
def coldZ (kind opn g k h v : Int) : Int :=
  if kind = 0 then v * g / 1000
  else if kind = 3 then (if opn = 0 then v * h / 1000 else v * g / 1000)
  else (v * h / 1000 + (if k < v then (v - k) * g / 1000 else 0)) + (if kind = 2 ∧ v < -k then (v + k) * g / 1000 else 0)
theorem fdv1000 (x : Int32) : (fdv x 1000).toInt = x.toInt / 1000 := fdv_toInt x 1000 (by decide)
theorem mulv {v g : Int32} {V G : Int} (h1 : -V ≤ v.toInt) (h2 : v.toInt ≤ V) (h3 : 0 ≤ g.toInt) (h4 : g.toInt ≤ G) (hV : 0 ≤ V) (hb : V * G < 2147483648) : (v * g).toInt = v.toInt * g.toInt ∧ -(V * G) ≤ v.toInt * g.toInt ∧ v.toInt * g.toInt ≤ V * G := by
  have h := mulB h1 h2 h3 h4 hV
  exact ⟨fb_mulI (by omega) (by omega), h.1, h.2⟩
theorem coldF_Z {f : Nat → Int32} (hf : partInv f) {v : Int32} (h1 : -3000 ≤ v.toInt) (h2 : v.toInt ≤ 3000) : (coldF f v).toInt = coldZ (f 5).toInt (f 2).toInt (f 7).toInt (f 8).toInt (f 9).toInt v.toInt := by
  obtain ⟨-, -, h2o, -, -, hk, -, hg, hkk, hh, -, -⟩ := hf
  have hk := inR_b hk (x := 0) (y := 3) rfl rfl
  have hg := inR_b hg (x := 0) (y := 5000) rfl rfl
  have hkk := inR_b hkk (x := 0) (y := 2000) rfl rfl
  have hh := inR_b hh (x := 0) (y := 2000) rfl rfl
  have mg := mulv h1 h2 hg.1 hg.2 (by decide) (by decide)
  have mh := mulv h1 h2 hh.1 hh.2 (by decide) (by decide)
  have e0 : (f 5 = 0) ↔ (f 5).toInt = 0 := by rw [← Int32.toInt_inj]; rfl
  have e3 : (f 5 = 3) ↔ (f 5).toInt = 3 := by rw [← Int32.toInt_inj]; rfl
  have e2 : (f 5 = 2) ↔ (f 5).toInt = 2 := by rw [← Int32.toInt_inj]; rfl
  have eo : (f 2 = 0) ↔ (f 2).toInt = 0 := by rw [← Int32.toInt_inj]; rfl
  unfold coldF coldZ
  by_cases c0 : f 5 = 0
  · rw [if_pos c0, if_pos (e0.mp c0), fdv1000, mg.1]
  · rw [if_neg c0, if_neg (fun q => c0 (e0.mpr q))]
    by_cases c3 : f 5 = 3
    · rw [if_pos c3, if_pos (e3.mp c3)]
      by_cases co : f 2 = 0
      · rw [if_pos co, if_pos (eo.mp co), fdv1000, mh.1]
      · rw [if_neg co, if_neg (fun q => co (eo.mpr q)), fdv1000, mg.1]
    · rw [if_neg c3, if_neg (fun q => c3 (e3.mpr q))]
      have ea : (fdv (v * f 9) 1000).toInt = v.toInt * (f 9).toInt / 1000 := by rw [fdv1000, mh.1]
      have eb : (if f 8 < v then fdv ((v - f 8) * f 7) 1000 else 0).toInt = (if (f 8).toInt < v.toInt then (v.toInt - (f 8).toInt) * (f 7).toInt / 1000 else 0) ∧ 0 ≤ (if (f 8).toInt < v.toInt then (v.toInt - (f 8).toInt) * (f 7).toInt / 1000 else 0) ∧ (if (f 8).toInt < v.toInt then (v.toInt - (f 8).toInt) * (f 7).toInt / 1000 else 0) ≤ 15000 := by
        by_cases c : f 8 < v
        · have c' := Int32.lt_iff_toInt_lt.mp c
          rw [if_pos c, if_pos c']
          have es : (v - f 8).toInt = v.toInt - (f 8).toInt := fb_subI (by omega) (by omega)
          have ms := mulv (v := v - f 8) (g := f 7) (V := 3000) (G := 5000) (by rw [es]; omega) (by rw [es]; omega) hg.1 hg.2 (by decide) (by decide)
          rw [es] at ms
          have mn : 0 ≤ (v.toInt - (f 8).toInt) * (f 7).toInt := Int.mul_nonneg (by omega) hg.1
          refine ⟨by rw [fdv1000, ms.1], by omega, by omega⟩
        · have c' : ¬ (f 8).toInt < v.toInt := fun q => c (Int32.lt_iff_toInt_lt.mpr q)
          rw [if_neg c, if_neg c']
          exact ⟨rfl, by omega, by omega⟩
      have ec : (if f 5 = 2 ∧ v < -(f 8) then fdv ((v + f 8) * f 7) 1000 else 0).toInt = (if (f 5).toInt = 2 ∧ v.toInt < -(f 8).toInt then (v.toInt + (f 8).toInt) * (f 7).toInt / 1000 else 0) ∧ -15000 ≤ (if (f 5).toInt = 2 ∧ v.toInt < -(f 8).toInt then (v.toInt + (f 8).toInt) * (f 7).toInt / 1000 else 0) ∧ (if (f 5).toInt = 2 ∧ v.toInt < -(f 8).toInt then (v.toInt + (f 8).toInt) * (f 7).toInt / 1000 else 0) ≤ 0 := by
        have en : (-(f 8)).toInt = -(f 8).toInt := fb_negI (by omega)
        have el : (v < -(f 8)) ↔ v.toInt < -(f 8).toInt := by rw [Int32.lt_iff_toInt_lt, en]
        by_cases c : f 5 = 2 ∧ v < -(f 8)
        · have c' : (f 5).toInt = 2 ∧ v.toInt < -(f 8).toInt := ⟨e2.mp c.1, el.mp c.2⟩
          rw [if_pos c, if_pos c']
          have es : (v + f 8).toInt = v.toInt + (f 8).toInt := fb_addI (by omega) (by omega)
          have ms := mulv (v := v + f 8) (g := f 7) (V := 3000) (G := 5000) (by rw [es]; omega) (by rw [es]; omega) hg.1 hg.2 (by decide) (by decide)
          rw [es] at ms
          have mn : (v.toInt + (f 8).toInt) * (f 7).toInt ≤ 0 := Int.mul_nonpos_of_nonpos_of_nonneg (by omega) hg.1
          refine ⟨by rw [fdv1000, ms.1], by omega, by omega⟩
        · have c' : ¬ ((f 5).toInt = 2 ∧ v.toInt < -(f 8).toInt) := fun q => c ⟨e2.mpr q.1, el.mpr q.2⟩
          rw [if_neg c, if_neg c']
          exact ⟨rfl, by omega, by omega⟩
      have s1 : (fdv (v * f 9) 1000 + (if f 8 < v then fdv ((v - f 8) * f 7) 1000 else 0)).toInt = v.toInt * (f 9).toInt / 1000 + (if (f 8).toInt < v.toInt then (v.toInt - (f 8).toInt) * (f 7).toInt / 1000 else 0) := by
        rw [fb_addI (by rw [ea, eb.1]; omega) (by rw [ea, eb.1]; omega), ea, eb.1]
      rw [fb_addI (by rw [s1, ec.1]; omega) (by rw [s1, ec.1]; omega), s1, ec.1]
theorem dmono {a b : Int} (h : a ≤ b) : a / 1000 ≤ b / 1000 := by omega
theorem coldZ_mono {kind opn g k h v w : Int} (hg : 0 ≤ g) (hk : 0 ≤ k) (hh : 0 ≤ h) (hvw : v ≤ w) : coldZ kind opn g k h v ≤ coldZ kind opn g k h w := by
  have m1 : v * g ≤ w * g := Int.mul_le_mul_of_nonneg_right hvw hg
  have m2 : v * h ≤ w * h := Int.mul_le_mul_of_nonneg_right hvw hh
  unfold coldZ
  by_cases c0 : kind = 0
  · rw [if_pos c0, if_pos c0]; exact dmono m1
  · rw [if_neg c0, if_neg c0]
    by_cases c3 : kind = 3
    · rw [if_pos c3, if_pos c3]
      by_cases co : opn = 0
      · rw [if_pos co, if_pos co]; exact dmono m2
      · rw [if_neg co, if_neg co]; exact dmono m1
    · rw [if_neg c3, if_neg c3]
      have a1 : (if k < v then (v - k) * g / 1000 else 0) ≤ (if k < w then (w - k) * g / 1000 else 0) := by
        by_cases c : k < v
        · rw [if_pos c, if_pos (by omega)]
          exact dmono (Int.mul_le_mul_of_nonneg_right (by omega) hg)
        · rw [if_neg c]
          by_cases c2 : k < w
          · rw [if_pos c2]
            have : 0 ≤ (w - k) * g := Int.mul_nonneg (by omega) hg
            omega
          · rw [if_neg c2]; omega
      have a2 : (if kind = 2 ∧ v < -k then (v + k) * g / 1000 else 0) ≤ (if kind = 2 ∧ w < -k then (w + k) * g / 1000 else 0) := by
        by_cases c : kind = 2 ∧ w < -k
        · rw [if_pos c, if_pos ⟨c.1, by omega⟩]
          exact dmono (Int.mul_le_mul_of_nonneg_right (by omega) hg)
        · rw [if_neg c]
          by_cases c2 : kind = 2 ∧ v < -k
          · rw [if_pos c2]
            have : (v + k) * g ≤ 0 := Int.mul_nonpos_of_nonpos_of_nonneg (by omega) hg
            omega
          · rw [if_neg c2]; omega
      have a3 := dmono m2
      omega
theorem coldZ_0 {kind opn g k h : Int} (hk : 0 ≤ k) : coldZ kind opn g k h 0 = 0 := by
  unfold coldZ
  have h1 : ¬ k < 0 := by omega
  have h2 : ¬ (kind = 2 ∧ 0 < -k) := by omega
  simp [h1, h2]
theorem coldZ_b {kind opn g k h v : Int} (hg : 0 ≤ g) (hg2 : g ≤ 5000) (hk : 0 ≤ k) (hh : 0 ≤ h) (hh2 : h ≤ 2000) (h1 : -3000 ≤ v) (h2 : v ≤ 3000) : -21000 ≤ coldZ kind opn g k h v ∧ coldZ kind opn g k h v ≤ 21000 := by
  have m1 := mulB h1 h2 hg hg2 (by decide)
  have m2 := mulB h1 h2 hh hh2 (by decide)
  unfold coldZ
  by_cases c0 : kind = 0
  · rw [if_pos c0]; omega
  · rw [if_neg c0]
    by_cases c3 : kind = 3
    · rw [if_pos c3]
      by_cases co : opn = 0
      · rw [if_pos co]; omega
      · rw [if_neg co]; omega
    · rw [if_neg c3]
      have a1 : 0 ≤ (if k < v then (v - k) * g / 1000 else 0) ∧ (if k < v then (v - k) * g / 1000 else 0) ≤ 15000 := by
        by_cases c : k < v
        · rw [if_pos c]
          have := mulB (a := v - k) (b := g) (A := 3000) (B := 5000) (by omega) (by omega) hg hg2 (by decide)
          have : 0 ≤ (v - k) * g := Int.mul_nonneg (by omega) hg
          omega
        · rw [if_neg c]; omega
      have a2 : -15000 ≤ (if kind = 2 ∧ v < -k then (v + k) * g / 1000 else 0) ∧ (if kind = 2 ∧ v < -k then (v + k) * g / 1000 else 0) ≤ 0 := by
        by_cases c : kind = 2 ∧ v < -k
        · rw [if_pos c]
          have := mulB (a := v + k) (b := g) (A := 3000) (B := 5000) (by omega) (by omega) hg hg2 (by decide)
          have : (v + k) * g ≤ 0 := Int.mul_nonpos_of_nonpos_of_nonneg (by omega) hg
          omega
        · rw [if_neg c]; omega
      omega
/-- own amps in whole numbers -/
def ownZ (f : Nat → Int32) (v : Int) : Int := if (f 1).toInt = 0 then 1000 * coldZ (f 5).toInt (f 2).toInt (f 7).toInt (f 8).toInt (f 9).toInt v / (1000 + (f 11).toInt * (f 6).toInt) else 0
theorem byZ {f : Nat → Int32} (hf : partInv f) : (1000 + f 11 * f 6).toInt = 1000 + (f 11).toInt * (f 6).toInt ∧ 0 ≤ (f 11).toInt * (f 6).toInt ∧ (f 11).toInt * (f 6).toInt ≤ 5000 := by
  obtain ⟨-, -, -, -, -, -, h6, -, -, -, -, h11⟩ := hf
  have h6 := inR_b h6 (x := 0) (y := 1000) rfl rfl
  have h11 := inR_b h11 (x := 0) (y := 5) rfl rfl
  have m := mulv (v := f 11) (g := f 6) (V := 5) (G := 1000) (by omega) h11.2 h6.1 h6.2 (by decide) (by decide)
  have n : 0 ≤ (f 11).toInt * (f 6).toInt := Int.mul_nonneg h11.1 h6.1
  have e : (1000 : Int32).toInt = 1000 := rfl
  exact ⟨by rw [fb_addI (by rw [e, m.1]; omega) (by rw [e, m.1]; omega), e, m.1], n, by omega⟩
theorem ownF_Z {f : Nat → Int32} (hf : partInv f) {v : Int32} (h1 : -3000 ≤ v.toInt) (h2 : v.toInt ≤ 3000) : (ownF f v).toInt = ownZ f v.toInt := by
  have hb := byZ hf
  have hc := coldF_Z hf h1 h2
  have hf0 := hf
  obtain ⟨-, -, h2o, -, -, hk, -, hg, hkk, hh, -, -⟩ := hf
  have hg := inR_b hg (x := 0) (y := 5000) rfl rfl
  have hkk := inR_b hkk (x := 0) (y := 2000) rfl rfl
  have hh := inR_b hh (x := 0) (y := 2000) rfl rfl
  have hcb := coldZ_b (kind := (f 5).toInt) (opn := (f 2).toInt) hg.1 hg.2 hkk.1 hh.1 hh.2 h1 h2
  have e1 : (f 1 = 0) ↔ (f 1).toInt = 0 := by rw [← Int32.toInt_inj]; rfl
  have eth : (1000 : Int32).toInt = 1000 := rfl
  have eone : (1 : Int32).toInt = 1 := rfl
  unfold ownF ownZ
  by_cases c : f 1 = 0
  · rw [if_pos c, if_pos (e1.mp c), if_pos (by rw [Int32.le_iff_toInt_le, eone, hb.1]; omega)]
    have em : (1000 * coldF f v).toInt = 1000 * coldZ (f 5).toInt (f 2).toInt (f 7).toInt (f 8).toInt (f 9).toInt v.toInt := by
      rw [fb_mulI (by rw [eth, hc]; omega) (by rw [eth, hc]; omega), eth, hc]
    rw [fdv_toInt _ _ (by rw [hb.1]; omega), em, hb.1]
  · rw [if_neg c, if_neg (fun q => c (e1.mpr q))]; rfl
theorem ownZ_mono {f : Nat → Int32} (hf : partInv f) {v w : Int} (h : v ≤ w) : ownZ f v ≤ ownZ f w := by
  have hb := byZ hf
  obtain ⟨-, -, -, -, -, -, -, hg, hkk, hh, -, -⟩ := hf
  have hg := inR_b hg (x := 0) (y := 5000) rfl rfl
  have hkk := inR_b hkk (x := 0) (y := 2000) rfl rfl
  have hh := inR_b hh (x := 0) (y := 2000) rfl rfl
  have hm := coldZ_mono (kind := (f 5).toInt) (opn := (f 2).toInt) hg.1 hkk.1 hh.1 h
  unfold ownZ
  by_cases c : (f 1).toInt = 0
  · rw [if_pos c, if_pos c]
    exact Int.ediv_le_ediv (by omega) (by omega)
  · rw [if_neg c, if_neg c]; omega
theorem ownZ_0 {f : Nat → Int32} (hf : partInv f) : ownZ f 0 = 0 := by
  obtain ⟨-, -, -, -, -, -, -, hg, hkk, hh, -, -⟩ := hf
  have hkk := inR_b hkk (x := 0) (y := 2000) rfl rfl
  unfold ownZ
  rw [coldZ_0 hkk.1]
  simp
theorem div_big {c d : Int} (hd : 1000 ≤ d) (h1 : -21000 ≤ c) (h2 : c ≤ 21000) : -21000 ≤ 1000 * c / d ∧ 1000 * c / d ≤ 21000 := by
  have p : 0 < d := by omega
  refine ⟨?_, ?_⟩
  · rw [Int.le_ediv_iff_mul_le p]
    have : -21000 * d ≤ -21000 * 1000 := Int.mul_le_mul_of_nonpos_left (by omega) hd
    omega
  · have : 1000 * c / d < 21001 := by
      rw [Int.ediv_lt_iff_lt_mul p]
      have : 21001 * 1000 ≤ 21001 * d := Int.mul_le_mul_of_nonneg_left hd (by omega)
      omega
    omega
theorem ownZ_b {f : Nat → Int32} (hf : partInv f) {v : Int} (h1 : -3000 ≤ v) (h2 : v ≤ 3000) : -21000 ≤ ownZ f v ∧ ownZ f v ≤ 21000 := by
  have hb := byZ hf
  obtain ⟨-, -, -, -, -, -, -, hg, hkk, hh, -, -⟩ := hf
  have hg := inR_b hg (x := 0) (y := 5000) rfl rfl
  have hkk := inR_b hkk (x := 0) (y := 2000) rfl rfl
  have hh := inR_b hh (x := 0) (y := 2000) rfl rfl
  have hcb := coldZ_b (kind := (f 5).toInt) (opn := (f 2).toInt) hg.1 hg.2 hkk.1 hh.1 hh.2 h1 h2
  unfold ownZ
  by_cases c : (f 1).toInt = 0
  · rw [if_pos c]; exact div_big (by omega) hcb.1 hcb.2
  · rw [if_neg c]; omega
/-- amps at u, in whole numbers: forward or not -/
def ampZ (fw : Prop) [Decidable fw] (f : Nat → Int32) (u : Int) : Int := if fw then ownZ f u else -(ownZ f (-u))
theorem ampF_Z {z : zS} {p : Nat} (hf : partInv (z p)) {u : Int32} (h1 : -3000 ≤ u.toInt) (h2 : u.toInt ≤ 3000) : (ampF z p u).toInt = ampZ (sh (z p 3) = z 1 0) (z p) u.toInt ∧ -21000 ≤ (ampF z p u).toInt ∧ (ampF z p u).toInt ≤ 21000 := by
  unfold ampF ownd ampZ
  by_cases c : sh (z p 3) = z 1 0
  · rw [if_pos c, if_pos c, if_pos c, ownF_Z hf h1 h2]
    exact ⟨rfl, ownZ_b hf h1 h2⟩
  · have en : (-u).toInt = -u.toInt := fb_negI (by omega)
    have ho := ownF_Z hf (v := -u) (by omega) (by omega)
    have hb := ownZ_b hf (v := (-u).toInt) (by omega) (by omega)
    rw [if_neg c, if_neg c, if_neg c, fb_negI (by rw [ho]; omega), ho, en]
    rw [en] at hb
    exact ⟨rfl, by omega, by omega⟩
theorem ampZ_mono {fw : Prop} [Decidable fw] {f : Nat → Int32} (hf : partInv f) {v w : Int} (h : v ≤ w) : ampZ fw f v ≤ ampZ fw f w := by
  unfold ampZ
  by_cases c : fw
  · rw [if_pos c, if_pos c]; exact ownZ_mono hf h
  · rw [if_neg c, if_neg c]
    have := ownZ_mono hf (v := -w) (w := -v) (by omega)
    omega
theorem ampZ_0 {fw : Prop} [Decidable fw] {f : Nat → Int32} (hf : partInv f) : ampZ fw f 0 = 0 := by
  unfold ampZ
  have := ownZ_0 hf
  by_cases c : fw
  · rw [if_pos c]; exact this
  · rw [if_neg c]; simp [this]
theorem absI_Z {x : Int32} (h : x.toInt ≠ -2147483648) : (absI x).toInt = if 0 ≤ x.toInt then x.toInt else -x.toInt := by
  unfold absI
  by_cases c : 0 ≤ x
  · rw [if_pos c, if_pos ((fb_nn x).mp c)]
  · rw [if_neg c, if_neg (fun q => c ((fb_nn x).mpr q)), fb_subI (by rw [i0]; have := fb_rng x; omega) (by rw [i0]; have := fb_rng x; omega), i0]; omega
theorem dropF_Z {z : zS} (hl : inR (z 0 2) 0 200 = true) {a : Int32} (h1 : -21000 ≤ a.toInt) (h2 : a.toInt ≤ 21000) : (dropF z a).toInt = a.toInt * (z 0 2).toInt / 1000 ∧ -4200 ≤ (dropF z a).toInt ∧ (dropF z a).toInt ≤ 4200 := by
  have hl := inR_b hl (x := 0) (y := 200) rfl rfl
  have m := mulv h1 h2 hl.1 hl.2 (by decide) (by decide)
  unfold dropF
  rw [fdv1000, m.1]
  exact ⟨rfl, by omega, by omega⟩
theorem sgn_k {v : Int32} {k : Nat} (hk : k ≤ 3000) : (sgn v * nI k).toInt = if v < 0 then -(k : Int) else (k : Int) := by
  have e1 : (nI k).toInt = k := nI_toInt (by omega)
  have en : (-1 : Int32).toInt = -1 := rfl
  have eo : (1 : Int32).toInt = 1 := rfl
  unfold sgn
  by_cases c : v < 0
  · rw [if_pos c, if_pos c, fb_mulI (by rw [e1, en]; omega) (by rw [e1, en]; omega), e1, en]; omega
  · rw [if_neg c, if_neg c, fb_mulI (by rw [e1, eo]; omega) (by rw [e1, eo]; omega), e1, eo]; omega
theorem awB_iff {z : zS} {p : Nat} {u v : Int32} : awB z p u v = true ↔ (absI (ampF z p u)).toInt ≤ (z 0 1).toInt ∧ (fourB z = true ∨ (absI (u + dropF z (ampF z p u))).toInt ≤ (absI v).toInt) := by
  unfold awB alB
  rw [Bool.and_eq_true, Bool.or_eq_true, Bool.not_eq_true', decide_eq_false_iff_not, decide_eq_true_eq, Int32.lt_iff_toInt_lt, Int32.le_iff_toInt_le]
  constructor
  · intro h; exact ⟨by omega, h.2⟩
  · intro h; exact ⟨by omega, h.2⟩
theorem mulmono {a b l : Int} (h : a ≤ b) (hl : 0 ≤ l) : a * l / 1000 ≤ b * l / 1000 := dmono (Int.mul_le_mul_of_nonneg_right h hl)
/-- what may be so at k + 1 may be so at k -/
theorem aw_down {z : zS} (hI : qInv z) {n : Nat} (hn : n < 4) {v : Int32} {k : Nat} (hk : k + 1 ≤ 3000) (h : awB z (10 + n) (sgn v * nI (k + 1)) v = true) : awB z (10 + n) (sgn v * nI k) v = true := by
  have hf := hI.2.2.2.2.2.2.1 n hn
  have hl := hI.2.2.1
  have hlb := inR_b hl (x := 0) (y := 200) rfl rfl
  rw [awB_iff] at h ⊢
  have s1 := sgn_k (v := v) (k := k) (by omega)
  have s2 := sgn_k (v := v) (k := k + 1) hk
  have b1 : -3000 ≤ (sgn v * nI k).toInt ∧ (sgn v * nI k).toInt ≤ 3000 := by rw [s1]; split <;> omega
  have b2 : -3000 ≤ (sgn v * nI (k + 1)).toInt ∧ (sgn v * nI (k + 1)).toInt ≤ 3000 := by rw [s2]; split <;> omega
  obtain ⟨a1, a2, a3⟩ := ampF_Z hf b1.1 b1.2
  obtain ⟨c1, c2, c3⟩ := ampF_Z hf b2.1 b2.2
  obtain ⟨d1, d2, d3⟩ := dropF_Z hl a2 a3
  obtain ⟨e1, e2, e3⟩ := dropF_Z hl c2 c3
  have u1 : (sgn v * nI k + dropF z (ampF z (10 + n) (sgn v * nI k))).toInt = (sgn v * nI k).toInt + (dropF z (ampF z (10 + n) (sgn v * nI k))).toInt := fb_addI (by omega) (by omega)
  have u2 : (sgn v * nI (k + 1) + dropF z (ampF z (10 + n) (sgn v * nI (k + 1)))).toInt = (sgn v * nI (k + 1)).toInt + (dropF z (ampF z (10 + n) (sgn v * nI (k + 1)))).toInt := fb_addI (by omega) (by omega)
  rw [absI_Z (by omega), absI_Z (by rw [u2]; omega)] at h
  rw [absI_Z (by omega), absI_Z (by rw [u1]; omega)]
  rw [u2] at h
  rw [u1]
  have z0 := ampZ_0 (fw := sh (z (10 + n) 3) = z 1 0) hf
  by_cases cv : v < 0
  · rw [if_pos cv] at s1 s2
    have m1 : (ampF z (10 + n) (sgn v * nI (k + 1))).toInt ≤ (ampF z (10 + n) (sgn v * nI k)).toInt := by
      rw [a1, c1]; exact ampZ_mono hf (by rw [s1, s2]; omega)
    have m2 : (ampF z (10 + n) (sgn v * nI k)).toInt ≤ 0 := by
      rw [a1, ← z0]; exact ampZ_mono hf (by rw [s1]; omega)
    have m3 : (dropF z (ampF z (10 + n) (sgn v * nI (k + 1)))).toInt ≤ (dropF z (ampF z (10 + n) (sgn v * nI k))).toInt := by
      rw [d1, e1]; exact mulmono m1 hlb.1
    have m4 : (dropF z (ampF z (10 + n) (sgn v * nI k))).toInt ≤ 0 := by
      rw [d1]
      have := Int.mul_nonpos_of_nonpos_of_nonneg m2 hlb.1
      omega
    refine ⟨?_, ?_⟩
    · have h1 := h.1
      split at h1 <;> split <;> omega
    · rcases h.2 with q | q
      · exact Or.inl q
      · right
        split at q <;> split <;> omega
  · rw [if_neg cv] at s1 s2
    have m1 : (ampF z (10 + n) (sgn v * nI k)).toInt ≤ (ampF z (10 + n) (sgn v * nI (k + 1))).toInt := by
      rw [a1, c1]; exact ampZ_mono hf (by rw [s1, s2]; omega)
    have m2 : 0 ≤ (ampF z (10 + n) (sgn v * nI k)).toInt := by
      rw [a1, ← z0]; exact ampZ_mono hf (by rw [s1]; omega)
    have m3 : (dropF z (ampF z (10 + n) (sgn v * nI k))).toInt ≤ (dropF z (ampF z (10 + n) (sgn v * nI (k + 1)))).toInt := by
      rw [d1, e1]; exact mulmono m1 hlb.1
    have m4 : 0 ≤ (dropF z (ampF z (10 + n) (sgn v * nI k))).toInt := by
      rw [d1]
      have := Int.mul_nonneg m2 hlb.1
      omega
    refine ⟨?_, ?_⟩
    · have h1 := h.1
      split at h1 <;> split <;> omega
    · rcases h.2 with q | q
      · exact Or.inl q
      · right
        split at q <;> split <;> omega
theorem srch_le : ∀ (K : Nat) (P : Nat → Bool), srch P K ≤ K
  | 0, _ => Nat.le_refl 0
  | K + 1, P => by
    unfold srch
    have := srch_le K (fun k => P (k + 1))
    split <;> omega
theorem srch_yes : ∀ (K : Nat) (P : Nat → Bool) (j : Nat), 1 ≤ j → j ≤ srch P K → P j = true
  | 0, _, j, h1, h2 => by unfold srch at h2; omega
  | K + 1, P, j, h1, h2 => by
    unfold srch at h2
    split at h2
    · rename_i c
      by_cases h : j = 1
      · rw [h]; exact c
      · have := srch_yes K (fun k => P (k + 1)) (j - 1) (by omega) (by omega)
        have e : j - 1 + 1 = j := by omega
        simpa [e] using this
    · omega
theorem srch_no : ∀ (K : Nat) (P : Nat → Bool), srch P K < K → P (srch P K + 1) = false
  | 0, _, h => absurd h (Nat.not_lt_zero _)
  | K + 1, P, h => by
    unfold srch at h ⊢
    by_cases c : P 1 = true
    · rw [if_pos c] at h ⊢
      have := srch_no K (fun k => P (k + 1)) (by omega)
      have e : 1 + srch (fun k => P (k + 1)) K + 1 = srch (fun k => P (k + 1)) K + 1 + 1 := by omega
      rw [e]; exact this
    · rw [if_neg c]; simpa using c
theorem srch_eq {P : Nat → Bool} {K a : Nat} (hm : ∀ k, k + 1 ≤ K → P (k + 1) = true → 1 ≤ k → P k = true) (ha : a ≤ K) (h1 : a = 0 ∨ P a = true) (h2 : a = K ∨ P (a + 1) = false) : srch P K = a := by
  have down : ∀ (d j : Nat), j + d ≤ K → 1 ≤ j → P (j + d) = true → P j = true := by
    intro d
    induction d with
    | zero => intro j _ _ h; exact h
    | succ d ih => intro j h1 h2 h3; exact ih j (by omega) h2 (hm (j + d) (by omega) h3 (by omega))
  have hle := srch_le K P
  rcases Nat.lt_or_ge (srch P K) a with q | q
  · have hn := srch_no K P (by omega)
    rcases h1 with h1 | h1
    · omega
    · have := down (a - (srch P K + 1)) (srch P K + 1) (by omega) (by omega) (by rw [show srch P K + 1 + (a - (srch P K + 1)) = a by omega]; exact h1)
      rw [hn] at this; cases this
  · rcases Nat.lt_or_ge a (srch P K) with q2 | q2
    · rcases h2 with h2 | h2
      · omega
      · have := srch_yes K P (a + 1) (by omega) (by omega)
        rw [h2] at this; cases this
    · omega
end
