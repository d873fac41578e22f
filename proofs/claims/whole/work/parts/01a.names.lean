/-! ===== BEGIN words of one list among another's, by their places ===== -/
theorem goodIn_r {big : List Cond} (ws : List Cond) (ps : List Nat) (hp : ws = ps.filterMap (fun i => big[i]?)) (h : ws.all goodWord = true) : GoodIn big ws := by
  intro w hw
  have h1 := List.all_eq_true.mp h w hw
  rw [hp] at hw
  obtain ⟨i, -, hi⟩ := List.mem_filterMap.mp hw
  have hm : w ∈ big := by first | exact List.mem_of_getElem? hi | exact List.getElem?_mem hi
  exact ⟨hm, good_of_word h1⟩
theorem goodIn_app {big a b : List Cond} (ha : GoodIn big a) (hb : GoodIn big b) : GoodIn big (a ++ b) := fun w h => (List.mem_append.mp h).elim (ha w) (hb w)
theorem goodIn_ca {big a b : List Cond} {c : Cond} (ha : GoodIn big (c :: a)) (hb : GoodIn big b) : GoodIn big (c :: (a ++ b)) := fun w h => (List.mem_cons.mp h).elim (fun e => ha w (List.mem_cons.mpr (Or.inl e))) (fun h => (List.mem_append.mp h).elim (fun h => ha w (List.mem_cons.mpr (Or.inr h))) (hb w))
theorem goodIn_sub {big ws : List Cond} (hm : ∀ w ∈ ws, w ∈ big) (h : ws.all goodWord = true) : GoodIn big ws := fun w hw => ⟨hm w hw, good_of_word (List.all_eq_true.mp h w hw)⟩
/-! ===== END ===== -/

/-! ===== BEGIN new T[n][m]: the outer array a place, the inner ones among the pooled ===== -/
/-- f, but v at every address of l -/
def vr_up {α : Type} (f : Nat → α) (l : List Nat) (v : α) : Nat → α := fun a => if a ∈ l then v else f a
theorem vr_up_in {α : Type} {f : Nat → α} {l : List Nat} {v : α} {a : Nat} (h : a ∈ l) : vr_up f l v a = v := if_pos h
theorem vr_up_ne {α : Type} {f : Nat → α} {l : List Nat} {v : α} {a : Nat} (h : a ∉ l) : vr_up f l v a = f a := if_neg h
theorem vr_rows {L l : List Nat} {f : Nat → va_E} {e : va_E} (h : ∀ a, a ∈ l → a ∉ L) : va_pl L f ++ l.map (fun a => (a, e)) = va_pl (L ++ l) (vr_up f l e) := by
  unfold va_pl
  rw [List.map_append]
  congr 1
  · apply List.map_congr_left
    intro a ha
    rw [vr_up_ne (fun q => h a q ha)]
  · apply List.map_congr_left
    intro a ha
    rw [vr_up_in ha]
theorem vr_lay {X rows : va_W} {x : Nat × va_E} {pl : va_W} {D : va_G} {cl : List vw_C} {H : Heap} (hP : va_P D cl (((X ++ pl) ++ [x]) ++ rows) H) : va_P D cl ((X ++ [x]) ++ (pl ++ rows)) H := by
  rw [List.append_assoc (X ++ pl)] at hP
  have h := va_P.swap hP
  rw [← List.append_assoc X] at h
  have h2 := va_P.swap h
  rw [List.append_assoc (X ++ [x])] at h2
  exact h2
theorem vr_layD {X rows : va_W} {x : Nat × va_E} {pl : va_W} {A : Nat → Prop} (hD : va_D A (((X ++ pl) ++ [x]) ++ rows)) : va_D A ((X ++ [x]) ++ (pl ++ rows)) := by
  rw [List.append_assoc (X ++ pl)] at hD
  have h := va_D.swap hD
  rw [← List.append_assoc X] at h
  have h2 := va_D.swap h
  rw [List.append_assoc (X ++ [x])] at h2
  exact h2
theorem vr_outer (c : ClassId) (N h0 : Nat) : ∀ i : Nat, Jvm.Free.Multi.outerC c N h0 i = arrV c N (fun j => va_rf (if j < i then some (h0 + 1 + j) else none))
  | 0 => by
    show ({ cls := c, slots := Array.replicate N .null, vm := .none } : Cell) = _
    rw [arrV_new]
    refine congrArg (arrV c N) (funext fun j => ?_)
    simp [va_rf]
  | i + 1 => by
    show (Jvm.Free.Multi.outerC c N h0 i).setSlot i (.ref (h0 + 1 + i)) = _
    rw [vr_outer c N h0 i, arrV_store]
    refine congrArg (arrV c N) (funext fun j => ?_)
    by_cases e : j = i
    · subst e
      simp [updV, va_rf]
    · by_cases h : j < i
      · simp [updV, e, h, Nat.lt_succ_of_lt h]
      · simp [updV, e, h, show ¬ j < i + 1 by omega]
/-! ===== END ===== -/

/-! ===== BEGIN printed: names, fields, word lists, decode rows ===== -/
def RX0 : String := "NightPlots$Search"
def TX0 : u_T := fun k => match k with
  | 0 => ("NightPlots$Search", "standing", "LNightPlots$Standing;", true)
  | 1 => ("NightPlots$Search", "ways", "[[I", true)
  | 2 => ("NightPlots$Search", "deadEnds", "[J", true)
  | 3 => ("NightPlots$Search", "a", "I", false)
  | 4 => ("NightPlots$Search", "b", "I", false)
  | _ => ("NightPlots$Search", "firstRoll", "I", false)
def tyX0 : Nat → FieldType := fun k => match k with
  | 0 => .object "NightPlots$Standing"
  | 1 => .array (.array .int)
  | 2 => .array .long
  | 3 => .int
  | 4 => .int
  | _ => .int
abbrev wsX00 : List Cond := u_ws RX0 TX0 6
theorem nmX0 : ∀ a, a < 6 → ∀ b, b < 6 → a ≠ b → (TX0 a).2.1 ≠ (TX0 b).2.1 := by decide +kernel
theorem tyX0_ok : ∀ k, k < 6 → parseFieldDescriptor (TX0 k).2.2.1 = some (tyX0 k) := by decide +kernel
abbrev cX0_init : ByteArray := prog_2_method_1_code
def yX0_init : MethodName := ⟨RX0, "<init>", "(LNightPlots$Standing;)V"⟩
abbrev cX0_prepare : ByteArray := prog_2_method_2_code
def yX0_prepare : MethodName := ⟨RX0, "prepare", "(II)V"⟩
abbrev cX0_reaches : ByteArray := prog_2_method_3_code
def yX0_reaches : MethodName := ⟨RX0, "reaches", "(LNightPlots$Search;I)Z"⟩
abbrev cX0_reachesBy : ByteArray := prog_2_method_4_code
def yX0_reachesBy : MethodName := ⟨RX0, "reachesBy", "(LNightPlots$Search;II)Z"⟩
abbrev cX0_mayHelp : ByteArray := prog_2_method_5_code
def yX0_mayHelp : MethodName := ⟨RX0, "mayHelp", "(II)Z"⟩
def RX1 : String := "NightPlots$Standing"
def TX1 : u_T := fun k => match k with
  | 0 => ("NightPlots$Standing", "told", "LNightPlots$Told;", true)
  | 1 => ("NightPlots$Standing", "place", "[I", true)
  | 2 => ("NightPlots$Standing", "rolled", "[I", true)
  | 3 => ("NightPlots$Standing", "ways", "[I", true)
  | 4 => ("NightPlots$Standing", "taken", "I", false)
  | 5 => ("NightPlots$Standing", "nights", "I", false)
  | 6 => ("NightPlots$Standing", "turn", "I", false)
  | 7 => ("NightPlots$Standing", "x", "I", false)
  | _ => ("NightPlots$Standing", "mended", "I", false)
def tyX1 : Nat → FieldType := fun k => match k with
  | 0 => .object "NightPlots$Told"
  | 1 => .array .int
  | 2 => .array .int
  | 3 => .array .int
  | 4 => .int
  | 5 => .int
  | 6 => .int
  | 7 => .int
  | _ => .int
abbrev wsX10 : List Cond := u_ws RX1 TX1 9
theorem nmX1 : ∀ a, a < 9 → ∀ b, b < 9 → a ≠ b → (TX1 a).2.1 ≠ (TX1 b).2.1 := by decide +kernel
theorem tyX1_ok : ∀ k, k < 9 → parseFieldDescriptor (TX1 k).2.2.1 = some (tyX1 k) := by decide +kernel
abbrev cX1_init : ByteArray := prog_3_method_1_code
def yX1_init : MethodName := ⟨RX1, "<init>", "(LNightPlots$Told;)V"⟩
abbrev cX1_startAsTold : ByteArray := prog_3_method_2_code
def yX1_startAsTold : MethodName := ⟨RX1, "startAsTold", "()V"⟩
abbrev cX1_copyFrom : ByteArray := prog_3_method_3_code
def yX1_copyFrom : MethodName := ⟨RX1, "copyFrom", "(LNightPlots$Standing;)V"⟩
abbrev cX1_groundOf : ByteArray := prog_3_method_4_code
def yX1_groundOf : MethodName := ⟨RX1, "groundOf", "(I)I"⟩
abbrev cX1_isEmpty : ByteArray := prog_3_method_5_code
def yX1_isEmpty : MethodName := ⟨RX1, "isEmpty", "(I)Z"⟩
abbrev cX1_houseOn : ByteArray := prog_3_method_6_code
def yX1_houseOn : MethodName := ⟨RX1, "houseOn", "(I)I"⟩
abbrev cX1_cropUnder : ByteArray := prog_3_method_7_code
def yX1_cropUnder : MethodName := ⟨RX1, "cropUnder", "(I)I"⟩
abbrev cX1_findWays : ByteArray := prog_3_method_8_code
def yX1_findWays : MethodName := ⟨RX1, "findWays", "(I[I)I"⟩
abbrev cX1_findPathWays : ByteArray := prog_3_method_9_code
def yX1_findPathWays : MethodName := ⟨RX1, "findPathWays", "(I[II)I"⟩
abbrev cX1_hasWayTo : ByteArray := prog_3_method_10_code
def yX1_hasWayTo : MethodName := ⟨RX1, "hasWayTo", "(II)Z"⟩
abbrev cX1_moveHouse : ByteArray := prog_3_method_11_code
def yX1_moveHouse : MethodName := ⟨RX1, "moveHouse", "(II)V"⟩
abbrev cX1_passNight : ByteArray := prog_3_method_12_code
def yX1_passNight : MethodName := ⟨RX1, "passNight", "(I)V"⟩
abbrev cX1_passNightOf : ByteArray := prog_3_method_13_code
def yX1_passNightOf : MethodName := ⟨RX1, "passNightOf", "(III)V"⟩
abbrev cX1_passNightByLot : ByteArray := prog_3_method_14_code
def yX1_passNightByLot : MethodName := ⟨RX1, "passNightByLot", "()V"⟩
abbrev cX1_rollByNumber : ByteArray := prog_3_method_15_code
def yX1_rollByNumber : MethodName := ⟨RX1, "rollByNumber", "(I)V"⟩
abbrev cX1_chooseRoller : ByteArray := prog_3_method_16_code
def yX1_chooseRoller : MethodName := ⟨RX1, "chooseRoller", "(I)I"⟩
abbrev cX1_firstThatCan : ByteArray := prog_3_method_17_code
def yX1_firstThatCan : MethodName := ⟨RX1, "firstThatCan", "(I)I"⟩
abbrev cX1_longestRested : ByteArray := prog_3_method_18_code
def yX1_longestRested : MethodName := ⟨RX1, "longestRested", "()I"⟩
abbrev cX1_meets : ByteArray := prog_3_method_19_code
def yX1_meets : MethodName := ⟨RX1, "meets", "(III)Z"⟩
abbrev cX1_areBeside : ByteArray := prog_3_method_20_code
def yX1_areBeside : MethodName := ⟨RX1, "areBeside", "(II)Z"⟩
abbrev cX1_areOpposite : ByteArray := prog_3_method_21_code
def yX1_areOpposite : MethodName := ⟨RX1, "areOpposite", "(II)Z"⟩
abbrev cX1_hasFeudBeside : ByteArray := prog_3_method_22_code
def yX1_hasFeudBeside : MethodName := ⟨RX1, "hasFeudBeside", "()Z"⟩
abbrev cX1_placesKey : ByteArray := prog_3_method_23_code
def yX1_placesKey : MethodName := ⟨RX1, "placesKey", "()J"⟩
abbrev cX1_stateKey : ByteArray := prog_3_method_24_code
def yX1_stateKey : MethodName := ⟨RX1, "stateKey", "(I)J"⟩
abbrev cX1_restKey : ByteArray := prog_3_method_25_code
def yX1_restKey : MethodName := ⟨RX1, "restKey", "(J)J"⟩
abbrev cX1_restRank : ByteArray := prog_3_method_26_code
def yX1_restRank : MethodName := ⟨RX1, "restRank", "(I)I"⟩
def RX2 : String := "NightPlots$Text"
def TX2 : u_T := fun k => match k with
  | 0 => ("NightPlots$Text", "bytes", "[I", true)
  | 1 => ("NightPlots$Text", "length", "I", false)
  | 2 => ("NightPlots$Text", "lines", "I", false)
  | 3 => ("NightPlots$Text", "tokenBegin", "I", false)
  | _ => ("NightPlots$Text", "tokenEnd", "I", false)
def tyX2 : Nat → FieldType := fun k => match k with
  | 0 => .array .int
  | 1 => .int
  | 2 => .int
  | 3 => .int
  | _ => .int
abbrev wsX20 : List Cond := u_ws RX2 TX2 5
theorem nmX2 : ∀ a, a < 5 → ∀ b, b < 5 → a ≠ b → (TX2 a).2.1 ≠ (TX2 b).2.1 := by decide +kernel
theorem tyX2_ok : ∀ k, k < 5 → parseFieldDescriptor (TX2 k).2.2.1 = some (tyX2 k) := by decide +kernel
abbrev cX2_init : ByteArray := prog_4_method_1_code
def yX2_init : MethodName := ⟨RX2, "<init>", "()V"⟩
abbrev cX2_append : ByteArray := prog_4_method_2_code
def yX2_append : MethodName := ⟨RX2, "append", "(JI)Z"⟩
abbrev cX2_readInto : ByteArray := prog_4_method_3_code
def yX2_readInto : MethodName := ⟨RX2, "readInto", "(LNightPlots$Told;)I"⟩
abbrev cX2_readLine : ByteArray := prog_4_method_4_code
def yX2_readLine : MethodName := ⟨RX2, "readLine", "(LNightPlots$Told;)Z"⟩
abbrev cX2_readGreen : ByteArray := prog_4_method_5_code
def yX2_readGreen : MethodName := ⟨RX2, "readGreen", "(LNightPlots$Told;)Z"⟩
abbrev cX2_readCrop : ByteArray := prog_4_method_6_code
def yX2_readCrop : MethodName := ⟨RX2, "readCrop", "(LNightPlots$Told;)Z"⟩
abbrev cX2_readHouse : ByteArray := prog_4_method_7_code
def yX2_readHouse : MethodName := ⟨RX2, "readHouse", "(LNightPlots$Told;I)Z"⟩
abbrev cX2_readPath : ByteArray := prog_4_method_8_code
def yX2_readPath : MethodName := ⟨RX2, "readPath", "(LNightPlots$Told;)Z"⟩
abbrev cX2_readFeud : ByteArray := prog_4_method_9_code
def yX2_readFeud : MethodName := ⟨RX2, "readFeud", "(LNightPlots$Told;)Z"⟩
abbrev cX2_readLot : ByteArray := prog_4_method_10_code
def yX2_readLot : MethodName := ⟨RX2, "readLot", "(LNightPlots$Told;)Z"⟩
abbrev cX2_readPlainLaw : ByteArray := prog_4_method_11_code
def yX2_readPlainLaw : MethodName := ⟨RX2, "readPlainLaw", "(LNightPlots$Told;)Z"⟩
abbrev cX2_kindHere : ByteArray := prog_4_method_12_code
def yX2_kindHere : MethodName := ⟨RX2, "kindHere", "()I"⟩
abbrev cX2_plainLawHere : ByteArray := prog_4_method_13_code
def yX2_plainLawHere : MethodName := ⟨RX2, "plainLawHere", "()I"⟩
abbrev cX2_stepToToken : ByteArray := prog_4_method_14_code
def yX2_stepToToken : MethodName := ⟨RX2, "stepToToken", "()V"⟩
abbrev cX2_goesOn : ByteArray := prog_4_method_15_code
def yX2_goesOn : MethodName := ⟨RX2, "goesOn", "(I)Z"⟩
abbrev cX2_isWord : ByteArray := prog_4_method_16_code
def yX2_isWord : MethodName := ⟨RX2, "isWord", "(Ljava/lang/String;)Z"⟩
abbrev cX2_readNumber : ByteArray := prog_4_method_17_code
def yX2_readNumber : MethodName := ⟨RX2, "readNumber", "(III)I"⟩
abbrev cX2_isLetter : ByteArray := prog_4_method_18_code
def yX2_isLetter : MethodName := ⟨RX2, "isLetter", "(I)Z"⟩
abbrev cX2_isDigit : ByteArray := prog_4_method_19_code
def yX2_isDigit : MethodName := ⟨RX2, "isDigit", "(I)Z"⟩
def RX3 : String := "NightPlots$Told"
def TX3 : u_T := fun k => match k with
  | 0 => ("NightPlots$Told", "plots", "I", false)
  | 1 => ("NightPlots$Told", "houses", "I", false)
  | 2 => ("NightPlots$Told", "paths", "I", false)
  | 3 => ("NightPlots$Told", "feuds", "I", false)
  | 4 => ("NightPlots$Told", "law", "I", false)
  | 5 => ("NightPlots$Told", "seed", "I", false)
  | 6 => ("NightPlots$Told", "crop", "[I", true)
  | 7 => ("NightPlots$Told", "kind", "[I", true)
  | 8 => ("NightPlots$Told", "place", "[I", true)
  | 9 => ("NightPlots$Told", "pathFrom", "[I", true)
  | 10 => ("NightPlots$Told", "pathTo", "[I", true)
  | 11 => ("NightPlots$Told", "feudOne", "[I", true)
  | _ => ("NightPlots$Told", "feudOther", "[I", true)
def tyX3 : Nat → FieldType := fun k => match k with
  | 0 => .int
  | 1 => .int
  | 2 => .int
  | 3 => .int
  | 4 => .int
  | 5 => .int
  | 6 => .array .int
  | 7 => .array .int
  | 8 => .array .int
  | 9 => .array .int
  | 10 => .array .int
  | 11 => .array .int
  | _ => .array .int
abbrev wsX30 : List Cond := u_ws RX3 TX3 13
theorem nmX3 : ∀ a, a < 13 → ∀ b, b < 13 → a ≠ b → (TX3 a).2.1 ≠ (TX3 b).2.1 := by decide +kernel
theorem tyX3_ok : ∀ k, k < 13 → parseFieldDescriptor (TX3 k).2.2.1 = some (tyX3 k) := by decide +kernel
abbrev cX3_init : ByteArray := prog_5_method_1_code
def yX3_init : MethodName := ⟨RX3, "<init>", "()V"⟩
abbrev cX3_layOut : ByteArray := prog_5_method_2_code
def yX3_layOut : MethodName := ⟨RX3, "layOut", "(I)V"⟩
abbrev cX3_removeHouses : ByteArray := prog_5_method_3_code
def yX3_removeHouses : MethodName := ⟨RX3, "removeHouses", "()V"⟩
abbrev cX3_copyFrom : ByteArray := prog_5_method_4_code
def yX3_copyFrom : MethodName := ⟨RX3, "copyFrom", "(LNightPlots$Told;)V"⟩
abbrev cX3_next : ByteArray := prog_5_method_5_code
def yX3_next : MethodName := ⟨RX3, "next", "(I)I"⟩
abbrev cX3_previous : ByteArray := prog_5_method_6_code
def yX3_previous : MethodName := ⟨RX3, "previous", "(I)I"⟩
abbrev cX3_allPlots : ByteArray := prog_5_method_7_code
def yX3_allPlots : MethodName := ⟨RX3, "allPlots", "()I"⟩
abbrev cX3_ground : ByteArray := prog_5_method_8_code
def yX3_ground : MethodName := ⟨RX3, "ground", "(II)I"⟩
abbrev cX3_around : ByteArray := prog_5_method_9_code
def yX3_around : MethodName := ⟨RX3, "around", "(I)I"⟩
abbrev cX3_takenAtFirst : ByteArray := prog_5_method_10_code
def yX3_takenAtFirst : MethodName := ⟨RX3, "takenAtFirst", "()I"⟩
abbrev cX3_stuckOnes : ByteArray := prog_5_method_11_code
def yX3_stuckOnes : MethodName := ⟨RX3, "stuckOnes", "()I"⟩
abbrev cX3_settle : ByteArray := prog_5_method_12_code
def yX3_settle : MethodName := ⟨RX3, "settle", "(II)Z"⟩
abbrev cX3_addPath : ByteArray := prog_5_method_13_code
def yX3_addPath : MethodName := ⟨RX3, "addPath", "(II)Z"⟩
abbrev cX3_addFeud : ByteArray := prog_5_method_14_code
def yX3_addFeud : MethodName := ⟨RX3, "addFeud", "(II)Z"⟩
abbrev cX3_otherEnd : ByteArray := prog_5_method_15_code
def yX3_otherEnd : MethodName := ⟨RX3, "otherEnd", "(II)I"⟩
def RX4 : String := "NightPlots"
def TX4 : u_T := fun k => match k with
  | 0 => ("NightPlots", "told", "LNightPlots$Told;", true)
  | 1 => ("NightPlots", "draft", "LNightPlots$Told;", true)
  | 2 => ("NightPlots", "text", "LNightPlots$Text;", true)
  | 3 => ("NightPlots", "now", "LNightPlots$Standing;", true)
  | 4 => ("NightPlots", "ahead", "LNightPlots$Standing;", true)
  | 5 => ("NightPlots", "kept", "[LNightPlots$Standing;", true)
  | 6 => ("NightPlots", "isKept", "[Z", true)
  | 7 => ("NightPlots", "search", "LNightPlots$Search;", true)
  | 8 => ("NightPlots", "ways", "[I", true)
  | 9 => ("NightPlots", "passed", "[J", true)
  | 10 => ("NightPlots", "seenHouse", "[I", true)
  | 11 => ("NightPlots", "seenPlot", "[I", true)
  | 12 => ("NightPlots", "seenNight", "[I", true)
  | _ => ("NightPlots", "seenSoFar", "I", false)
def tyX4 : Nat → FieldType := fun k => match k with
  | 0 => .object "NightPlots$Told"
  | 1 => .object "NightPlots$Told"
  | 2 => .object "NightPlots$Text"
  | 3 => .object "NightPlots$Standing"
  | 4 => .object "NightPlots$Standing"
  | 5 => .array (.object "NightPlots$Standing")
  | 6 => .array .boolean
  | 7 => .object "NightPlots$Search"
  | 8 => .array .int
  | 9 => .array .long
  | 10 => .array .int
  | 11 => .array .int
  | 12 => .array .int
  | _ => .int
abbrev wsX40 : List Cond := u_ws RX4 TX4 14
theorem nmX4 : ∀ a, a < 14 → ∀ b, b < 14 → a ≠ b → (TX4 a).2.1 ≠ (TX4 b).2.1 := by decide +kernel
theorem tyX4_ok : ∀ k, k < 14 → parseFieldDescriptor (TX4 k).2.2.1 = some (tyX4 k) := by decide +kernel
abbrev cX4_init : ByteArray := prog_1_method_1_code
def yX4_init : MethodName := ⟨RX4, "<init>", "()V"⟩
abbrev cX4_write : ByteArray := prog_1_method_2_code
def yX4_write : MethodName := ⟨RX4, "write", "(JI)I"⟩
abbrev cX4_erase : ByteArray := prog_1_method_3_code
def yX4_erase : MethodName := ⟨RX4, "erase", "()I"⟩
abbrev cX4_fault : ByteArray := prog_1_method_4_code
def yX4_fault : MethodName := ⟨RX4, "fault", "()I"⟩
abbrev cX4_green : ByteArray := prog_1_method_5_code
def yX4_green : MethodName := ⟨RX4, "green", "()I"⟩
abbrev cX4_plot : ByteArray := prog_1_method_6_code
def yX4_plot : MethodName := ⟨RX4, "plot", "(II)I"⟩
abbrev cX4_house : ByteArray := prog_1_method_7_code
def yX4_house : MethodName := ⟨RX4, "house", "(II)I"⟩
abbrev cX4_as : ByteArray := prog_1_method_8_code
def yX4_as : MethodName := ⟨RX4, "as", "(II)I"⟩
abbrev cX4_can : ByteArray := prog_1_method_9_code
def yX4_can : MethodName := ⟨RX4, "can", "(II)I"⟩
abbrev cX4_go : ByteArray := prog_1_method_10_code
def yX4_go : MethodName := ⟨RX4, "go", "(I)I"⟩
abbrev cX4_roll : ByteArray := prog_1_method_11_code
def yX4_roll : MethodName := ⟨RX4, "roll", "(II)I"⟩
abbrev cX4_keep : ByteArray := prog_1_method_12_code
def yX4_keep : MethodName := ⟨RX4, "keep", "(I)I"⟩
abbrev cX4_back : ByteArray := prog_1_method_13_code
def yX4_back : MethodName := ⟨RX4, "back", "(I)I"⟩
abbrev cX4_later : ByteArray := prog_1_method_14_code
def yX4_later : MethodName := ⟨RX4, "later", "(II)I"⟩
abbrev cX4_round : ByteArray := prog_1_method_15_code
def yX4_round : MethodName := ⟨RX4, "round", "(I)I"⟩
abbrev cX4_touch : ByteArray := prog_1_method_16_code
def yX4_touch : MethodName := ⟨RX4, "touch", "(III)I"⟩
abbrev cX4_when : ByteArray := prog_1_method_17_code
def yX4_when : MethodName := ⟨RX4, "when", "(III)I"⟩
abbrev cX4_often : ByteArray := prog_1_method_18_code
def yX4_often : MethodName := ⟨RX4, "often", "(IIII)I"⟩
abbrev cX4_brings : ByteArray := prog_1_method_19_code
def yX4_brings : MethodName := ⟨RX4, "brings", "(II)I"⟩
abbrev cX4_feuding : ByteArray := prog_1_method_20_code
def yX4_feuding : MethodName := ⟨RX4, "feuding", "(I)I"⟩
abbrev cX4_nearest : ByteArray := prog_1_method_21_code
def yX4_nearest : MethodName := ⟨RX4, "nearest", "(III)I"⟩
abbrev cX4_mends : ByteArray := prog_1_method_22_code
def yX4_mends : MethodName := ⟨RX4, "mends", "(IIII)I"⟩
abbrev cX4_seen : ByteArray := prog_1_method_23_code
def yX4_seen : MethodName := ⟨RX4, "seen", "(III)I"⟩
abbrev cX4_forget : ByteArray := prog_1_method_24_code
def yX4_forget : MethodName := ⟨RX4, "forget", "()I"⟩
abbrev cX4_laws : ByteArray := prog_1_method_25_code
def yX4_laws : MethodName := ⟨RX4, "laws", "()I"⟩
abbrev cX4_count : ByteArray := prog_1_method_26_code
def yX4_count : MethodName := ⟨RX4, "count", "(I)I"⟩
abbrev cX4_isPlot : ByteArray := prog_1_method_27_code
def yX4_isPlot : MethodName := ⟨RX4, "isPlot", "(I)Z"⟩
abbrev cX4_isHouse : ByteArray := prog_1_method_28_code
def yX4_isHouse : MethodName := ⟨RX4, "isHouse", "(I)Z"⟩
abbrev cX4_areDays : ByteArray := prog_1_method_29_code
def yX4_areDays : MethodName := ⟨RX4, "areDays", "(I)Z"⟩
abbrev cX4_refusePair : ByteArray := prog_1_method_30_code
def yX4_refusePair : MethodName := ⟨RX4, "refusePair", "(III)I"⟩
abbrev cX4_isSuch : ByteArray := prog_1_method_31_code
def yX4_isSuch : MethodName := ⟨RX4, "isSuch", "(II)Z"⟩
abbrev cX4_firstNightWith : ByteArray := prog_1_method_32_code
def yX4_firstNightWith : MethodName := ⟨RX4, "firstNightWith", "(JI)I"⟩
abbrev cX4_firstMeeting : ByteArray := prog_1_method_33_code
def yX4_firstMeeting : MethodName := ⟨RX4, "firstMeeting", "(IIII)I"⟩
abbrev cX4_meetsMended : ByteArray := prog_1_method_34_code
def yX4_meetsMended : MethodName := ⟨RX4, "meetsMended", "(IIII)Z"⟩
abbrev cX4_costOf : ByteArray := prog_1_method_35_code
def yX4_costOf : MethodName := ⟨RX4, "costOf", "(I)I"⟩
abbrev cX4_explainsAllSeen : ByteArray := prog_1_method_36_code
def yX4_explainsAllSeen : MethodName := ⟨RX4, "explainsAllSeen", "(I)Z"⟩
abbrev cX4_explainsNight : ByteArray := prog_1_method_37_code
def yX4_explainsNight : MethodName := ⟨RX4, "explainsNight", "(I)Z"⟩
def RX5 : String := "NightPlotsModel"
def TX5 : u_T := fun k => match k with
  | 0 => ("NightPlotsModel", "plots", "I", false)
  | 1 => ("NightPlotsModel", "crop", "[I", true)
  | 2 => ("NightPlotsModel", "houses", "I", false)
  | 3 => ("NightPlotsModel", "kind", "[I", true)
  | 4 => ("NightPlotsModel", "begins", "[I", true)
  | 5 => ("NightPlotsModel", "paths", "I", false)
  | 6 => ("NightPlotsModel", "path", "[I", true)
  | 7 => ("NightPlotsModel", "feuds", "I", false)
  | 8 => ("NightPlotsModel", "feud", "[I", true)
  | 9 => ("NightPlotsModel", "law", "I", false)
  | 10 => ("NightPlotsModel", "seed", "I", false)
  | 11 => ("NightPlotsModel", "bytes", "I", false)
  | 12 => ("NightPlotsModel", "text", "[I", true)
  | 13 => ("NightPlotsModel", "position", "I", false)
  | 14 => ("NightPlotsModel", "tokenAt", "I", false)
  | 15 => ("NightPlotsModel", "token", "J", false)
  | 16 => ("NightPlotsModel", "digits", "I", false)
  | 17 => ("NightPlotsModel", "number", "I", false)
  | 18 => ("NightPlotsModel", "faultAt", "I", false)
  | 19 => ("NightPlotsModel", "readMany", "I", false)
  | 20 => ("NightPlotsModel", "readPlots", "I", false)
  | 21 => ("NightPlotsModel", "readHouses", "I", false)
  | 22 => ("NightPlotsModel", "readFull", "I", false)
  | 23 => ("NightPlotsModel", "readPaths", "I", false)
  | 24 => ("NightPlotsModel", "readFeuds", "I", false)
  | 25 => ("NightPlotsModel", "read", "[I", true)
  | 26 => ("NightPlotsModel", "now", "[I", true)
  | 27 => ("NightPlotsModel", "aside", "[I", true)
  | 28 => ("NightPlotsModel", "image", "[I", true)
  | 29 => ("NightPlotsModel", "isKept", "[Z", true)
  | 30 => ("NightPlotsModel", "sights", "I", false)
  | 31 => ("NightPlotsModel", "sight", "[I", true)
  | 32 => ("NightPlotsModel", "wayMany", "I", false)
  | 33 => ("NightPlotsModel", "way", "[I", true)
  | 34 => ("NightPlotsModel", "triedLaw", "I", false)
  | 35 => ("NightPlotsModel", "states", "[I", true)
  | 36 => ("NightPlotsModel", "deep", "[I", true)
  | 37 => ("NightPlotsModel", "deepHouse", "[I", true)
  | 38 => ("NightPlotsModel", "deepWay", "[I", true)
  | _ => ("NightPlotsModel", "deepRoll", "[I", true)
def tyX5 : Nat → FieldType := fun k => match k with
  | 0 => .int
  | 1 => .array .int
  | 2 => .int
  | 3 => .array .int
  | 4 => .array .int
  | 5 => .int
  | 6 => .array .int
  | 7 => .int
  | 8 => .array .int
  | 9 => .int
  | 10 => .int
  | 11 => .int
  | 12 => .array .int
  | 13 => .int
  | 14 => .int
  | 15 => .long
  | 16 => .int
  | 17 => .int
  | 18 => .int
  | 19 => .int
  | 20 => .int
  | 21 => .int
  | 22 => .int
  | 23 => .int
  | 24 => .int
  | 25 => .array .int
  | 26 => .array .int
  | 27 => .array .int
  | 28 => .array .int
  | 29 => .array .boolean
  | 30 => .int
  | 31 => .array .int
  | 32 => .int
  | 33 => .array .int
  | 34 => .int
  | 35 => .array .int
  | 36 => .array .int
  | 37 => .array .int
  | 38 => .array .int
  | _ => .array .int
abbrev wsX50 : List Cond := u_ws RX5 TX5 40
theorem nmX5 : ∀ a, a < 40 → ∀ b, b < 40 → a ≠ b → (TX5 a).2.1 ≠ (TX5 b).2.1 := by decide +kernel
theorem tyX5_ok : ∀ k, k < 40 → parseFieldDescriptor (TX5 k).2.2.1 = some (tyX5 k) := by decide +kernel
abbrev cX5_init : ByteArray := prog_7_method_1_code
def yX5_init : MethodName := ⟨RX5, "<init>", "()V"⟩
abbrev cX5_in : ByteArray := prog_7_method_2_code
def yX5_in : MethodName := ⟨RX5, "in", "(III)Z"⟩
abbrev cX5_has : ByteArray := prog_7_method_3_code
def yX5_has : MethodName := ⟨RX5, "has", "(II)Z"⟩
abbrev cX5_isHouse : ByteArray := prog_7_method_4_code
def yX5_isHouse : MethodName := ⟨RX5, "isHouse", "(I)Z"⟩
abbrev cX5_isPlot : ByteArray := prog_7_method_5_code
def yX5_isPlot : MethodName := ⟨RX5, "isPlot", "(I)Z"⟩
abbrev cX5_plain : ByteArray := prog_7_method_6_code
def yX5_plain : MethodName := ⟨RX5, "plain", "()V"⟩
abbrev cX5_begin : ByteArray := prog_7_method_7_code
def yX5_begin : MethodName := ⟨RX5, "begin", "()V"⟩
abbrev cX5_write : ByteArray := prog_7_method_8_code
def yX5_write : MethodName := ⟨RX5, "write", "(JI)I"⟩
abbrev cX5_erase : ByteArray := prog_7_method_9_code
def yX5_erase : MethodName := ⟨RX5, "erase", "()I"⟩
abbrev cX5_nextToken : ByteArray := prog_7_method_10_code
def yX5_nextToken : MethodName := ⟨RX5, "nextToken", "()V"⟩
abbrev cX5_fails : ByteArray := prog_7_method_11_code
def yX5_fails : MethodName := ⟨RX5, "fails", "()Z"⟩
abbrev cX5_isNumber : ByteArray := prog_7_method_12_code
def yX5_isNumber : MethodName := ⟨RX5, "isNumber", "(III)Z"⟩
abbrev cX5_isGreen : ByteArray := prog_7_method_13_code
def yX5_isGreen : MethodName := ⟨RX5, "isGreen", "(I)Z"⟩
abbrev cX5_isHouseLine : ByteArray := prog_7_method_14_code
def yX5_isHouseLine : MethodName := ⟨RX5, "isHouseLine", "(IZ)Z"⟩
abbrev cX5_areUnlike : ByteArray := prog_7_method_15_code
def yX5_areUnlike : MethodName := ⟨RX5, "areUnlike", "(II)Z"⟩
abbrev cX5_isPath : ByteArray := prog_7_method_16_code
def yX5_isPath : MethodName := ⟨RX5, "isPath", "(I)Z"⟩
abbrev cX5_isFeud : ByteArray := prog_7_method_17_code
def yX5_isFeud : MethodName := ⟨RX5, "isFeud", "(I)Z"⟩
abbrev cX5_isLine : ByteArray := prog_7_method_18_code
def yX5_isLine : MethodName := ⟨RX5, "isLine", "(I)Z"⟩
abbrev cX5_isRead : ByteArray := prog_7_method_19_code
def yX5_isRead : MethodName := ⟨RX5, "isRead", "()Z"⟩
abbrev cX5_fault : ByteArray := prog_7_method_20_code
def yX5_fault : MethodName := ⟨RX5, "fault", "()I"⟩
abbrev cX5_doLine : ByteArray := prog_7_method_21_code
def yX5_doLine : MethodName := ⟨RX5, "doLine", "(I)V"⟩
abbrev cX5_green : ByteArray := prog_7_method_22_code
def yX5_green : MethodName := ⟨RX5, "green", "()I"⟩
abbrev cX5_next : ByteArray := prog_7_method_23_code
def yX5_next : MethodName := ⟨RX5, "next", "(II)I"⟩
abbrev cX5_full : ByteArray := prog_7_method_24_code
def yX5_full : MethodName := ⟨RX5, "full", "()I"⟩
abbrev cX5_standsOn : ByteArray := prog_7_method_25_code
def yX5_standsOn : MethodName := ⟨RX5, "standsOn", "(II)Z"⟩
abbrev cX5_plot : ByteArray := prog_7_method_26_code
def yX5_plot : MethodName := ⟨RX5, "plot", "(II)I"⟩
abbrev cX5_addWay : ByteArray := prog_7_method_27_code
def yX5_addWay : MethodName := ⟨RX5, "addWay", "(ZI)V"⟩
abbrev cX5_layWays : ByteArray := prog_7_method_28_code
def yX5_layWays : MethodName := ⟨RX5, "layWays", "(I)V"⟩
abbrev cX5_house : ByteArray := prog_7_method_29_code
def yX5_house : MethodName := ⟨RX5, "house", "(II)I"⟩
abbrev cX5_as : ByteArray := prog_7_method_30_code
def yX5_as : MethodName := ⟨RX5, "as", "(II)I"⟩
abbrev cX5_can : ByteArray := prog_7_method_31_code
def yX5_can : MethodName := ⟨RX5, "can", "(II)I"⟩
abbrev cX5_rollTo : ByteArray := prog_7_method_32_code
def yX5_rollTo : MethodName := ⟨RX5, "rollTo", "(II)V"⟩
abbrev cX5_rolls : ByteArray := prog_7_method_33_code
def yX5_rolls : MethodName := ⟨RX5, "rolls", "()I"⟩
abbrev cX5_goLot : ByteArray := prog_7_method_34_code
def yX5_goLot : MethodName := ⟨RX5, "goLot", "()V"⟩
abbrev cX5_goNight : ByteArray := prog_7_method_35_code
def yX5_goNight : MethodName := ⟨RX5, "goNight", "()V"⟩
abbrev cX5_go : ByteArray := prog_7_method_36_code
def yX5_go : MethodName := ⟨RX5, "go", "(I)I"⟩
abbrev cX5_roll : ByteArray := prog_7_method_37_code
def yX5_roll : MethodName := ⟨RX5, "roll", "(II)I"⟩
abbrev cX5_copy : ByteArray := prog_7_method_38_code
def yX5_copy : MethodName := ⟨RX5, "copy", "([II[II)V"⟩
abbrev cX5_keep : ByteArray := prog_7_method_39_code
def yX5_keep : MethodName := ⟨RX5, "keep", "(I)I"⟩
abbrev cX5_back : ByteArray := prog_7_method_40_code
def yX5_back : MethodName := ⟨RX5, "back", "(I)I"⟩
abbrev cX5_putAside : ByteArray := prog_7_method_41_code
def yX5_putAside : MethodName := ⟨RX5, "putAside", "()V"⟩
abbrev cX5_putBack : ByteArray := prog_7_method_42_code
def yX5_putBack : MethodName := ⟨RX5, "putBack", "()V"⟩
abbrev cX5_later : ByteArray := prog_7_method_43_code
def yX5_later : MethodName := ⟨RX5, "later", "(II)I"⟩
abbrev cX5_rankOf : ByteArray := prog_7_method_44_code
def yX5_rankOf : MethodName := ⟨RX5, "rankOf", "(I)I"⟩
abbrev cX5_layState : ByteArray := prog_7_method_45_code
def yX5_layState : MethodName := ⟨RX5, "layState", "(I)V"⟩
abbrev cX5_isLike : ByteArray := prog_7_method_46_code
def yX5_isLike : MethodName := ⟨RX5, "isLike", "(II)Z"⟩
abbrev cX5_roundOf : ByteArray := prog_7_method_47_code
def yX5_roundOf : MethodName := ⟨RX5, "roundOf", "()I"⟩
abbrev cX5_round : ByteArray := prog_7_method_48_code
def yX5_round : MethodName := ⟨RX5, "round", "(I)I"⟩
abbrev cX5_areBeside : ByteArray := prog_7_method_49_code
def yX5_areBeside : MethodName := ⟨RX5, "areBeside", "(II)Z"⟩
abbrev cX5_doTouch : ByteArray := prog_7_method_50_code
def yX5_doTouch : MethodName := ⟨RX5, "doTouch", "(III)Z"⟩
abbrev cX5_whyNot : ByteArray := prog_7_method_51_code
def yX5_whyNot : MethodName := ⟨RX5, "whyNot", "(IIZ)I"⟩
abbrev cX5_touch : ByteArray := prog_7_method_52_code
def yX5_touch : MethodName := ⟨RX5, "touch", "(III)I"⟩
abbrev cX5_when : ByteArray := prog_7_method_53_code
def yX5_when : MethodName := ⟨RX5, "when", "(III)I"⟩
abbrev cX5_areDays : ByteArray := prog_7_method_54_code
def yX5_areDays : MethodName := ⟨RX5, "areDays", "(I)Z"⟩
abbrev cX5_often : ByteArray := prog_7_method_55_code
def yX5_often : MethodName := ⟨RX5, "often", "(IIII)I"⟩
abbrev cX5_brings : ByteArray := prog_7_method_56_code
def yX5_brings : MethodName := ⟨RX5, "brings", "(II)I"⟩
abbrev cX5_feuding : ByteArray := prog_7_method_57_code
def yX5_feuding : MethodName := ⟨RX5, "feuding", "(I)I"⟩
abbrev cX5_enter : ByteArray := prog_7_method_58_code
def yX5_enter : MethodName := ⟨RX5, "enter", "(I)V"⟩
abbrev cX5_restore : ByteArray := prog_7_method_59_code
def yX5_restore : MethodName := ⟨RX5, "restore", "(I)V"⟩
abbrev cX5_firstRow : ByteArray := prog_7_method_60_code
def yX5_firstRow : MethodName := ⟨RX5, "firstRow", "(III)I"⟩
abbrev cX5_nearest : ByteArray := prog_7_method_61_code
def yX5_nearest : MethodName := ⟨RX5, "nearest", "(III)I"⟩
abbrev cX5_doMeet : ByteArray := prog_7_method_62_code
def yX5_doMeet : MethodName := ⟨RX5, "doMeet", "(III)Z"⟩
abbrev cX5_mends : ByteArray := prog_7_method_63_code
def yX5_mends : MethodName := ⟨RX5, "mends", "(IIII)I"⟩
abbrev cX5_mend : ByteArray := prog_7_method_64_code
def yX5_mend : MethodName := ⟨RX5, "mend", "(II)V"⟩
abbrev cX5_seen : ByteArray := prog_7_method_65_code
def yX5_seen : MethodName := ⟨RX5, "seen", "(III)I"⟩
abbrev cX5_forget : ByteArray := prog_7_method_66_code
def yX5_forget : MethodName := ⟨RX5, "forget", "()I"⟩
abbrev cX5_laws : ByteArray := prog_7_method_67_code
def yX5_laws : MethodName := ⟨RX5, "laws", "()I"⟩
abbrev cX5_count : ByteArray := prog_7_method_68_code
def yX5_count : MethodName := ⟨RX5, "count", "(I)I"⟩
def RJx145de : String := "java/io/Serializable"
def TJx145de : u_T := fun k => match k with
  | _ => ("", "", "", false)
def tyJx145de : Nat → FieldType := fun k => match k with
  | _ => .int
abbrev wsJx145de0 : List Cond := u_ws RJx145de TJx145de 0
theorem nmJx145de : ∀ a, a < 0 → ∀ b, b < 0 → a ≠ b → (TJx145de a).2.1 ≠ (TJx145de b).2.1 := by decide +kernel
theorem tyJx145de_ok : ∀ k, k < 0 → parseFieldDescriptor (TJx145de k).2.2.1 = some (tyJx145de k) := by decide +kernel
def RJx9f9b0 : String := "java/lang/CharSequence"
def TJx9f9b0 : u_T := fun k => match k with
  | _ => ("", "", "", false)
def tyJx9f9b0 : Nat → FieldType := fun k => match k with
  | _ => .int
abbrev wsJx9f9b00 : List Cond := u_ws RJx9f9b0 TJx9f9b0 0
theorem nmJx9f9b0 : ∀ a, a < 0 → ∀ b, b < 0 → a ≠ b → (TJx9f9b0 a).2.1 ≠ (TJx9f9b0 b).2.1 := by decide +kernel
theorem tyJx9f9b0_ok : ∀ k, k < 0 → parseFieldDescriptor (TJx9f9b0 k).2.2.1 = some (tyJx9f9b0 k) := by decide +kernel
def RJxb160c : String := "java/lang/Comparable"
def TJxb160c : u_T := fun k => match k with
  | _ => ("", "", "", false)
def tyJxb160c : Nat → FieldType := fun k => match k with
  | _ => .int
abbrev wsJxb160c0 : List Cond := u_ws RJxb160c TJxb160c 0
theorem nmJxb160c : ∀ a, a < 0 → ∀ b, b < 0 → a ≠ b → (TJxb160c a).2.1 ≠ (TJxb160c b).2.1 := by decide +kernel
theorem tyJxb160c_ok : ∀ k, k < 0 → parseFieldDescriptor (TJxb160c k).2.2.1 = some (tyJxb160c k) := by decide +kernel
def RJ9 : String := "java/lang/Math"
def TJ9 : u_T := fun k => match k with
  | _ => ("", "", "", false)
def tyJ9 : Nat → FieldType := fun k => match k with
  | _ => .int
abbrev wsJ90 : List Cond := u_ws RJ9 TJ9 0
theorem nmJ9 : ∀ a, a < 0 → ∀ b, b < 0 → a ≠ b → (TJ9 a).2.1 ≠ (TJ9 b).2.1 := by decide +kernel
theorem tyJ9_ok : ∀ k, k < 0 → parseFieldDescriptor (TJ9 k).2.2.1 = some (tyJ9 k) := by decide +kernel
abbrev cJ9_abs_0f7a4 : ByteArray := prog_8_method_59_code
def yJ9_abs_0f7a4 : MethodName := ⟨RJ9, "abs", "(I)I"⟩
def RJ0 : String := "java/lang/String"
def TJ0 : u_T := fun k => match k with
  | _ => ("", "", "", false)
def tyJ0 : Nat → FieldType := fun k => match k with
  | _ => .int
abbrev wsJ00 : List Cond := u_ws RJ0 TJ0 0
theorem nmJ0 : ∀ a, a < 0 → ∀ b, b < 0 → a ≠ b → (TJ0 a).2.1 ≠ (TJ0 b).2.1 := by decide +kernel
theorem tyJ0_ok : ∀ k, k < 0 → parseFieldDescriptor (TJ0 k).2.2.1 = some (tyJ0 k) := by decide +kernel
abbrev cJ0_length_8abf5 : ByteArray := prog_9_method_54_code
def yJ0_length_8abf5 : MethodName := ⟨RJ0, "length", "()I"⟩
abbrev cJ0_charAt_5068e : ByteArray := prog_9_method_56_code
def yJ0_charAt_5068e : MethodName := ⟨RJ0, "charAt", "(I)C"⟩
abbrev cJ0_coder_7d493 : ByteArray := prog_9_method_152_code
def yJ0_coder_7d493 : MethodName := ⟨RJ0, "coder", "()B"⟩
abbrev cJ0_isLatin1_aae02 : ByteArray := prog_9_method_154_code
def yJ0_isLatin1_aae02 : MethodName := ⟨RJ0, "isLatin1", "()Z"⟩
abbrev cJ0_checkIndex_df160 : ByteArray := prog_9_method_155_code
def yJ0_checkIndex_df160 : MethodName := ⟨RJ0, "checkIndex", "(II)V"⟩
def RJ1 : String := "java/lang/StringLatin1"
def TJ1 : u_T := fun k => match k with
  | _ => ("", "", "", false)
def tyJ1 : Nat → FieldType := fun k => match k with
  | _ => .int
abbrev wsJ10 : List Cond := u_ws RJ1 TJ1 0
theorem nmJ1 : ∀ a, a < 0 → ∀ b, b < 0 → a ≠ b → (TJ1 a).2.1 ≠ (TJ1 b).2.1 := by decide +kernel
theorem tyJ1_ok : ∀ k, k < 0 → parseFieldDescriptor (TJ1 k).2.2.1 = some (tyJ1 k) := by decide +kernel
abbrev cJ1_charAt_3b067 : ByteArray := prog_10_method_2_code
def yJ1_charAt_3b067 : MethodName := ⟨RJ1, "charAt", "([BI)C"⟩
def RJ2 : String := "java/lang/StringUTF16"
def TJ2 : u_T := fun k => match k with
  | _ => ("", "", "", false)
def tyJ2 : Nat → FieldType := fun k => match k with
  | _ => .int
abbrev wsJ20 : List Cond := u_ws RJ2 TJ2 0
theorem nmJ2 : ∀ a, a < 0 → ∀ b, b < 0 → a ≠ b → (TJ2 a).2.1 ≠ (TJ2 b).2.1 := by decide +kernel
theorem tyJ2_ok : ∀ k, k < 0 → parseFieldDescriptor (TJ2 k).2.2.1 = some (tyJ2 k) := by decide +kernel
abbrev cJ2_getChar_3b067 : ByteArray := prog_11_method_5_code
def yJ2_getChar_3b067 : MethodName := ⟨RJ2, "getChar", "([BI)C"⟩
abbrev cJ2_length_9d52b : ByteArray := prog_11_method_6_code
def yJ2_length_9d52b : MethodName := ⟨RJ2, "length", "([B)I"⟩
abbrev cJ2_charAt_3b067 : ByteArray := prog_11_method_83_code
def yJ2_charAt_3b067 : MethodName := ⟨RJ2, "charAt", "([BI)C"⟩
abbrev cJ2_checkIndex_2214a : ByteArray := prog_11_method_91_code
def yJ2_checkIndex_2214a : MethodName := ⟨RJ2, "checkIndex", "(I[B)V"⟩
def RJ10 : String := "java/lang/System"
def TJ10 : u_T := fun k => match k with
  | _ => ("", "", "", false)
def tyJ10 : Nat → FieldType := fun k => match k with
  | _ => .int
abbrev wsJ100 : List Cond := u_ws RJ10 TJ10 0
theorem nmJ10 : ∀ a, a < 0 → ∀ b, b < 0 → a ≠ b → (TJ10 a).2.1 ≠ (TJ10 b).2.1 := by decide +kernel
theorem tyJ10_ok : ∀ k, k < 0 → parseFieldDescriptor (TJ10 k).2.2.1 = some (tyJ10 k) := by decide +kernel
def RJxfd54e : String := "java/lang/constant/Constable"
def TJxfd54e : u_T := fun k => match k with
  | _ => ("", "", "", false)
def tyJxfd54e : Nat → FieldType := fun k => match k with
  | _ => .int
abbrev wsJxfd54e0 : List Cond := u_ws RJxfd54e TJxfd54e 0
theorem nmJxfd54e : ∀ a, a < 0 → ∀ b, b < 0 → a ≠ b → (TJxfd54e a).2.1 ≠ (TJxfd54e b).2.1 := by decide +kernel
theorem tyJxfd54e_ok : ∀ k, k < 0 → parseFieldDescriptor (TJxfd54e k).2.2.1 = some (tyJxfd54e k) := by decide +kernel
def RJx3cf43 : String := "java/lang/constant/ConstantDesc"
def TJx3cf43 : u_T := fun k => match k with
  | _ => ("", "", "", false)
def tyJx3cf43 : Nat → FieldType := fun k => match k with
  | _ => .int
abbrev wsJx3cf430 : List Cond := u_ws RJx3cf43 TJx3cf43 0
theorem nmJx3cf43 : ∀ a, a < 0 → ∀ b, b < 0 → a ≠ b → (TJx3cf43 a).2.1 ≠ (TJx3cf43 b).2.1 := by decide +kernel
theorem tyJx3cf43_ok : ∀ k, k < 0 → parseFieldDescriptor (TJx3cf43 k).2.2.1 = some (tyJx3cf43 k) := by decide +kernel
def RJ7 : String := "java/util/Arrays"
def TJ7 : u_T := fun k => match k with
  | _ => ("", "", "", false)
def tyJ7 : Nat → FieldType := fun k => match k with
  | _ => .int
abbrev wsJ70 : List Cond := u_ws RJ7 TJ7 0
theorem nmJ7 : ∀ a, a < 0 → ∀ b, b < 0 → a ≠ b → (TJ7 a).2.1 ≠ (TJ7 b).2.1 := by decide +kernel
theorem tyJ7_ok : ∀ k, k < 0 → parseFieldDescriptor (TJ7 k).2.2.1 = some (tyJ7 k) := by decide +kernel
abbrev cJ7_fill_d0a16 : ByteArray := prog_13_method_101_code
def yJ7_fill_d0a16 : MethodName := ⟨RJ7, "fill", "([JJ)V"⟩
abbrev cJ7_fill_53178 : ByteArray := prog_13_method_103_code
def yJ7_fill_53178 : MethodName := ⟨RJ7, "fill", "([II)V"⟩
def RJ3 : String := "jdk/internal/util/Preconditions"
def TJ3 : u_T := fun k => match k with
  | _ => ("", "", "", false)
def tyJ3 : Nat → FieldType := fun k => match k with
  | _ => .int
abbrev wsJ30 : List Cond := u_ws RJ3 TJ3 0
theorem nmJ3 : ∀ a, a < 0 → ∀ b, b < 0 → a ≠ b → (TJ3 a).2.1 ≠ (TJ3 b).2.1 := by decide +kernel
theorem tyJ3_ok : ∀ k, k < 0 → parseFieldDescriptor (TJ3 k).2.2.1 = some (tyJ3 k) := by decide +kernel
abbrev cJ3_checkIndex_8e157 : ByteArray := prog_14_method_11_code
def yJ3_checkIndex_8e157 : MethodName := ⟨RJ3, "checkIndex", "(IILjava/util/function/BiFunction;)I"⟩
def RL : String := "NightPlotsLaw"
abbrev cL_law : ByteArray := code
def yL_law : MethodName := ⟨RL, "law", "([I)Z"⟩
def wsX0_init : List Cond := .code yX0_init cX0_init 2 none :: ([.methodLink RX0 3 objectInit, .instanceMethod objectInit, .code objectInit ⟨#[0xb1]⟩ 1 none, .classLink RX0 9 "[[I", .arrayClass .int, .fieldLink RX0 11 "NightPlots$Search" "ways" "[[I", .arrayClass .long, .fieldLink RX0 16 "NightPlots$Search" "deadEnds" "[J", .fieldLink RX0 20 "NightPlots$Search" "standing" "LNightPlots$Standing;"] ++ wsX00)
def wsJ7_fill_d0a16 : List Cond := .code yJ7_fill_d0a16 cJ7_fill_d0a16 5 none :: ([])
def wsX0_prepare : List Cond := .code yX0_prepare cX0_prepare 3 none :: ([.fieldLink RX0 24 "NightPlots$Search" "a" "I", .fieldLink RX0 28 "NightPlots$Search" "b" "I", .fieldLink RX0 31 "NightPlots$Search" "firstRoll" "I", .fieldLink RX0 16 "NightPlots$Search" "deadEnds" "[J", .methodLink RX0 34 yJ7_fill_d0a16, .static yJ7_fill_d0a16, .initialized RJ7, .code yJ7_fill_d0a16 cJ7_fill_d0a16 5 none] ++ wsX00)
def wsX1_placesKey : List Cond := .code yX1_placesKey cX1_placesKey 4 (some .long) :: ([.fieldLink RX1 21 "NightPlots$Standing" "told" "LNightPlots$Told;", .fieldLink RX1 73 "NightPlots$Told" "houses" "I", .fieldLink RX1 9 "NightPlots$Standing" "place" "[I"] ++ wsX10 ++ wsX30)
def wsX0_mayHelp : List Cond := .code yX0_mayHelp cX0_mayHelp 3 (some .boolean) :: ([.fieldLink RX0 24 "NightPlots$Search" "a" "I", .fieldLink RX0 28 "NightPlots$Search" "b" "I"] ++ wsX00)
def wsX3_next : List Cond := .code yX3_next cX3_next 2 (some .int) :: ([.fieldLink RX3 37 "NightPlots$Told" "plots" "I"] ++ wsX30)
def wsX3_previous : List Cond := .code yX3_previous cX3_previous 2 (some .int) :: ([.fieldLink RX3 37 "NightPlots$Told" "plots" "I"] ++ wsX30)
def wsX1_isEmpty : List Cond := .code yX1_isEmpty cX1_isEmpty 2 (some .boolean) :: ([.fieldLink RX1 47 "NightPlots$Standing" "taken" "I"] ++ wsX10)
def wsX3_otherEnd : List Cond := .code yX3_otherEnd cX3_otherEnd 3 (some .int) :: ([.fieldLink RX3 21 "NightPlots$Told" "pathFrom" "[I", .fieldLink RX3 24 "NightPlots$Told" "pathTo" "[I"] ++ wsX30)
def wsX1_findPathWays : List Cond := .code yX1_findPathWays cX1_findPathWays 7 (some .int) :: ([.fieldLink RX1 21 "NightPlots$Standing" "told" "LNightPlots$Told;", .fieldLink RX1 97 "NightPlots$Told" "paths" "I", .methodLink RX1 100 yX3_otherEnd, .instanceMethod yX3_otherEnd, .selects RX3 yX3_otherEnd yX3_otherEnd, .initialized RX3, .code yX3_otherEnd cX3_otherEnd 3 (some .int), .fieldLink RX3 21 "NightPlots$Told" "pathFrom" "[I", .fieldLink RX3 24 "NightPlots$Told" "pathTo" "[I", .methodLink RX1 89 yX1_isEmpty, .instanceMethod yX1_isEmpty, .selects RX1 yX1_isEmpty yX1_isEmpty, .initialized RX1, .code yX1_isEmpty cX1_isEmpty 2 (some .boolean), .fieldLink RX1 47 "NightPlots$Standing" "taken" "I"] ++ wsX10 ++ wsX30)
def wsX1_findWays_r1 : List Cond := [Cond.fieldLink RX1 21 "NightPlots$Standing" "told" "LNightPlots$Told;", Cond.fieldLink RX1 66 "NightPlots$Told" "kind" "[I", Cond.fieldLink RX1 63 "NightPlots$Standing" "mended" "I", Cond.fieldLink RX1 9 "NightPlots$Standing" "place" "[I", Cond.methodLink RX1 83 yX3_next, Cond.instanceMethod yX3_next, Cond.selects RX3 yX3_next yX3_next, Cond.initialized RX3, Cond.code yX3_next cX3_next 2 (some .int), Cond.fieldLink RX3 37 "NightPlots$Told" "plots" "I", Cond.methodLink RX1 86 yX3_previous, Cond.instanceMethod yX3_previous, Cond.selects RX3 yX3_previous yX3_previous, Cond.code yX3_previous cX3_previous 2 (some .int), Cond.methodLink RX1 89 yX1_isEmpty, Cond.instanceMethod yX1_isEmpty, Cond.selects RX1 yX1_isEmpty yX1_isEmpty, Cond.initialized RX1, Cond.code yX1_isEmpty cX1_isEmpty 2 (some .boolean), Cond.fieldLink RX1 47 "NightPlots$Standing" "taken" "I", Cond.methodLink RX1 93 yX1_findPathWays, Cond.instanceMethod yX1_findPathWays, Cond.selects RX1 yX1_findPathWays yX1_findPathWays, Cond.code yX1_findPathWays cX1_findPathWays 7 (some .int)]
def wsX1_findWays_r2 : List Cond := [Cond.fieldLink RX1 97 "NightPlots$Told" "paths" "I", Cond.methodLink RX1 100 yX3_otherEnd, Cond.instanceMethod yX3_otherEnd, Cond.selects RX3 yX3_otherEnd yX3_otherEnd, Cond.code yX3_otherEnd cX3_otherEnd 3 (some .int), Cond.fieldLink RX3 21 "NightPlots$Told" "pathFrom" "[I", Cond.fieldLink RX3 24 "NightPlots$Told" "pathTo" "[I"]
def wsX1_findWays : List Cond := .code yX1_findWays cX1_findWays 7 (some .int) :: ((wsX1_findWays_r1 ++ wsX1_findWays_r2) ++ wsX10 ++ wsX30)
def wsX3_ground : List Cond := .code yX3_ground cX3_ground 3 (some .int) :: ([.methodLink RX3 71 yX3_next, .instanceMethod yX3_next, .selects RX3 yX3_next yX3_next, .initialized RX3, .code yX3_next cX3_next 2 (some .int), .fieldLink RX3 37 "NightPlots$Told" "plots" "I"] ++ wsX30)
def wsX1_groundOf : List Cond := .code yX1_groundOf cX1_groundOf 2 (some .int) :: ([.fieldLink RX1 21 "NightPlots$Standing" "told" "LNightPlots$Told;", .fieldLink RX1 66 "NightPlots$Told" "kind" "[I", .fieldLink RX1 9 "NightPlots$Standing" "place" "[I", .methodLink RX1 69 yX3_ground, .instanceMethod yX3_ground, .selects RX3 yX3_ground yX3_ground, .initialized RX3, .code yX3_ground cX3_ground 3 (some .int), .methodLink RX3 71 yX3_next, .instanceMethod yX3_next, .selects RX3 yX3_next yX3_next, .code yX3_next cX3_next 2 (some .int), .fieldLink RX3 37 "NightPlots$Told" "plots" "I"] ++ wsX10 ++ wsX30)
def wsX1_moveHouse : List Cond := .code yX1_moveHouse cX1_moveHouse 3 none :: ([.fieldLink RX1 47 "NightPlots$Standing" "taken" "I", .fieldLink RX1 9 "NightPlots$Standing" "place" "[I", .methodLink RX1 76 yX1_groundOf, .instanceMethod yX1_groundOf, .selects RX1 yX1_groundOf yX1_groundOf, .initialized RX1, .code yX1_groundOf cX1_groundOf 2 (some .int), .fieldLink RX1 21 "NightPlots$Standing" "told" "LNightPlots$Told;", .fieldLink RX1 66 "NightPlots$Told" "kind" "[I", .methodLink RX1 69 yX3_ground, .instanceMethod yX3_ground, .selects RX3 yX3_ground yX3_ground, .initialized RX3, .code yX3_ground cX3_ground 3 (some .int), .methodLink RX3 71 yX3_next, .instanceMethod yX3_next, .selects RX3 yX3_next yX3_next, .code yX3_next cX3_next 2 (some .int), .fieldLink RX3 37 "NightPlots$Told" "plots" "I"] ++ wsX10 ++ wsX30)
def wsX3_allPlots : List Cond := .code yX3_allPlots cX3_allPlots 1 (some .int) :: ([.fieldLink RX3 37 "NightPlots$Told" "plots" "I"] ++ wsX30)
def wsX3_around : List Cond := .code yX3_around cX3_around 4 (some .int) :: ([.fieldLink RX3 37 "NightPlots$Told" "plots" "I", .methodLink RX3 75 yX3_allPlots, .instanceMethod yX3_allPlots, .selects RX3 yX3_allPlots yX3_allPlots, .initialized RX3, .code yX3_allPlots cX3_allPlots 1 (some .int)] ++ wsX30)
def wsX1_areBeside_r1 : List Cond := [Cond.fieldLink RX1 21 "NightPlots$Standing" "told" "LNightPlots$Told;", Cond.methodLink RX1 76 yX1_groundOf, Cond.instanceMethod yX1_groundOf, Cond.selects RX1 yX1_groundOf yX1_groundOf, Cond.initialized RX1, Cond.code yX1_groundOf cX1_groundOf 2 (some .int), Cond.fieldLink RX1 66 "NightPlots$Told" "kind" "[I", Cond.fieldLink RX1 9 "NightPlots$Standing" "place" "[I", Cond.methodLink RX1 69 yX3_ground, Cond.instanceMethod yX3_ground, Cond.selects RX3 yX3_ground yX3_ground, Cond.initialized RX3, Cond.code yX3_ground cX3_ground 3 (some .int), Cond.methodLink RX3 71 yX3_next, Cond.instanceMethod yX3_next, Cond.selects RX3 yX3_next yX3_next, Cond.code yX3_next cX3_next 2 (some .int), Cond.fieldLink RX3 37 "NightPlots$Told" "plots" "I", Cond.methodLink RX1 139 yX3_around, Cond.instanceMethod yX3_around, Cond.selects RX3 yX3_around yX3_around, Cond.code yX3_around cX3_around 4 (some .int), Cond.methodLink RX3 75 yX3_allPlots, Cond.instanceMethod yX3_allPlots]
def wsX1_areBeside_r2 : List Cond := [Cond.selects RX3 yX3_allPlots yX3_allPlots, Cond.code yX3_allPlots cX3_allPlots 1 (some .int)]
def wsX1_areBeside : List Cond := .code yX1_areBeside cX1_areBeside 3 (some .boolean) :: ((wsX1_areBeside_r1 ++ wsX1_areBeside_r2) ++ wsX10 ++ wsX30)
def wsX0_reaches_r1 : List Cond := [Cond.fieldLink RX0 20 "NightPlots$Search" "standing" "LNightPlots$Standing;", Cond.constantLong RX0 46 (8), Cond.constantLong RX0 48 (-7046029254386353131), Cond.fieldLink RX0 16 "NightPlots$Search" "deadEnds" "[J", Cond.fieldLink RX0 54 "NightPlots$Told" "houses" "I", Cond.methodLink RX0 40 yX1_placesKey, Cond.instanceMethod yX1_placesKey, Cond.selects RX1 yX1_placesKey yX1_placesKey, Cond.initialized RX1, Cond.code yX1_placesKey cX1_placesKey 4 (some .long), Cond.fieldLink RX1 21 "NightPlots$Standing" "told" "LNightPlots$Told;", Cond.fieldLink RX1 73 "NightPlots$Told" "houses" "I", Cond.fieldLink RX1 9 "NightPlots$Standing" "place" "[I", Cond.methodLink RX0 59 yX0_mayHelp, Cond.instanceMethod yX0_mayHelp, Cond.selects RX0 yX0_mayHelp yX0_mayHelp, Cond.initialized RX0, Cond.code yX0_mayHelp cX0_mayHelp 3 (some .boolean), Cond.fieldLink RX0 24 "NightPlots$Search" "a" "I", Cond.fieldLink RX0 28 "NightPlots$Search" "b" "I", Cond.methodLink RX0 63 yX0_reachesBy, Cond.static yX0_reachesBy, Cond.code yX0_reachesBy cX0_reachesBy 8 (some .boolean), Cond.fieldLink RX0 11 "NightPlots$Search" "ways" "[[I"]
def wsX0_reaches_r2 : List Cond := [Cond.fieldLink RX0 67 "NightPlots$Standing" "place" "[I", Cond.fieldLink RX0 31 "NightPlots$Search" "firstRoll" "I", Cond.methodLink RX0 71 yX1_findWays, Cond.instanceMethod yX1_findWays, Cond.selects RX1 yX1_findWays yX1_findWays, Cond.code yX1_findWays cX1_findWays 7 (some .int), Cond.fieldLink RX1 66 "NightPlots$Told" "kind" "[I", Cond.fieldLink RX1 63 "NightPlots$Standing" "mended" "I", Cond.methodLink RX1 83 yX3_next, Cond.instanceMethod yX3_next, Cond.selects RX3 yX3_next yX3_next, Cond.initialized RX3, Cond.code yX3_next cX3_next 2 (some .int), Cond.fieldLink RX3 37 "NightPlots$Told" "plots" "I", Cond.methodLink RX1 86 yX3_previous, Cond.instanceMethod yX3_previous, Cond.selects RX3 yX3_previous yX3_previous, Cond.code yX3_previous cX3_previous 2 (some .int), Cond.methodLink RX1 89 yX1_isEmpty, Cond.instanceMethod yX1_isEmpty, Cond.selects RX1 yX1_isEmpty yX1_isEmpty, Cond.code yX1_isEmpty cX1_isEmpty 2 (some .boolean), Cond.fieldLink RX1 47 "NightPlots$Standing" "taken" "I", Cond.methodLink RX1 93 yX1_findPathWays]
def wsX0_reaches_r3 : List Cond := [Cond.instanceMethod yX1_findPathWays, Cond.selects RX1 yX1_findPathWays yX1_findPathWays, Cond.code yX1_findPathWays cX1_findPathWays 7 (some .int), Cond.fieldLink RX1 97 "NightPlots$Told" "paths" "I", Cond.methodLink RX1 100 yX3_otherEnd, Cond.instanceMethod yX3_otherEnd, Cond.selects RX3 yX3_otherEnd yX3_otherEnd, Cond.code yX3_otherEnd cX3_otherEnd 3 (some .int), Cond.fieldLink RX3 21 "NightPlots$Told" "pathFrom" "[I", Cond.fieldLink RX3 24 "NightPlots$Told" "pathTo" "[I", Cond.methodLink RX0 75 yX1_moveHouse, Cond.instanceMethod yX1_moveHouse, Cond.selects RX1 yX1_moveHouse yX1_moveHouse, Cond.code yX1_moveHouse cX1_moveHouse 3 none, Cond.methodLink RX1 76 yX1_groundOf, Cond.instanceMethod yX1_groundOf, Cond.selects RX1 yX1_groundOf yX1_groundOf, Cond.code yX1_groundOf cX1_groundOf 2 (some .int), Cond.methodLink RX1 69 yX3_ground, Cond.instanceMethod yX3_ground, Cond.selects RX3 yX3_ground yX3_ground, Cond.code yX3_ground cX3_ground 3 (some .int), Cond.methodLink RX3 71 yX3_next, Cond.methodLink RX0 79 yX1_areBeside]
def wsX0_reaches_r4 : List Cond := [Cond.instanceMethod yX1_areBeside, Cond.selects RX1 yX1_areBeside yX1_areBeside, Cond.code yX1_areBeside cX1_areBeside 3 (some .boolean), Cond.methodLink RX1 139 yX3_around, Cond.instanceMethod yX3_around, Cond.selects RX3 yX3_around yX3_around, Cond.code yX3_around cX3_around 4 (some .int), Cond.methodLink RX3 75 yX3_allPlots, Cond.instanceMethod yX3_allPlots, Cond.selects RX3 yX3_allPlots yX3_allPlots, Cond.code yX3_allPlots cX3_allPlots 1 (some .int), Cond.methodLink RX0 82 yX0_reaches, Cond.static yX0_reaches]
def wsX0_reaches : List Cond := .code yX0_reaches cX0_reaches 6 (some .boolean) :: ((wsX0_reaches_r1 ++ (wsX0_reaches_r2 ++ (wsX0_reaches_r3 ++ wsX0_reaches_r4))) ++ wsX00 ++ wsX10 ++ wsX30)
def wsX0_reachesBy_r1 : List Cond := [Cond.fieldLink RX0 11 "NightPlots$Search" "ways" "[[I", Cond.fieldLink RX0 20 "NightPlots$Search" "standing" "LNightPlots$Standing;", Cond.fieldLink RX0 67 "NightPlots$Standing" "place" "[I", Cond.fieldLink RX0 24 "NightPlots$Search" "a" "I", Cond.fieldLink RX0 28 "NightPlots$Search" "b" "I", Cond.fieldLink RX0 31 "NightPlots$Search" "firstRoll" "I", Cond.methodLink RX0 71 yX1_findWays, Cond.instanceMethod yX1_findWays, Cond.selects RX1 yX1_findWays yX1_findWays, Cond.initialized RX1, Cond.code yX1_findWays cX1_findWays 7 (some .int), Cond.fieldLink RX1 21 "NightPlots$Standing" "told" "LNightPlots$Told;", Cond.fieldLink RX1 66 "NightPlots$Told" "kind" "[I", Cond.fieldLink RX1 63 "NightPlots$Standing" "mended" "I", Cond.fieldLink RX1 9 "NightPlots$Standing" "place" "[I", Cond.methodLink RX1 83 yX3_next, Cond.instanceMethod yX3_next, Cond.selects RX3 yX3_next yX3_next, Cond.initialized RX3, Cond.code yX3_next cX3_next 2 (some .int), Cond.fieldLink RX3 37 "NightPlots$Told" "plots" "I", Cond.methodLink RX1 86 yX3_previous, Cond.instanceMethod yX3_previous, Cond.selects RX3 yX3_previous yX3_previous]
def wsX0_reachesBy_r2 : List Cond := [Cond.code yX3_previous cX3_previous 2 (some .int), Cond.methodLink RX1 89 yX1_isEmpty, Cond.instanceMethod yX1_isEmpty, Cond.selects RX1 yX1_isEmpty yX1_isEmpty, Cond.code yX1_isEmpty cX1_isEmpty 2 (some .boolean), Cond.fieldLink RX1 47 "NightPlots$Standing" "taken" "I", Cond.methodLink RX1 93 yX1_findPathWays, Cond.instanceMethod yX1_findPathWays, Cond.selects RX1 yX1_findPathWays yX1_findPathWays, Cond.code yX1_findPathWays cX1_findPathWays 7 (some .int), Cond.fieldLink RX1 97 "NightPlots$Told" "paths" "I", Cond.methodLink RX1 100 yX3_otherEnd, Cond.instanceMethod yX3_otherEnd, Cond.selects RX3 yX3_otherEnd yX3_otherEnd, Cond.code yX3_otherEnd cX3_otherEnd 3 (some .int), Cond.fieldLink RX3 21 "NightPlots$Told" "pathFrom" "[I", Cond.fieldLink RX3 24 "NightPlots$Told" "pathTo" "[I", Cond.methodLink RX0 75 yX1_moveHouse, Cond.instanceMethod yX1_moveHouse, Cond.selects RX1 yX1_moveHouse yX1_moveHouse, Cond.code yX1_moveHouse cX1_moveHouse 3 none, Cond.methodLink RX1 76 yX1_groundOf, Cond.instanceMethod yX1_groundOf, Cond.selects RX1 yX1_groundOf yX1_groundOf]
def wsX0_reachesBy_r3 : List Cond := [Cond.code yX1_groundOf cX1_groundOf 2 (some .int), Cond.methodLink RX1 69 yX3_ground, Cond.instanceMethod yX3_ground, Cond.selects RX3 yX3_ground yX3_ground, Cond.code yX3_ground cX3_ground 3 (some .int), Cond.methodLink RX3 71 yX3_next, Cond.methodLink RX0 79 yX1_areBeside, Cond.instanceMethod yX1_areBeside, Cond.selects RX1 yX1_areBeside yX1_areBeside, Cond.code yX1_areBeside cX1_areBeside 3 (some .boolean), Cond.methodLink RX1 139 yX3_around, Cond.instanceMethod yX3_around, Cond.selects RX3 yX3_around yX3_around, Cond.code yX3_around cX3_around 4 (some .int), Cond.methodLink RX3 75 yX3_allPlots, Cond.instanceMethod yX3_allPlots, Cond.selects RX3 yX3_allPlots yX3_allPlots, Cond.code yX3_allPlots cX3_allPlots 1 (some .int), Cond.methodLink RX0 82 yX0_reaches, Cond.static yX0_reaches, Cond.initialized RX0, Cond.code yX0_reaches cX0_reaches 6 (some .boolean), Cond.constantLong RX0 46 (8), Cond.constantLong RX0 48 (-7046029254386353131)]
def wsX0_reachesBy_r4 : List Cond := [Cond.fieldLink RX0 16 "NightPlots$Search" "deadEnds" "[J", Cond.fieldLink RX0 54 "NightPlots$Told" "houses" "I", Cond.methodLink RX0 40 yX1_placesKey, Cond.instanceMethod yX1_placesKey, Cond.selects RX1 yX1_placesKey yX1_placesKey, Cond.code yX1_placesKey cX1_placesKey 4 (some .long), Cond.fieldLink RX1 73 "NightPlots$Told" "houses" "I", Cond.methodLink RX0 59 yX0_mayHelp, Cond.instanceMethod yX0_mayHelp, Cond.selects RX0 yX0_mayHelp yX0_mayHelp, Cond.code yX0_mayHelp cX0_mayHelp 3 (some .boolean), Cond.methodLink RX0 63 yX0_reachesBy, Cond.static yX0_reachesBy]
def wsX0_reachesBy : List Cond := .code yX0_reachesBy cX0_reachesBy 8 (some .boolean) :: ((wsX0_reachesBy_r1 ++ (wsX0_reachesBy_r2 ++ (wsX0_reachesBy_r3 ++ wsX0_reachesBy_r4))) ++ wsX00 ++ wsX10 ++ wsX30)
def wsJ7_fill_53178 : List Cond := .code yJ7_fill_53178 cJ7_fill_53178 4 none :: ([])
def wsX3_takenAtFirst : List Cond := .code yX3_takenAtFirst cX3_takenAtFirst 3 (some .int) :: ([.fieldLink RX3 59 "NightPlots$Told" "houses" "I", .fieldLink RX3 15 "NightPlots$Told" "kind" "[I", .fieldLink RX3 18 "NightPlots$Told" "place" "[I", .methodLink RX3 79 yX3_ground, .instanceMethod yX3_ground, .selects RX3 yX3_ground yX3_ground, .initialized RX3, .code yX3_ground cX3_ground 3 (some .int), .methodLink RX3 71 yX3_next, .instanceMethod yX3_next, .selects RX3 yX3_next yX3_next, .code yX3_next cX3_next 2 (some .int), .fieldLink RX3 37 "NightPlots$Told" "plots" "I"] ++ wsX30)
def wsX1_startAsTold_r1 : List Cond := [Cond.fieldLink RX1 21 "NightPlots$Standing" "told" "LNightPlots$Told;", Cond.fieldLink RX1 28 "NightPlots$Told" "place" "[I", Cond.fieldLink RX1 9 "NightPlots$Standing" "place" "[I", Cond.methodLink RX1 31 arraycopyName, Cond.native arraycopyName, Cond.static arraycopyName, Cond.initialized "java/lang/System", Cond.fieldLink RX1 15 "NightPlots$Standing" "rolled" "[I", Cond.fieldLink RX1 47 "NightPlots$Standing" "taken" "I", Cond.fieldLink RX1 51 "NightPlots$Standing" "nights" "I", Cond.fieldLink RX1 54 "NightPlots$Standing" "turn" "I", Cond.fieldLink RX1 57 "NightPlots$Told" "seed" "I", Cond.fieldLink RX1 60 "NightPlots$Standing" "x" "I", Cond.fieldLink RX1 63 "NightPlots$Standing" "mended" "I", Cond.methodLink RX1 37 yJ7_fill_53178, Cond.static yJ7_fill_53178, Cond.initialized RJ7, Cond.code yJ7_fill_53178 cJ7_fill_53178 4 none, Cond.methodLink RX1 43 yX3_takenAtFirst, Cond.instanceMethod yX3_takenAtFirst, Cond.selects RX3 yX3_takenAtFirst yX3_takenAtFirst, Cond.initialized RX3, Cond.code yX3_takenAtFirst cX3_takenAtFirst 3 (some .int), Cond.fieldLink RX3 59 "NightPlots$Told" "houses" "I"]
def wsX1_startAsTold_r2 : List Cond := [Cond.fieldLink RX3 15 "NightPlots$Told" "kind" "[I", Cond.fieldLink RX3 18 "NightPlots$Told" "place" "[I", Cond.methodLink RX3 79 yX3_ground, Cond.instanceMethod yX3_ground, Cond.selects RX3 yX3_ground yX3_ground, Cond.code yX3_ground cX3_ground 3 (some .int), Cond.methodLink RX3 71 yX3_next, Cond.instanceMethod yX3_next, Cond.selects RX3 yX3_next yX3_next, Cond.code yX3_next cX3_next 2 (some .int), Cond.fieldLink RX3 37 "NightPlots$Told" "plots" "I"]
def wsX1_startAsTold : List Cond := .code yX1_startAsTold cX1_startAsTold 1 none :: ((wsX1_startAsTold_r1 ++ wsX1_startAsTold_r2) ++ wsX10 ++ wsX30)
def wsX1_init_r1 : List Cond := [Cond.methodLink RX1 3 objectInit, Cond.instanceMethod objectInit, Cond.code objectInit ⟨#[0xb1]⟩ 1 none, Cond.arrayClass .int, Cond.fieldLink RX1 9 "NightPlots$Standing" "place" "[I", Cond.fieldLink RX1 15 "NightPlots$Standing" "rolled" "[I", Cond.fieldLink RX1 18 "NightPlots$Standing" "ways" "[I", Cond.fieldLink RX1 21 "NightPlots$Standing" "told" "LNightPlots$Told;", Cond.methodLink RX1 25 yX1_startAsTold, Cond.instanceMethod yX1_startAsTold, Cond.selects RX1 yX1_startAsTold yX1_startAsTold, Cond.initialized RX1, Cond.code yX1_startAsTold cX1_startAsTold 1 none, Cond.fieldLink RX1 28 "NightPlots$Told" "place" "[I", Cond.methodLink RX1 31 arraycopyName, Cond.native arraycopyName, Cond.static arraycopyName, Cond.initialized "java/lang/System", Cond.fieldLink RX1 47 "NightPlots$Standing" "taken" "I", Cond.fieldLink RX1 51 "NightPlots$Standing" "nights" "I", Cond.fieldLink RX1 54 "NightPlots$Standing" "turn" "I", Cond.fieldLink RX1 57 "NightPlots$Told" "seed" "I", Cond.fieldLink RX1 60 "NightPlots$Standing" "x" "I", Cond.fieldLink RX1 63 "NightPlots$Standing" "mended" "I"]
def wsX1_init_r2 : List Cond := [Cond.methodLink RX1 37 yJ7_fill_53178, Cond.static yJ7_fill_53178, Cond.initialized RJ7, Cond.code yJ7_fill_53178 cJ7_fill_53178 4 none, Cond.methodLink RX1 43 yX3_takenAtFirst, Cond.instanceMethod yX3_takenAtFirst, Cond.selects RX3 yX3_takenAtFirst yX3_takenAtFirst, Cond.initialized RX3, Cond.code yX3_takenAtFirst cX3_takenAtFirst 3 (some .int), Cond.fieldLink RX3 59 "NightPlots$Told" "houses" "I", Cond.fieldLink RX3 15 "NightPlots$Told" "kind" "[I", Cond.fieldLink RX3 18 "NightPlots$Told" "place" "[I", Cond.methodLink RX3 79 yX3_ground, Cond.instanceMethod yX3_ground, Cond.selects RX3 yX3_ground yX3_ground, Cond.code yX3_ground cX3_ground 3 (some .int), Cond.methodLink RX3 71 yX3_next, Cond.instanceMethod yX3_next, Cond.selects RX3 yX3_next yX3_next, Cond.code yX3_next cX3_next 2 (some .int), Cond.fieldLink RX3 37 "NightPlots$Told" "plots" "I"]
def wsX1_init : List Cond := .code yX1_init cX1_init 2 none :: ((wsX1_init_r1 ++ wsX1_init_r2) ++ wsX10 ++ wsX30)
def wsX1_copyFrom : List Cond := .code yX1_copyFrom cX1_copyFrom 2 none :: ([.fieldLink RX1 9 "NightPlots$Standing" "place" "[I", .methodLink RX1 31 arraycopyName, .native arraycopyName, .static arraycopyName, .initialized "java/lang/System", .fieldLink RX1 15 "NightPlots$Standing" "rolled" "[I", .fieldLink RX1 47 "NightPlots$Standing" "taken" "I", .fieldLink RX1 51 "NightPlots$Standing" "nights" "I", .fieldLink RX1 54 "NightPlots$Standing" "turn" "I", .fieldLink RX1 60 "NightPlots$Standing" "x" "I", .fieldLink RX1 63 "NightPlots$Standing" "mended" "I"] ++ wsX10)
def wsX1_houseOn : List Cond := .code yX1_houseOn cX1_houseOn 3 (some .int) :: ([.fieldLink RX1 21 "NightPlots$Standing" "told" "LNightPlots$Told;", .fieldLink RX1 73 "NightPlots$Told" "houses" "I", .methodLink RX1 76 yX1_groundOf, .instanceMethod yX1_groundOf, .selects RX1 yX1_groundOf yX1_groundOf, .initialized RX1, .code yX1_groundOf cX1_groundOf 2 (some .int), .fieldLink RX1 66 "NightPlots$Told" "kind" "[I", .fieldLink RX1 9 "NightPlots$Standing" "place" "[I", .methodLink RX1 69 yX3_ground, .instanceMethod yX3_ground, .selects RX3 yX3_ground yX3_ground, .initialized RX3, .code yX3_ground cX3_ground 3 (some .int), .methodLink RX3 71 yX3_next, .instanceMethod yX3_next, .selects RX3 yX3_next yX3_next, .code yX3_next cX3_next 2 (some .int), .fieldLink RX3 37 "NightPlots$Told" "plots" "I"] ++ wsX10 ++ wsX30)
def wsX1_cropUnder : List Cond := .code yX1_cropUnder cX1_cropUnder 3 (some .int) :: ([.fieldLink RX1 21 "NightPlots$Standing" "told" "LNightPlots$Told;", .fieldLink RX1 80 "NightPlots$Told" "crop" "[I", .fieldLink RX1 9 "NightPlots$Standing" "place" "[I", .fieldLink RX1 66 "NightPlots$Told" "kind" "[I", .methodLink RX1 83 yX3_next, .instanceMethod yX3_next, .selects RX3 yX3_next yX3_next, .initialized RX3, .code yX3_next cX3_next 2 (some .int), .fieldLink RX3 37 "NightPlots$Told" "plots" "I"] ++ wsX10 ++ wsX30)
def wsX1_hasWayTo_r1 : List Cond := [Cond.fieldLink RX1 18 "NightPlots$Standing" "ways" "[I", Cond.methodLink RX1 103 yX1_findWays, Cond.instanceMethod yX1_findWays, Cond.selects RX1 yX1_findWays yX1_findWays, Cond.initialized RX1, Cond.code yX1_findWays cX1_findWays 7 (some .int), Cond.fieldLink RX1 21 "NightPlots$Standing" "told" "LNightPlots$Told;", Cond.fieldLink RX1 66 "NightPlots$Told" "kind" "[I", Cond.fieldLink RX1 63 "NightPlots$Standing" "mended" "I", Cond.fieldLink RX1 9 "NightPlots$Standing" "place" "[I", Cond.methodLink RX1 83 yX3_next, Cond.instanceMethod yX3_next, Cond.selects RX3 yX3_next yX3_next, Cond.initialized RX3, Cond.code yX3_next cX3_next 2 (some .int), Cond.fieldLink RX3 37 "NightPlots$Told" "plots" "I", Cond.methodLink RX1 86 yX3_previous, Cond.instanceMethod yX3_previous, Cond.selects RX3 yX3_previous yX3_previous, Cond.code yX3_previous cX3_previous 2 (some .int), Cond.methodLink RX1 89 yX1_isEmpty, Cond.instanceMethod yX1_isEmpty, Cond.selects RX1 yX1_isEmpty yX1_isEmpty, Cond.code yX1_isEmpty cX1_isEmpty 2 (some .boolean)]
def wsX1_hasWayTo_r2 : List Cond := [Cond.fieldLink RX1 47 "NightPlots$Standing" "taken" "I", Cond.methodLink RX1 93 yX1_findPathWays, Cond.instanceMethod yX1_findPathWays, Cond.selects RX1 yX1_findPathWays yX1_findPathWays, Cond.code yX1_findPathWays cX1_findPathWays 7 (some .int), Cond.fieldLink RX1 97 "NightPlots$Told" "paths" "I", Cond.methodLink RX1 100 yX3_otherEnd, Cond.instanceMethod yX3_otherEnd, Cond.selects RX3 yX3_otherEnd yX3_otherEnd, Cond.code yX3_otherEnd cX3_otherEnd 3 (some .int), Cond.fieldLink RX3 21 "NightPlots$Told" "pathFrom" "[I", Cond.fieldLink RX3 24 "NightPlots$Told" "pathTo" "[I"]
def wsX1_hasWayTo : List Cond := .code yX1_hasWayTo cX1_hasWayTo 5 (some .boolean) :: ((wsX1_hasWayTo_r1 ++ wsX1_hasWayTo_r2) ++ wsX10 ++ wsX30)
def wsX1_passNightOf_r1 : List Cond := [Cond.fieldLink RX1 51 "NightPlots$Standing" "nights" "I", Cond.fieldLink RX1 15 "NightPlots$Standing" "rolled" "[I", Cond.fieldLink RX1 21 "NightPlots$Standing" "told" "LNightPlots$Told;", Cond.fieldLink RX1 73 "NightPlots$Told" "houses" "I", Cond.fieldLink RX1 54 "NightPlots$Standing" "turn" "I", Cond.methodLink RX1 117 yX1_moveHouse, Cond.instanceMethod yX1_moveHouse, Cond.selects RX1 yX1_moveHouse yX1_moveHouse, Cond.initialized RX1, Cond.code yX1_moveHouse cX1_moveHouse 3 none, Cond.fieldLink RX1 47 "NightPlots$Standing" "taken" "I", Cond.fieldLink RX1 9 "NightPlots$Standing" "place" "[I", Cond.methodLink RX1 76 yX1_groundOf, Cond.instanceMethod yX1_groundOf, Cond.selects RX1 yX1_groundOf yX1_groundOf, Cond.code yX1_groundOf cX1_groundOf 2 (some .int), Cond.fieldLink RX1 66 "NightPlots$Told" "kind" "[I", Cond.methodLink RX1 69 yX3_ground, Cond.instanceMethod yX3_ground, Cond.selects RX3 yX3_ground yX3_ground, Cond.initialized RX3, Cond.code yX3_ground cX3_ground 3 (some .int), Cond.methodLink RX3 71 yX3_next, Cond.instanceMethod yX3_next]
def wsX1_passNightOf_r2 : List Cond := [Cond.selects RX3 yX3_next yX3_next, Cond.code yX3_next cX3_next 2 (some .int), Cond.fieldLink RX3 37 "NightPlots$Told" "plots" "I"]
def wsX1_passNightOf : List Cond := .code yX1_passNightOf cX1_passNightOf 4 none :: ((wsX1_passNightOf_r1 ++ wsX1_passNightOf_r2) ++ wsX10 ++ wsX30)
def wsX1_rollByNumber_r1 : List Cond := [Cond.fieldLink RX1 21 "NightPlots$Standing" "told" "LNightPlots$Told;", Cond.fieldLink RX1 73 "NightPlots$Told" "houses" "I", Cond.fieldLink RX1 18 "NightPlots$Standing" "ways" "[I", Cond.methodLink RX1 103 yX1_findWays, Cond.instanceMethod yX1_findWays, Cond.selects RX1 yX1_findWays yX1_findWays, Cond.initialized RX1, Cond.code yX1_findWays cX1_findWays 7 (some .int), Cond.fieldLink RX1 66 "NightPlots$Told" "kind" "[I", Cond.fieldLink RX1 63 "NightPlots$Standing" "mended" "I", Cond.fieldLink RX1 9 "NightPlots$Standing" "place" "[I", Cond.methodLink RX1 83 yX3_next, Cond.instanceMethod yX3_next, Cond.selects RX3 yX3_next yX3_next, Cond.initialized RX3, Cond.code yX3_next cX3_next 2 (some .int), Cond.fieldLink RX3 37 "NightPlots$Told" "plots" "I", Cond.methodLink RX1 86 yX3_previous, Cond.instanceMethod yX3_previous, Cond.selects RX3 yX3_previous yX3_previous, Cond.code yX3_previous cX3_previous 2 (some .int), Cond.methodLink RX1 89 yX1_isEmpty, Cond.instanceMethod yX1_isEmpty, Cond.selects RX1 yX1_isEmpty yX1_isEmpty]
def wsX1_rollByNumber_r2 : List Cond := [Cond.code yX1_isEmpty cX1_isEmpty 2 (some .boolean), Cond.fieldLink RX1 47 "NightPlots$Standing" "taken" "I", Cond.methodLink RX1 93 yX1_findPathWays, Cond.instanceMethod yX1_findPathWays, Cond.selects RX1 yX1_findPathWays yX1_findPathWays, Cond.code yX1_findPathWays cX1_findPathWays 7 (some .int), Cond.fieldLink RX1 97 "NightPlots$Told" "paths" "I", Cond.methodLink RX1 100 yX3_otherEnd, Cond.instanceMethod yX3_otherEnd, Cond.selects RX3 yX3_otherEnd yX3_otherEnd, Cond.code yX3_otherEnd cX3_otherEnd 3 (some .int), Cond.fieldLink RX3 21 "NightPlots$Told" "pathFrom" "[I", Cond.fieldLink RX3 24 "NightPlots$Told" "pathTo" "[I", Cond.methodLink RX1 113 yX1_passNightOf, Cond.instanceMethod yX1_passNightOf, Cond.selects RX1 yX1_passNightOf yX1_passNightOf, Cond.code yX1_passNightOf cX1_passNightOf 4 none, Cond.fieldLink RX1 51 "NightPlots$Standing" "nights" "I", Cond.fieldLink RX1 15 "NightPlots$Standing" "rolled" "[I", Cond.fieldLink RX1 54 "NightPlots$Standing" "turn" "I", Cond.methodLink RX1 117 yX1_moveHouse, Cond.instanceMethod yX1_moveHouse, Cond.selects RX1 yX1_moveHouse yX1_moveHouse, Cond.code yX1_moveHouse cX1_moveHouse 3 none]
def wsX1_rollByNumber_r3 : List Cond := [Cond.methodLink RX1 76 yX1_groundOf, Cond.instanceMethod yX1_groundOf, Cond.selects RX1 yX1_groundOf yX1_groundOf, Cond.code yX1_groundOf cX1_groundOf 2 (some .int), Cond.methodLink RX1 69 yX3_ground, Cond.instanceMethod yX3_ground, Cond.selects RX3 yX3_ground yX3_ground, Cond.code yX3_ground cX3_ground 3 (some .int), Cond.methodLink RX3 71 yX3_next]
def wsX1_rollByNumber : List Cond := .code yX1_rollByNumber cX1_rollByNumber 5 none :: ((wsX1_rollByNumber_r1 ++ (wsX1_rollByNumber_r2 ++ wsX1_rollByNumber_r3)) ++ wsX10 ++ wsX30)
def wsX1_passNightByLot_r1 : List Cond := [Cond.fieldLink RX1 21 "NightPlots$Standing" "told" "LNightPlots$Told;", Cond.fieldLink RX1 73 "NightPlots$Told" "houses" "I", Cond.fieldLink RX1 18 "NightPlots$Standing" "ways" "[I", Cond.fieldLink RX1 51 "NightPlots$Standing" "nights" "I", Cond.fieldLink RX1 60 "NightPlots$Standing" "x" "I", Cond.constant RX1 121 (65521), Cond.methodLink RX1 103 yX1_findWays, Cond.instanceMethod yX1_findWays, Cond.selects RX1 yX1_findWays yX1_findWays, Cond.initialized RX1, Cond.code yX1_findWays cX1_findWays 7 (some .int), Cond.fieldLink RX1 66 "NightPlots$Told" "kind" "[I", Cond.fieldLink RX1 63 "NightPlots$Standing" "mended" "I", Cond.fieldLink RX1 9 "NightPlots$Standing" "place" "[I", Cond.methodLink RX1 83 yX3_next, Cond.instanceMethod yX3_next, Cond.selects RX3 yX3_next yX3_next, Cond.initialized RX3, Cond.code yX3_next cX3_next 2 (some .int), Cond.fieldLink RX3 37 "NightPlots$Told" "plots" "I", Cond.methodLink RX1 86 yX3_previous, Cond.instanceMethod yX3_previous, Cond.selects RX3 yX3_previous yX3_previous, Cond.code yX3_previous cX3_previous 2 (some .int)]
def wsX1_passNightByLot_r2 : List Cond := [Cond.methodLink RX1 89 yX1_isEmpty, Cond.instanceMethod yX1_isEmpty, Cond.selects RX1 yX1_isEmpty yX1_isEmpty, Cond.code yX1_isEmpty cX1_isEmpty 2 (some .boolean), Cond.fieldLink RX1 47 "NightPlots$Standing" "taken" "I", Cond.methodLink RX1 93 yX1_findPathWays, Cond.instanceMethod yX1_findPathWays, Cond.selects RX1 yX1_findPathWays yX1_findPathWays, Cond.code yX1_findPathWays cX1_findPathWays 7 (some .int), Cond.fieldLink RX1 97 "NightPlots$Told" "paths" "I", Cond.methodLink RX1 100 yX3_otherEnd, Cond.instanceMethod yX3_otherEnd, Cond.selects RX3 yX3_otherEnd yX3_otherEnd, Cond.code yX3_otherEnd cX3_otherEnd 3 (some .int), Cond.fieldLink RX3 21 "NightPlots$Told" "pathFrom" "[I", Cond.fieldLink RX3 24 "NightPlots$Told" "pathTo" "[I", Cond.methodLink RX1 122 yX1_rollByNumber, Cond.instanceMethod yX1_rollByNumber, Cond.selects RX1 yX1_rollByNumber yX1_rollByNumber, Cond.code yX1_rollByNumber cX1_rollByNumber 5 none, Cond.methodLink RX1 113 yX1_passNightOf, Cond.instanceMethod yX1_passNightOf, Cond.selects RX1 yX1_passNightOf yX1_passNightOf, Cond.code yX1_passNightOf cX1_passNightOf 4 none]
def wsX1_passNightByLot_r3 : List Cond := [Cond.fieldLink RX1 15 "NightPlots$Standing" "rolled" "[I", Cond.fieldLink RX1 54 "NightPlots$Standing" "turn" "I", Cond.methodLink RX1 117 yX1_moveHouse, Cond.instanceMethod yX1_moveHouse, Cond.selects RX1 yX1_moveHouse yX1_moveHouse, Cond.code yX1_moveHouse cX1_moveHouse 3 none, Cond.methodLink RX1 76 yX1_groundOf, Cond.instanceMethod yX1_groundOf, Cond.selects RX1 yX1_groundOf yX1_groundOf, Cond.code yX1_groundOf cX1_groundOf 2 (some .int), Cond.methodLink RX1 69 yX3_ground, Cond.instanceMethod yX3_ground, Cond.selects RX3 yX3_ground yX3_ground, Cond.code yX3_ground cX3_ground 3 (some .int), Cond.methodLink RX3 71 yX3_next]
def wsX1_passNightByLot : List Cond := .code yX1_passNightByLot cX1_passNightByLot 3 none :: ((wsX1_passNightByLot_r1 ++ (wsX1_passNightByLot_r2 ++ wsX1_passNightByLot_r3)) ++ wsX10 ++ wsX30)
def wsX1_longestRested_r1 : List Cond := [Cond.fieldLink RX1 21 "NightPlots$Standing" "told" "LNightPlots$Told;", Cond.fieldLink RX1 73 "NightPlots$Told" "houses" "I", Cond.fieldLink RX1 15 "NightPlots$Standing" "rolled" "[I", Cond.fieldLink RX1 18 "NightPlots$Standing" "ways" "[I", Cond.methodLink RX1 103 yX1_findWays, Cond.instanceMethod yX1_findWays, Cond.selects RX1 yX1_findWays yX1_findWays, Cond.initialized RX1, Cond.code yX1_findWays cX1_findWays 7 (some .int), Cond.fieldLink RX1 66 "NightPlots$Told" "kind" "[I", Cond.fieldLink RX1 63 "NightPlots$Standing" "mended" "I", Cond.fieldLink RX1 9 "NightPlots$Standing" "place" "[I", Cond.methodLink RX1 83 yX3_next, Cond.instanceMethod yX3_next, Cond.selects RX3 yX3_next yX3_next, Cond.initialized RX3, Cond.code yX3_next cX3_next 2 (some .int), Cond.fieldLink RX3 37 "NightPlots$Told" "plots" "I", Cond.methodLink RX1 86 yX3_previous, Cond.instanceMethod yX3_previous, Cond.selects RX3 yX3_previous yX3_previous, Cond.code yX3_previous cX3_previous 2 (some .int), Cond.methodLink RX1 89 yX1_isEmpty, Cond.instanceMethod yX1_isEmpty]
def wsX1_longestRested_r2 : List Cond := [Cond.selects RX1 yX1_isEmpty yX1_isEmpty, Cond.code yX1_isEmpty cX1_isEmpty 2 (some .boolean), Cond.fieldLink RX1 47 "NightPlots$Standing" "taken" "I", Cond.methodLink RX1 93 yX1_findPathWays, Cond.instanceMethod yX1_findPathWays, Cond.selects RX1 yX1_findPathWays yX1_findPathWays, Cond.code yX1_findPathWays cX1_findPathWays 7 (some .int), Cond.fieldLink RX1 97 "NightPlots$Told" "paths" "I", Cond.methodLink RX1 100 yX3_otherEnd, Cond.instanceMethod yX3_otherEnd, Cond.selects RX3 yX3_otherEnd yX3_otherEnd, Cond.code yX3_otherEnd cX3_otherEnd 3 (some .int), Cond.fieldLink RX3 21 "NightPlots$Told" "pathFrom" "[I", Cond.fieldLink RX3 24 "NightPlots$Told" "pathTo" "[I"]
def wsX1_longestRested : List Cond := .code yX1_longestRested cX1_longestRested 4 (some .int) :: ((wsX1_longestRested_r1 ++ wsX1_longestRested_r2) ++ wsX10 ++ wsX30)
def wsX1_firstThatCan_r1 : List Cond := [Cond.fieldLink RX1 21 "NightPlots$Standing" "told" "LNightPlots$Told;", Cond.fieldLink RX1 73 "NightPlots$Told" "houses" "I", Cond.fieldLink RX1 18 "NightPlots$Standing" "ways" "[I", Cond.methodLink RX1 103 yX1_findWays, Cond.instanceMethod yX1_findWays, Cond.selects RX1 yX1_findWays yX1_findWays, Cond.initialized RX1, Cond.code yX1_findWays cX1_findWays 7 (some .int), Cond.fieldLink RX1 66 "NightPlots$Told" "kind" "[I", Cond.fieldLink RX1 63 "NightPlots$Standing" "mended" "I", Cond.fieldLink RX1 9 "NightPlots$Standing" "place" "[I", Cond.methodLink RX1 83 yX3_next, Cond.instanceMethod yX3_next, Cond.selects RX3 yX3_next yX3_next, Cond.initialized RX3, Cond.code yX3_next cX3_next 2 (some .int), Cond.fieldLink RX3 37 "NightPlots$Told" "plots" "I", Cond.methodLink RX1 86 yX3_previous, Cond.instanceMethod yX3_previous, Cond.selects RX3 yX3_previous yX3_previous, Cond.code yX3_previous cX3_previous 2 (some .int), Cond.methodLink RX1 89 yX1_isEmpty, Cond.instanceMethod yX1_isEmpty, Cond.selects RX1 yX1_isEmpty yX1_isEmpty]
def wsX1_firstThatCan_r2 : List Cond := [Cond.code yX1_isEmpty cX1_isEmpty 2 (some .boolean), Cond.fieldLink RX1 47 "NightPlots$Standing" "taken" "I", Cond.methodLink RX1 93 yX1_findPathWays, Cond.instanceMethod yX1_findPathWays, Cond.selects RX1 yX1_findPathWays yX1_findPathWays, Cond.code yX1_findPathWays cX1_findPathWays 7 (some .int), Cond.fieldLink RX1 97 "NightPlots$Told" "paths" "I", Cond.methodLink RX1 100 yX3_otherEnd, Cond.instanceMethod yX3_otherEnd, Cond.selects RX3 yX3_otherEnd yX3_otherEnd, Cond.code yX3_otherEnd cX3_otherEnd 3 (some .int), Cond.fieldLink RX3 21 "NightPlots$Told" "pathFrom" "[I", Cond.fieldLink RX3 24 "NightPlots$Told" "pathTo" "[I"]
def wsX1_firstThatCan : List Cond := .code yX1_firstThatCan cX1_firstThatCan 4 (some .int) :: ((wsX1_firstThatCan_r1 ++ wsX1_firstThatCan_r2) ++ wsX10 ++ wsX30)
def wsX1_chooseRoller_r1 : List Cond := [Cond.fieldLink RX1 54 "NightPlots$Standing" "turn" "I", Cond.methodLink RX1 126 yX1_longestRested, Cond.instanceMethod yX1_longestRested, Cond.selects RX1 yX1_longestRested yX1_longestRested, Cond.initialized RX1, Cond.code yX1_longestRested cX1_longestRested 4 (some .int), Cond.fieldLink RX1 21 "NightPlots$Standing" "told" "LNightPlots$Told;", Cond.fieldLink RX1 73 "NightPlots$Told" "houses" "I", Cond.fieldLink RX1 15 "NightPlots$Standing" "rolled" "[I", Cond.fieldLink RX1 18 "NightPlots$Standing" "ways" "[I", Cond.methodLink RX1 103 yX1_findWays, Cond.instanceMethod yX1_findWays, Cond.selects RX1 yX1_findWays yX1_findWays, Cond.code yX1_findWays cX1_findWays 7 (some .int), Cond.fieldLink RX1 66 "NightPlots$Told" "kind" "[I", Cond.fieldLink RX1 63 "NightPlots$Standing" "mended" "I", Cond.fieldLink RX1 9 "NightPlots$Standing" "place" "[I", Cond.methodLink RX1 83 yX3_next, Cond.instanceMethod yX3_next, Cond.selects RX3 yX3_next yX3_next, Cond.initialized RX3, Cond.code yX3_next cX3_next 2 (some .int), Cond.fieldLink RX3 37 "NightPlots$Told" "plots" "I", Cond.methodLink RX1 86 yX3_previous]
def wsX1_chooseRoller_r2 : List Cond := [Cond.instanceMethod yX3_previous, Cond.selects RX3 yX3_previous yX3_previous, Cond.code yX3_previous cX3_previous 2 (some .int), Cond.methodLink RX1 89 yX1_isEmpty, Cond.instanceMethod yX1_isEmpty, Cond.selects RX1 yX1_isEmpty yX1_isEmpty, Cond.code yX1_isEmpty cX1_isEmpty 2 (some .boolean), Cond.fieldLink RX1 47 "NightPlots$Standing" "taken" "I", Cond.methodLink RX1 93 yX1_findPathWays, Cond.instanceMethod yX1_findPathWays, Cond.selects RX1 yX1_findPathWays yX1_findPathWays, Cond.code yX1_findPathWays cX1_findPathWays 7 (some .int), Cond.fieldLink RX1 97 "NightPlots$Told" "paths" "I", Cond.methodLink RX1 100 yX3_otherEnd, Cond.instanceMethod yX3_otherEnd, Cond.selects RX3 yX3_otherEnd yX3_otherEnd, Cond.code yX3_otherEnd cX3_otherEnd 3 (some .int), Cond.fieldLink RX3 21 "NightPlots$Told" "pathFrom" "[I", Cond.fieldLink RX3 24 "NightPlots$Told" "pathTo" "[I", Cond.methodLink RX1 129 yX1_firstThatCan, Cond.instanceMethod yX1_firstThatCan, Cond.selects RX1 yX1_firstThatCan yX1_firstThatCan, Cond.code yX1_firstThatCan cX1_firstThatCan 4 (some .int)]
def wsX1_chooseRoller : List Cond := .code yX1_chooseRoller cX1_chooseRoller 2 (some .int) :: ((wsX1_chooseRoller_r1 ++ wsX1_chooseRoller_r2) ++ wsX10 ++ wsX30)
def wsX1_passNight_r1 : List Cond := [Cond.fieldLink RX1 51 "NightPlots$Standing" "nights" "I", Cond.fieldLink RX1 18 "NightPlots$Standing" "ways" "[I", Cond.methodLink RX1 107 yX1_passNightByLot, Cond.instanceMethod yX1_passNightByLot, Cond.selects RX1 yX1_passNightByLot yX1_passNightByLot, Cond.initialized RX1, Cond.code yX1_passNightByLot cX1_passNightByLot 3 none, Cond.fieldLink RX1 21 "NightPlots$Standing" "told" "LNightPlots$Told;", Cond.fieldLink RX1 73 "NightPlots$Told" "houses" "I", Cond.fieldLink RX1 60 "NightPlots$Standing" "x" "I", Cond.constant RX1 121 (65521), Cond.methodLink RX1 103 yX1_findWays, Cond.instanceMethod yX1_findWays, Cond.selects RX1 yX1_findWays yX1_findWays, Cond.code yX1_findWays cX1_findWays 7 (some .int), Cond.fieldLink RX1 66 "NightPlots$Told" "kind" "[I", Cond.fieldLink RX1 63 "NightPlots$Standing" "mended" "I", Cond.fieldLink RX1 9 "NightPlots$Standing" "place" "[I", Cond.methodLink RX1 83 yX3_next, Cond.instanceMethod yX3_next, Cond.selects RX3 yX3_next yX3_next, Cond.initialized RX3, Cond.code yX3_next cX3_next 2 (some .int), Cond.fieldLink RX3 37 "NightPlots$Told" "plots" "I"]
def wsX1_passNight_r2 : List Cond := [Cond.methodLink RX1 86 yX3_previous, Cond.instanceMethod yX3_previous, Cond.selects RX3 yX3_previous yX3_previous, Cond.code yX3_previous cX3_previous 2 (some .int), Cond.methodLink RX1 89 yX1_isEmpty, Cond.instanceMethod yX1_isEmpty, Cond.selects RX1 yX1_isEmpty yX1_isEmpty, Cond.code yX1_isEmpty cX1_isEmpty 2 (some .boolean), Cond.fieldLink RX1 47 "NightPlots$Standing" "taken" "I", Cond.methodLink RX1 93 yX1_findPathWays, Cond.instanceMethod yX1_findPathWays, Cond.selects RX1 yX1_findPathWays yX1_findPathWays, Cond.code yX1_findPathWays cX1_findPathWays 7 (some .int), Cond.fieldLink RX1 97 "NightPlots$Told" "paths" "I", Cond.methodLink RX1 100 yX3_otherEnd, Cond.instanceMethod yX3_otherEnd, Cond.selects RX3 yX3_otherEnd yX3_otherEnd, Cond.code yX3_otherEnd cX3_otherEnd 3 (some .int), Cond.fieldLink RX3 21 "NightPlots$Told" "pathFrom" "[I", Cond.fieldLink RX3 24 "NightPlots$Told" "pathTo" "[I", Cond.methodLink RX1 122 yX1_rollByNumber, Cond.instanceMethod yX1_rollByNumber, Cond.selects RX1 yX1_rollByNumber yX1_rollByNumber, Cond.code yX1_rollByNumber cX1_rollByNumber 5 none]
def wsX1_passNight_r3 : List Cond := [Cond.methodLink RX1 113 yX1_passNightOf, Cond.instanceMethod yX1_passNightOf, Cond.selects RX1 yX1_passNightOf yX1_passNightOf, Cond.code yX1_passNightOf cX1_passNightOf 4 none, Cond.fieldLink RX1 15 "NightPlots$Standing" "rolled" "[I", Cond.fieldLink RX1 54 "NightPlots$Standing" "turn" "I", Cond.methodLink RX1 117 yX1_moveHouse, Cond.instanceMethod yX1_moveHouse, Cond.selects RX1 yX1_moveHouse yX1_moveHouse, Cond.code yX1_moveHouse cX1_moveHouse 3 none, Cond.methodLink RX1 76 yX1_groundOf, Cond.instanceMethod yX1_groundOf, Cond.selects RX1 yX1_groundOf yX1_groundOf, Cond.code yX1_groundOf cX1_groundOf 2 (some .int), Cond.methodLink RX1 69 yX3_ground, Cond.instanceMethod yX3_ground, Cond.selects RX3 yX3_ground yX3_ground, Cond.code yX3_ground cX3_ground 3 (some .int), Cond.methodLink RX3 71 yX3_next, Cond.methodLink RX1 110 yX1_chooseRoller, Cond.instanceMethod yX1_chooseRoller, Cond.selects RX1 yX1_chooseRoller yX1_chooseRoller, Cond.code yX1_chooseRoller cX1_chooseRoller 2 (some .int), Cond.methodLink RX1 126 yX1_longestRested]
def wsX1_passNight_r4 : List Cond := [Cond.instanceMethod yX1_longestRested, Cond.selects RX1 yX1_longestRested yX1_longestRested, Cond.code yX1_longestRested cX1_longestRested 4 (some .int), Cond.methodLink RX1 129 yX1_firstThatCan, Cond.instanceMethod yX1_firstThatCan, Cond.selects RX1 yX1_firstThatCan yX1_firstThatCan, Cond.code yX1_firstThatCan cX1_firstThatCan 4 (some .int)]
def wsX1_passNight : List Cond := .code yX1_passNight cX1_passNight 3 none :: ((wsX1_passNight_r1 ++ (wsX1_passNight_r2 ++ (wsX1_passNight_r3 ++ wsX1_passNight_r4))) ++ wsX10 ++ wsX30)
def wsX1_areOpposite : List Cond := .code yX1_areOpposite cX1_areOpposite 3 (some .boolean) :: ([.fieldLink RX1 9 "NightPlots$Standing" "place" "[I", .methodLink RX1 142 Lib.Math.abs.name, .static Lib.Math.abs.name, .initialized "java/lang/Math", .code Lib.Math.abs.name Lib.Math.abs.code 1 (some .int), .fieldLink RX1 21 "NightPlots$Standing" "told" "LNightPlots$Told;", .fieldLink RX1 147 "NightPlots$Told" "plots" "I"] ++ wsX10 ++ wsX30)
def wsX1_meets_r1 : List Cond := [Cond.methodLink RX1 132 yX1_areBeside, Cond.instanceMethod yX1_areBeside, Cond.selects RX1 yX1_areBeside yX1_areBeside, Cond.initialized RX1, Cond.code yX1_areBeside cX1_areBeside 3 (some .boolean), Cond.fieldLink RX1 21 "NightPlots$Standing" "told" "LNightPlots$Told;", Cond.methodLink RX1 76 yX1_groundOf, Cond.instanceMethod yX1_groundOf, Cond.selects RX1 yX1_groundOf yX1_groundOf, Cond.code yX1_groundOf cX1_groundOf 2 (some .int), Cond.fieldLink RX1 66 "NightPlots$Told" "kind" "[I", Cond.fieldLink RX1 9 "NightPlots$Standing" "place" "[I", Cond.methodLink RX1 69 yX3_ground, Cond.instanceMethod yX3_ground, Cond.selects RX3 yX3_ground yX3_ground, Cond.initialized RX3, Cond.code yX3_ground cX3_ground 3 (some .int), Cond.methodLink RX3 71 yX3_next, Cond.instanceMethod yX3_next, Cond.selects RX3 yX3_next yX3_next, Cond.code yX3_next cX3_next 2 (some .int), Cond.fieldLink RX3 37 "NightPlots$Told" "plots" "I", Cond.methodLink RX1 139 yX3_around, Cond.instanceMethod yX3_around]
def wsX1_meets_r2 : List Cond := [Cond.selects RX3 yX3_around yX3_around, Cond.code yX3_around cX3_around 4 (some .int), Cond.methodLink RX3 75 yX3_allPlots, Cond.instanceMethod yX3_allPlots, Cond.selects RX3 yX3_allPlots yX3_allPlots, Cond.code yX3_allPlots cX3_allPlots 1 (some .int), Cond.methodLink RX1 136 yX1_areOpposite, Cond.instanceMethod yX1_areOpposite, Cond.selects RX1 yX1_areOpposite yX1_areOpposite, Cond.code yX1_areOpposite cX1_areOpposite 3 (some .boolean), Cond.methodLink RX1 142 Lib.Math.abs.name, Cond.static Lib.Math.abs.name, Cond.initialized "java/lang/Math", Cond.code Lib.Math.abs.name Lib.Math.abs.code 1 (some .int), Cond.fieldLink RX1 147 "NightPlots$Told" "plots" "I"]
def wsX1_meets : List Cond := .code yX1_meets cX1_meets 4 (some .boolean) :: ((wsX1_meets_r1 ++ wsX1_meets_r2) ++ wsX10 ++ wsX30)
def wsX1_hasFeudBeside_r1 : List Cond := [Cond.fieldLink RX1 21 "NightPlots$Standing" "told" "LNightPlots$Told;", Cond.fieldLink RX1 150 "NightPlots$Told" "feuds" "I", Cond.fieldLink RX1 153 "NightPlots$Told" "feudOne" "[I", Cond.fieldLink RX1 156 "NightPlots$Told" "feudOther" "[I", Cond.methodLink RX1 132 yX1_areBeside, Cond.instanceMethod yX1_areBeside, Cond.selects RX1 yX1_areBeside yX1_areBeside, Cond.initialized RX1, Cond.code yX1_areBeside cX1_areBeside 3 (some .boolean), Cond.methodLink RX1 76 yX1_groundOf, Cond.instanceMethod yX1_groundOf, Cond.selects RX1 yX1_groundOf yX1_groundOf, Cond.code yX1_groundOf cX1_groundOf 2 (some .int), Cond.fieldLink RX1 66 "NightPlots$Told" "kind" "[I", Cond.fieldLink RX1 9 "NightPlots$Standing" "place" "[I", Cond.methodLink RX1 69 yX3_ground, Cond.instanceMethod yX3_ground, Cond.selects RX3 yX3_ground yX3_ground, Cond.initialized RX3, Cond.code yX3_ground cX3_ground 3 (some .int), Cond.methodLink RX3 71 yX3_next, Cond.instanceMethod yX3_next, Cond.selects RX3 yX3_next yX3_next, Cond.code yX3_next cX3_next 2 (some .int)]
def wsX1_hasFeudBeside_r2 : List Cond := [Cond.fieldLink RX3 37 "NightPlots$Told" "plots" "I", Cond.methodLink RX1 139 yX3_around, Cond.instanceMethod yX3_around, Cond.selects RX3 yX3_around yX3_around, Cond.code yX3_around cX3_around 4 (some .int), Cond.methodLink RX3 75 yX3_allPlots, Cond.instanceMethod yX3_allPlots, Cond.selects RX3 yX3_allPlots yX3_allPlots, Cond.code yX3_allPlots cX3_allPlots 1 (some .int)]
def wsX1_hasFeudBeside : List Cond := .code yX1_hasFeudBeside cX1_hasFeudBeside 2 (some .boolean) :: ((wsX1_hasFeudBeside_r1 ++ wsX1_hasFeudBeside_r2) ++ wsX10 ++ wsX30)
def wsX1_restRank : List Cond := .code yX1_restRank cX1_restRank 4 (some .int) :: ([.fieldLink RX1 21 "NightPlots$Standing" "told" "LNightPlots$Told;", .fieldLink RX1 73 "NightPlots$Told" "houses" "I", .fieldLink RX1 15 "NightPlots$Standing" "rolled" "[I"] ++ wsX10 ++ wsX30)
def wsX1_restKey : List Cond := .code yX1_restKey cX1_restKey 6 (some .long) :: ([.fieldLink RX1 21 "NightPlots$Standing" "told" "LNightPlots$Told;", .fieldLink RX1 73 "NightPlots$Told" "houses" "I", .methodLink RX1 167 yX1_restRank, .instanceMethod yX1_restRank, .selects RX1 yX1_restRank yX1_restRank, .initialized RX1, .code yX1_restRank cX1_restRank 4 (some .int), .fieldLink RX1 15 "NightPlots$Standing" "rolled" "[I"] ++ wsX10 ++ wsX30)
def wsX1_stateKey : List Cond := .code yX1_stateKey cX1_stateKey 4 (some .long) :: ([.fieldLink RX1 54 "NightPlots$Standing" "turn" "I", .fieldLink RX1 60 "NightPlots$Standing" "x" "I", .methodLink RX1 159 yX1_placesKey, .instanceMethod yX1_placesKey, .selects RX1 yX1_placesKey yX1_placesKey, .initialized RX1, .code yX1_placesKey cX1_placesKey 4 (some .long), .fieldLink RX1 21 "NightPlots$Standing" "told" "LNightPlots$Told;", .fieldLink RX1 73 "NightPlots$Told" "houses" "I", .fieldLink RX1 9 "NightPlots$Standing" "place" "[I", .methodLink RX1 163 yX1_restKey, .instanceMethod yX1_restKey, .selects RX1 yX1_restKey yX1_restKey, .code yX1_restKey cX1_restKey 6 (some .long), .methodLink RX1 167 yX1_restRank, .instanceMethod yX1_restRank, .selects RX1 yX1_restRank yX1_restRank, .code yX1_restRank cX1_restRank 4 (some .int), .fieldLink RX1 15 "NightPlots$Standing" "rolled" "[I"] ++ wsX10 ++ wsX30)
def wsX2_init : List Cond := .code yX2_init cX2_init 1 none :: ([.methodLink RX2 3 objectInit, .instanceMethod objectInit, .code objectInit ⟨#[0xb1]⟩ 1 none, .arrayClass .int, .fieldLink RX2 9 "NightPlots$Text" "bytes" "[I"] ++ wsX20)
def wsX2_append : List Cond := .code yX2_append cX2_append 5 (some .boolean) :: ([.fieldLink RX2 15 "NightPlots$Text" "length" "I", .fieldLink RX2 9 "NightPlots$Text" "bytes" "[I", .constantLong RX2 19 (255)] ++ wsX20)
def wsX2_isLetter : List Cond := .code yX2_isLetter cX2_isLetter 1 (some .boolean) :: ([])
def wsX2_isDigit : List Cond := .code yX2_isDigit cX2_isDigit 1 (some .boolean) :: ([])
def wsX2_goesOn : List Cond := .code yX2_goesOn cX2_goesOn 3 (some .boolean) :: ([.fieldLink RX2 34 "NightPlots$Text" "tokenBegin" "I", .fieldLink RX2 9 "NightPlots$Text" "bytes" "[I", .methodLink RX2 143 yX2_isLetter, .static yX2_isLetter, .initialized RX2, .code yX2_isLetter cX2_isLetter 1 (some .boolean), .methodLink RX2 146 yX2_isDigit, .static yX2_isDigit, .code yX2_isDigit cX2_isDigit 1 (some .boolean)] ++ wsX20)
def wsX2_stepToToken : List Cond := .code yX2_stepToToken cX2_stepToToken 2 none :: ([.fieldLink RX2 21 "NightPlots$Text" "tokenEnd" "I", .fieldLink RX2 15 "NightPlots$Text" "length" "I", .fieldLink RX2 9 "NightPlots$Text" "bytes" "[I", .fieldLink RX2 34 "NightPlots$Text" "tokenBegin" "I", .methodLink RX2 139 yX2_goesOn, .instanceMethod yX2_goesOn, .selects RX2 yX2_goesOn yX2_goesOn, .initialized RX2, .code yX2_goesOn cX2_goesOn 3 (some .boolean), .methodLink RX2 143 yX2_isLetter, .static yX2_isLetter, .code yX2_isLetter cX2_isLetter 1 (some .boolean), .methodLink RX2 146 yX2_isDigit, .static yX2_isDigit, .code yX2_isDigit cX2_isDigit 1 (some .boolean)] ++ wsX20)
def wsJ0_coder_7d493 : List Cond := .code yJ0_coder_7d493 cJ0_coder_7d493 1 (some .byte) :: ([.fieldLink RJ0 38 "java/lang/String" "COMPACT_STRINGS" "Z", .fieldLink RJ0 15 "java/lang/String" "coder" "B"])
def wsJ0_length_8abf5 : List Cond := .code yJ0_length_8abf5 cJ0_length_8abf5 1 (some .int) :: ([.fieldLink RJ0 9 "java/lang/String" "value" "[B", .methodLink RJ0 335 yJ0_coder_7d493, .instanceMethod yJ0_coder_7d493, .selects RJ0 yJ0_coder_7d493 yJ0_coder_7d493, .initialized RJ0, .code yJ0_coder_7d493 cJ0_coder_7d493 1 (some .byte), .fieldLink RJ0 38 "java/lang/String" "COMPACT_STRINGS" "Z", .fieldLink RJ0 15 "java/lang/String" "coder" "B"])
def wsJ0_isLatin1_aae02 : List Cond := .code yJ0_isLatin1_aae02 cJ0_isLatin1_aae02 1 (some .boolean) :: ([.fieldLink RJ0 38 "java/lang/String" "COMPACT_STRINGS" "Z", .fieldLink RJ0 15 "java/lang/String" "coder" "B"])
def wsJ3_checkIndex_8e157 : List Cond := .code yJ3_checkIndex_8e157 cJ3_checkIndex_8e157 3 (some .int) :: ([])
def wsJ0_checkIndex_df160 : List Cond := .code yJ0_checkIndex_df160 cJ0_checkIndex_df160 2 none :: ([.fieldLink RJ0 1053 "jdk/internal/util/Preconditions" "SIOOBE_FORMATTER" "Ljava/util/function/BiFunction;", .methodLink RJ0 1059 yJ3_checkIndex_8e157, .static yJ3_checkIndex_8e157, .initialized RJ3, .code yJ3_checkIndex_8e157 cJ3_checkIndex_8e157 3 (some .int)])
def wsJ1_charAt_3b067 : List Cond := .code yJ1_charAt_3b067 cJ1_charAt_3b067 2 (some .char) :: ([.methodLink RJ1 9 yJ0_checkIndex_df160, .static yJ0_checkIndex_df160, .initialized RJ0, .code yJ0_checkIndex_df160 cJ0_checkIndex_df160 2 none, .fieldLink RJ0 1053 "jdk/internal/util/Preconditions" "SIOOBE_FORMATTER" "Ljava/util/function/BiFunction;", .methodLink RJ0 1059 yJ3_checkIndex_8e157, .static yJ3_checkIndex_8e157, .initialized RJ3, .code yJ3_checkIndex_8e157 cJ3_checkIndex_8e157 3 (some .int)])
def wsJ2_length_9d52b : List Cond := .code yJ2_length_9d52b cJ2_length_9d52b 1 (some .int) :: ([])
def wsJ2_checkIndex_2214a : List Cond := .code yJ2_checkIndex_2214a cJ2_checkIndex_2214a 2 none :: ([.methodLink RJ2 48 yJ2_length_9d52b, .static yJ2_length_9d52b, .initialized RJ2, .code yJ2_length_9d52b cJ2_length_9d52b 1 (some .int), .methodLink RJ2 414 yJ0_checkIndex_df160, .static yJ0_checkIndex_df160, .initialized RJ0, .code yJ0_checkIndex_df160 cJ0_checkIndex_df160 2 none, .fieldLink RJ0 1053 "jdk/internal/util/Preconditions" "SIOOBE_FORMATTER" "Ljava/util/function/BiFunction;", .methodLink RJ0 1059 yJ3_checkIndex_8e157, .static yJ3_checkIndex_8e157, .initialized RJ3, .code yJ3_checkIndex_8e157 cJ3_checkIndex_8e157 3 (some .int)])
def wsJ2_getChar_3b067 : List Cond := .code yJ2_getChar_3b067 cJ2_getChar_3b067 2 (some .char) :: ([.fieldLink RJ2 44 "java/lang/StringUTF16" "$assertionsDisabled" "Z", .fieldLink RJ2 59 "java/lang/StringUTF16" "HI_BYTE_SHIFT" "I", .fieldLink RJ2 63 "java/lang/StringUTF16" "LO_BYTE_SHIFT" "I", .methodLink RJ2 48 yJ2_length_9d52b, .static yJ2_length_9d52b, .initialized RJ2, .code yJ2_length_9d52b cJ2_length_9d52b 1 (some .int)])
def wsJ2_charAt_3b067 : List Cond := .code yJ2_charAt_3b067 cJ2_charAt_3b067 2 (some .char) :: ([.methodLink RJ2 67 yJ2_checkIndex_2214a, .static yJ2_checkIndex_2214a, .initialized RJ2, .code yJ2_checkIndex_2214a cJ2_checkIndex_2214a 2 none, .methodLink RJ2 48 yJ2_length_9d52b, .static yJ2_length_9d52b, .code yJ2_length_9d52b cJ2_length_9d52b 1 (some .int), .methodLink RJ2 414 yJ0_checkIndex_df160, .static yJ0_checkIndex_df160, .initialized RJ0, .code yJ0_checkIndex_df160 cJ0_checkIndex_df160 2 none, .fieldLink RJ0 1053 "jdk/internal/util/Preconditions" "SIOOBE_FORMATTER" "Ljava/util/function/BiFunction;", .methodLink RJ0 1059 yJ3_checkIndex_8e157, .static yJ3_checkIndex_8e157, .initialized RJ3, .code yJ3_checkIndex_8e157 cJ3_checkIndex_8e157 3 (some .int), .methodLink RJ2 71 yJ2_getChar_3b067, .static yJ2_getChar_3b067, .code yJ2_getChar_3b067 cJ2_getChar_3b067 2 (some .char), .fieldLink RJ2 44 "java/lang/StringUTF16" "$assertionsDisabled" "Z", .fieldLink RJ2 59 "java/lang/StringUTF16" "HI_BYTE_SHIFT" "I", .fieldLink RJ2 63 "java/lang/StringUTF16" "LO_BYTE_SHIFT" "I"])
def wsJ0_charAt_5068e_r1 : List Cond := [Cond.fieldLink RJ0 9 "java/lang/String" "value" "[B", Cond.methodLink RJ0 492 yJ0_isLatin1_aae02, Cond.instanceMethod yJ0_isLatin1_aae02, Cond.selects RJ0 yJ0_isLatin1_aae02 yJ0_isLatin1_aae02, Cond.initialized RJ0, Cond.code yJ0_isLatin1_aae02 cJ0_isLatin1_aae02 1 (some .boolean), Cond.fieldLink RJ0 38 "java/lang/String" "COMPACT_STRINGS" "Z", Cond.fieldLink RJ0 15 "java/lang/String" "coder" "B", Cond.methodLink RJ0 495 yJ1_charAt_3b067, Cond.static yJ1_charAt_3b067, Cond.initialized RJ1, Cond.code yJ1_charAt_3b067 cJ1_charAt_3b067 2 (some .char), Cond.methodLink RJ1 9 yJ0_checkIndex_df160, Cond.static yJ0_checkIndex_df160, Cond.code yJ0_checkIndex_df160 cJ0_checkIndex_df160 2 none, Cond.fieldLink RJ0 1053 "jdk/internal/util/Preconditions" "SIOOBE_FORMATTER" "Ljava/util/function/BiFunction;", Cond.methodLink RJ0 1059 yJ3_checkIndex_8e157, Cond.static yJ3_checkIndex_8e157, Cond.initialized RJ3, Cond.code yJ3_checkIndex_8e157 cJ3_checkIndex_8e157 3 (some .int), Cond.methodLink RJ0 498 yJ2_charAt_3b067, Cond.static yJ2_charAt_3b067, Cond.initialized RJ2, Cond.code yJ2_charAt_3b067 cJ2_charAt_3b067 2 (some .char)]
def wsJ0_charAt_5068e_r2 : List Cond := [Cond.methodLink RJ2 67 yJ2_checkIndex_2214a, Cond.static yJ2_checkIndex_2214a, Cond.code yJ2_checkIndex_2214a cJ2_checkIndex_2214a 2 none, Cond.methodLink RJ2 48 yJ2_length_9d52b, Cond.static yJ2_length_9d52b, Cond.code yJ2_length_9d52b cJ2_length_9d52b 1 (some .int), Cond.methodLink RJ2 414 yJ0_checkIndex_df160, Cond.methodLink RJ2 71 yJ2_getChar_3b067, Cond.static yJ2_getChar_3b067, Cond.code yJ2_getChar_3b067 cJ2_getChar_3b067 2 (some .char), Cond.fieldLink RJ2 44 "java/lang/StringUTF16" "$assertionsDisabled" "Z", Cond.fieldLink RJ2 59 "java/lang/StringUTF16" "HI_BYTE_SHIFT" "I", Cond.fieldLink RJ2 63 "java/lang/StringUTF16" "LO_BYTE_SHIFT" "I"]
def wsJ0_charAt_5068e : List Cond := .code yJ0_charAt_5068e cJ0_charAt_5068e 2 (some .char) :: ((wsJ0_charAt_5068e_r1 ++ wsJ0_charAt_5068e_r2))
def wsX2_isWord_r1 : List Cond := [Cond.fieldLink RX2 21 "NightPlots$Text" "tokenEnd" "I", Cond.fieldLink RX2 34 "NightPlots$Text" "tokenBegin" "I", Cond.fieldLink RX2 9 "NightPlots$Text" "bytes" "[I", Cond.methodLink RX2 149 yJ0_length_8abf5, Cond.instanceMethod yJ0_length_8abf5, Cond.selects RJ0 yJ0_length_8abf5 yJ0_length_8abf5, Cond.initialized RJ0, Cond.code yJ0_length_8abf5 cJ0_length_8abf5 1 (some .int), Cond.fieldLink RJ0 9 "java/lang/String" "value" "[B", Cond.methodLink RJ0 335 yJ0_coder_7d493, Cond.instanceMethod yJ0_coder_7d493, Cond.selects RJ0 yJ0_coder_7d493 yJ0_coder_7d493, Cond.code yJ0_coder_7d493 cJ0_coder_7d493 1 (some .byte), Cond.fieldLink RJ0 38 "java/lang/String" "COMPACT_STRINGS" "Z", Cond.fieldLink RJ0 15 "java/lang/String" "coder" "B", Cond.methodLink RX2 153 yJ0_charAt_5068e, Cond.instanceMethod yJ0_charAt_5068e, Cond.selects RJ0 yJ0_charAt_5068e yJ0_charAt_5068e, Cond.code yJ0_charAt_5068e cJ0_charAt_5068e 2 (some .char), Cond.methodLink RJ0 492 yJ0_isLatin1_aae02, Cond.instanceMethod yJ0_isLatin1_aae02, Cond.selects RJ0 yJ0_isLatin1_aae02 yJ0_isLatin1_aae02, Cond.code yJ0_isLatin1_aae02 cJ0_isLatin1_aae02 1 (some .boolean), Cond.methodLink RJ0 495 yJ1_charAt_3b067]
def wsX2_isWord_r2 : List Cond := [Cond.static yJ1_charAt_3b067, Cond.initialized RJ1, Cond.code yJ1_charAt_3b067 cJ1_charAt_3b067 2 (some .char), Cond.methodLink RJ1 9 yJ0_checkIndex_df160, Cond.static yJ0_checkIndex_df160, Cond.code yJ0_checkIndex_df160 cJ0_checkIndex_df160 2 none, Cond.fieldLink RJ0 1053 "jdk/internal/util/Preconditions" "SIOOBE_FORMATTER" "Ljava/util/function/BiFunction;", Cond.methodLink RJ0 1059 yJ3_checkIndex_8e157, Cond.static yJ3_checkIndex_8e157, Cond.initialized RJ3, Cond.code yJ3_checkIndex_8e157 cJ3_checkIndex_8e157 3 (some .int), Cond.methodLink RJ0 498 yJ2_charAt_3b067, Cond.static yJ2_charAt_3b067, Cond.initialized RJ2, Cond.code yJ2_charAt_3b067 cJ2_charAt_3b067 2 (some .char), Cond.methodLink RJ2 67 yJ2_checkIndex_2214a, Cond.static yJ2_checkIndex_2214a, Cond.code yJ2_checkIndex_2214a cJ2_checkIndex_2214a 2 none, Cond.methodLink RJ2 48 yJ2_length_9d52b, Cond.static yJ2_length_9d52b, Cond.code yJ2_length_9d52b cJ2_length_9d52b 1 (some .int), Cond.methodLink RJ2 414 yJ0_checkIndex_df160, Cond.methodLink RJ2 71 yJ2_getChar_3b067, Cond.static yJ2_getChar_3b067]
def wsX2_isWord_r3 : List Cond := [Cond.code yJ2_getChar_3b067 cJ2_getChar_3b067 2 (some .char), Cond.fieldLink RJ2 44 "java/lang/StringUTF16" "$assertionsDisabled" "Z", Cond.fieldLink RJ2 59 "java/lang/StringUTF16" "HI_BYTE_SHIFT" "I", Cond.fieldLink RJ2 63 "java/lang/StringUTF16" "LO_BYTE_SHIFT" "I"]
def wsX2_isWord : List Cond := .code yX2_isWord cX2_isWord 3 (some .boolean) :: ((wsX2_isWord_r1 ++ (wsX2_isWord_r2 ++ wsX2_isWord_r3)) ++ wsX20)
def wsX2_readNumber : List Cond := .code yX2_readNumber cX2_readNumber 7 (some .int) :: ([.fieldLink RX2 21 "NightPlots$Text" "tokenEnd" "I", .fieldLink RX2 34 "NightPlots$Text" "tokenBegin" "I", .fieldLink RX2 9 "NightPlots$Text" "bytes" "[I", .methodLink RX2 27 yX2_stepToToken, .instanceMethod yX2_stepToToken, .selects RX2 yX2_stepToToken yX2_stepToToken, .initialized RX2, .code yX2_stepToToken cX2_stepToToken 2 none, .fieldLink RX2 15 "NightPlots$Text" "length" "I", .methodLink RX2 139 yX2_goesOn, .instanceMethod yX2_goesOn, .selects RX2 yX2_goesOn yX2_goesOn, .code yX2_goesOn cX2_goesOn 3 (some .boolean), .methodLink RX2 143 yX2_isLetter, .static yX2_isLetter, .code yX2_isLetter cX2_isLetter 1 (some .boolean), .methodLink RX2 146 yX2_isDigit, .static yX2_isDigit, .code yX2_isDigit cX2_isDigit 1 (some .boolean)] ++ wsX20)
def wsX3_removeHouses : List Cond := .code yX3_removeHouses cX3_removeHouses 1 none :: ([.fieldLink RX3 59 "NightPlots$Told" "houses" "I", .fieldLink RX3 62 "NightPlots$Told" "feuds" "I"] ++ wsX30)
def wsX3_layOut : List Cond := .code yX3_layOut cX3_layOut 2 none :: ([.fieldLink RX3 37 "NightPlots$Told" "plots" "I", .fieldLink RX3 41 "NightPlots$Told" "paths" "I", .fieldLink RX3 44 "NightPlots$Told" "law" "I", .fieldLink RX3 47 "NightPlots$Told" "seed" "I", .fieldLink RX3 9 "NightPlots$Told" "crop" "[I", .methodLink RX3 50 yJ7_fill_53178, .static yJ7_fill_53178, .initialized RJ7, .code yJ7_fill_53178 cJ7_fill_53178 4 none, .methodLink RX3 56 yX3_removeHouses, .instanceMethod yX3_removeHouses, .selects RX3 yX3_removeHouses yX3_removeHouses, .initialized RX3, .code yX3_removeHouses cX3_removeHouses 1 none, .fieldLink RX3 59 "NightPlots$Told" "houses" "I", .fieldLink RX3 62 "NightPlots$Told" "feuds" "I"] ++ wsX30)
def wsX2_readGreen_r1 : List Cond := [Cond.methodLink RX2 84 yX2_readNumber, Cond.instanceMethod yX2_readNumber, Cond.selects RX2 yX2_readNumber yX2_readNumber, Cond.initialized RX2, Cond.code yX2_readNumber cX2_readNumber 7 (some .int), Cond.fieldLink RX2 21 "NightPlots$Text" "tokenEnd" "I", Cond.fieldLink RX2 34 "NightPlots$Text" "tokenBegin" "I", Cond.fieldLink RX2 9 "NightPlots$Text" "bytes" "[I", Cond.methodLink RX2 27 yX2_stepToToken, Cond.instanceMethod yX2_stepToToken, Cond.selects RX2 yX2_stepToToken yX2_stepToToken, Cond.code yX2_stepToToken cX2_stepToToken 2 none, Cond.fieldLink RX2 15 "NightPlots$Text" "length" "I", Cond.methodLink RX2 139 yX2_goesOn, Cond.instanceMethod yX2_goesOn, Cond.selects RX2 yX2_goesOn yX2_goesOn, Cond.code yX2_goesOn cX2_goesOn 3 (some .boolean), Cond.methodLink RX2 143 yX2_isLetter, Cond.static yX2_isLetter, Cond.code yX2_isLetter cX2_isLetter 1 (some .boolean), Cond.methodLink RX2 146 yX2_isDigit, Cond.static yX2_isDigit, Cond.code yX2_isDigit cX2_isDigit 1 (some .boolean), Cond.methodLink RX2 88 yX3_layOut]
def wsX2_readGreen_r2 : List Cond := [Cond.instanceMethod yX3_layOut, Cond.selects RX3 yX3_layOut yX3_layOut, Cond.initialized RX3, Cond.code yX3_layOut cX3_layOut 2 none, Cond.fieldLink RX3 37 "NightPlots$Told" "plots" "I", Cond.fieldLink RX3 41 "NightPlots$Told" "paths" "I", Cond.fieldLink RX3 44 "NightPlots$Told" "law" "I", Cond.fieldLink RX3 47 "NightPlots$Told" "seed" "I", Cond.fieldLink RX3 9 "NightPlots$Told" "crop" "[I", Cond.methodLink RX3 50 yJ7_fill_53178, Cond.static yJ7_fill_53178, Cond.initialized RJ7, Cond.code yJ7_fill_53178 cJ7_fill_53178 4 none, Cond.methodLink RX3 56 yX3_removeHouses, Cond.instanceMethod yX3_removeHouses, Cond.selects RX3 yX3_removeHouses yX3_removeHouses, Cond.code yX3_removeHouses cX3_removeHouses 1 none, Cond.fieldLink RX3 59 "NightPlots$Told" "houses" "I", Cond.fieldLink RX3 62 "NightPlots$Told" "feuds" "I"]
def wsX2_readGreen : List Cond := .code yX2_readGreen cX2_readGreen 3 (some .boolean) :: ((wsX2_readGreen_r1 ++ wsX2_readGreen_r2) ++ wsX20 ++ wsX30)
def wsX2_readCrop_r1 : List Cond := [Cond.fieldLink RX2 92 "NightPlots$Told" "plots" "I", Cond.fieldLink RX2 95 "NightPlots$Told" "crop" "[I", Cond.methodLink RX2 84 yX2_readNumber, Cond.instanceMethod yX2_readNumber, Cond.selects RX2 yX2_readNumber yX2_readNumber, Cond.initialized RX2, Cond.code yX2_readNumber cX2_readNumber 7 (some .int), Cond.fieldLink RX2 21 "NightPlots$Text" "tokenEnd" "I", Cond.fieldLink RX2 34 "NightPlots$Text" "tokenBegin" "I", Cond.fieldLink RX2 9 "NightPlots$Text" "bytes" "[I", Cond.methodLink RX2 27 yX2_stepToToken, Cond.instanceMethod yX2_stepToToken, Cond.selects RX2 yX2_stepToToken yX2_stepToToken, Cond.code yX2_stepToToken cX2_stepToToken 2 none, Cond.fieldLink RX2 15 "NightPlots$Text" "length" "I", Cond.methodLink RX2 139 yX2_goesOn, Cond.instanceMethod yX2_goesOn, Cond.selects RX2 yX2_goesOn yX2_goesOn, Cond.code yX2_goesOn cX2_goesOn 3 (some .boolean), Cond.methodLink RX2 143 yX2_isLetter, Cond.static yX2_isLetter, Cond.code yX2_isLetter cX2_isLetter 1 (some .boolean), Cond.methodLink RX2 146 yX2_isDigit, Cond.static yX2_isDigit]
def wsX2_readCrop_r2 : List Cond := [Cond.code yX2_isDigit cX2_isDigit 1 (some .boolean)]
def wsX2_readCrop : List Cond := .code yX2_readCrop cX2_readCrop 4 (some .boolean) :: ((wsX2_readCrop_r1 ++ wsX2_readCrop_r2) ++ wsX30 ++ wsX20)
def wsX2_kindHere_r1 : List Cond := [Cond.methodLink RX2 39 yX2_isWord, Cond.instanceMethod yX2_isWord, Cond.selects RX2 yX2_isWord yX2_isWord, Cond.initialized RX2, Cond.code yX2_isWord cX2_isWord 3 (some .boolean), Cond.fieldLink RX2 21 "NightPlots$Text" "tokenEnd" "I", Cond.fieldLink RX2 34 "NightPlots$Text" "tokenBegin" "I", Cond.fieldLink RX2 9 "NightPlots$Text" "bytes" "[I", Cond.methodLink RX2 149 yJ0_length_8abf5, Cond.instanceMethod yJ0_length_8abf5, Cond.selects RJ0 yJ0_length_8abf5 yJ0_length_8abf5, Cond.initialized RJ0, Cond.code yJ0_length_8abf5 cJ0_length_8abf5 1 (some .int), Cond.fieldLink RJ0 9 "java/lang/String" "value" "[B", Cond.methodLink RJ0 335 yJ0_coder_7d493, Cond.instanceMethod yJ0_coder_7d493, Cond.selects RJ0 yJ0_coder_7d493 yJ0_coder_7d493, Cond.code yJ0_coder_7d493 cJ0_coder_7d493 1 (some .byte), Cond.fieldLink RJ0 38 "java/lang/String" "COMPACT_STRINGS" "Z", Cond.fieldLink RJ0 15 "java/lang/String" "coder" "B", Cond.methodLink RX2 153 yJ0_charAt_5068e, Cond.instanceMethod yJ0_charAt_5068e, Cond.selects RJ0 yJ0_charAt_5068e yJ0_charAt_5068e, Cond.code yJ0_charAt_5068e cJ0_charAt_5068e 2 (some .char)]
def wsX2_kindHere_r2 : List Cond := [Cond.methodLink RJ0 492 yJ0_isLatin1_aae02, Cond.instanceMethod yJ0_isLatin1_aae02, Cond.selects RJ0 yJ0_isLatin1_aae02 yJ0_isLatin1_aae02, Cond.code yJ0_isLatin1_aae02 cJ0_isLatin1_aae02 1 (some .boolean), Cond.methodLink RJ0 495 yJ1_charAt_3b067, Cond.static yJ1_charAt_3b067, Cond.initialized RJ1, Cond.code yJ1_charAt_3b067 cJ1_charAt_3b067 2 (some .char), Cond.methodLink RJ1 9 yJ0_checkIndex_df160, Cond.static yJ0_checkIndex_df160, Cond.code yJ0_checkIndex_df160 cJ0_checkIndex_df160 2 none, Cond.fieldLink RJ0 1053 "jdk/internal/util/Preconditions" "SIOOBE_FORMATTER" "Ljava/util/function/BiFunction;", Cond.methodLink RJ0 1059 yJ3_checkIndex_8e157, Cond.static yJ3_checkIndex_8e157, Cond.initialized RJ3, Cond.code yJ3_checkIndex_8e157 cJ3_checkIndex_8e157 3 (some .int), Cond.methodLink RJ0 498 yJ2_charAt_3b067, Cond.static yJ2_charAt_3b067, Cond.initialized RJ2, Cond.code yJ2_charAt_3b067 cJ2_charAt_3b067 2 (some .char), Cond.methodLink RJ2 67 yJ2_checkIndex_2214a, Cond.static yJ2_checkIndex_2214a, Cond.code yJ2_checkIndex_2214a cJ2_checkIndex_2214a 2 none, Cond.methodLink RJ2 48 yJ2_length_9d52b]
def wsX2_kindHere_r3 : List Cond := [Cond.static yJ2_length_9d52b, Cond.code yJ2_length_9d52b cJ2_length_9d52b 1 (some .int), Cond.methodLink RJ2 414 yJ0_checkIndex_df160, Cond.methodLink RJ2 71 yJ2_getChar_3b067, Cond.static yJ2_getChar_3b067, Cond.code yJ2_getChar_3b067 cJ2_getChar_3b067 2 (some .char), Cond.fieldLink RJ2 44 "java/lang/StringUTF16" "$assertionsDisabled" "Z", Cond.fieldLink RJ2 59 "java/lang/StringUTF16" "HI_BYTE_SHIFT" "I", Cond.fieldLink RJ2 63 "java/lang/StringUTF16" "LO_BYTE_SHIFT" "I"]
def wsX2_kindHere : List Cond := .code yX2_kindHere cX2_kindHere 1 (some .int) :: ((wsX2_kindHere_r1 ++ (wsX2_kindHere_r2 ++ wsX2_kindHere_r3)) ++ wsX20)
def wsX3_settle : List Cond := .code yX3_settle cX3_settle 5 (some .boolean) :: ([.fieldLink RX3 59 "NightPlots$Told" "houses" "I", .fieldLink RX3 15 "NightPlots$Told" "kind" "[I", .fieldLink RX3 18 "NightPlots$Told" "place" "[I", .methodLink RX3 83 yX3_takenAtFirst, .instanceMethod yX3_takenAtFirst, .selects RX3 yX3_takenAtFirst yX3_takenAtFirst, .initialized RX3, .code yX3_takenAtFirst cX3_takenAtFirst 3 (some .int), .methodLink RX3 79 yX3_ground, .instanceMethod yX3_ground, .selects RX3 yX3_ground yX3_ground, .code yX3_ground cX3_ground 3 (some .int), .methodLink RX3 71 yX3_next, .instanceMethod yX3_next, .selects RX3 yX3_next yX3_next, .code yX3_next cX3_next 2 (some .int), .fieldLink RX3 37 "NightPlots$Told" "plots" "I", .methodLink RX3 75 yX3_allPlots, .instanceMethod yX3_allPlots, .selects RX3 yX3_allPlots yX3_allPlots, .code yX3_allPlots cX3_allPlots 1 (some .int)] ++ wsX30)
def wsX2_readHouse_r1 : List Cond := [Cond.fieldLink RX2 97 "NightPlots$Told" "houses" "I", Cond.fieldLink RX2 92 "NightPlots$Told" "plots" "I", Cond.methodLink RX2 84 yX2_readNumber, Cond.instanceMethod yX2_readNumber, Cond.selects RX2 yX2_readNumber yX2_readNumber, Cond.initialized RX2, Cond.code yX2_readNumber cX2_readNumber 7 (some .int), Cond.fieldLink RX2 21 "NightPlots$Text" "tokenEnd" "I", Cond.fieldLink RX2 34 "NightPlots$Text" "tokenBegin" "I", Cond.fieldLink RX2 9 "NightPlots$Text" "bytes" "[I", Cond.methodLink RX2 27 yX2_stepToToken, Cond.instanceMethod yX2_stepToToken, Cond.selects RX2 yX2_stepToToken yX2_stepToToken, Cond.code yX2_stepToToken cX2_stepToToken 2 none, Cond.fieldLink RX2 15 "NightPlots$Text" "length" "I", Cond.methodLink RX2 139 yX2_goesOn, Cond.instanceMethod yX2_goesOn, Cond.selects RX2 yX2_goesOn yX2_goesOn, Cond.code yX2_goesOn cX2_goesOn 3 (some .boolean), Cond.methodLink RX2 143 yX2_isLetter, Cond.static yX2_isLetter, Cond.code yX2_isLetter cX2_isLetter 1 (some .boolean), Cond.methodLink RX2 146 yX2_isDigit, Cond.static yX2_isDigit]
def wsX2_readHouse_r2 : List Cond := [Cond.code yX2_isDigit cX2_isDigit 1 (some .boolean), Cond.methodLink RX2 100 yX3_settle, Cond.instanceMethod yX3_settle, Cond.selects RX3 yX3_settle yX3_settle, Cond.initialized RX3, Cond.code yX3_settle cX3_settle 5 (some .boolean), Cond.fieldLink RX3 59 "NightPlots$Told" "houses" "I", Cond.fieldLink RX3 15 "NightPlots$Told" "kind" "[I", Cond.fieldLink RX3 18 "NightPlots$Told" "place" "[I", Cond.methodLink RX3 83 yX3_takenAtFirst, Cond.instanceMethod yX3_takenAtFirst, Cond.selects RX3 yX3_takenAtFirst yX3_takenAtFirst, Cond.code yX3_takenAtFirst cX3_takenAtFirst 3 (some .int), Cond.methodLink RX3 79 yX3_ground, Cond.instanceMethod yX3_ground, Cond.selects RX3 yX3_ground yX3_ground, Cond.code yX3_ground cX3_ground 3 (some .int), Cond.methodLink RX3 71 yX3_next, Cond.instanceMethod yX3_next, Cond.selects RX3 yX3_next yX3_next, Cond.code yX3_next cX3_next 2 (some .int), Cond.fieldLink RX3 37 "NightPlots$Told" "plots" "I", Cond.methodLink RX3 75 yX3_allPlots, Cond.instanceMethod yX3_allPlots]
def wsX2_readHouse_r3 : List Cond := [Cond.selects RX3 yX3_allPlots yX3_allPlots, Cond.code yX3_allPlots cX3_allPlots 1 (some .int)]
def wsX2_readHouse : List Cond := .code yX2_readHouse cX2_readHouse 4 (some .boolean) :: ((wsX2_readHouse_r1 ++ (wsX2_readHouse_r2 ++ wsX2_readHouse_r3)) ++ wsX30 ++ wsX20)
def wsX3_addPath : List Cond := .code yX3_addPath cX3_addPath 3 (some .boolean) :: ([.fieldLink RX3 41 "NightPlots$Told" "paths" "I", .fieldLink RX3 21 "NightPlots$Told" "pathFrom" "[I", .fieldLink RX3 24 "NightPlots$Told" "pathTo" "[I"] ++ wsX30)
def wsX2_readPath_r1 : List Cond := [Cond.fieldLink RX2 104 "NightPlots$Told" "paths" "I", Cond.fieldLink RX2 92 "NightPlots$Told" "plots" "I", Cond.methodLink RX2 84 yX2_readNumber, Cond.instanceMethod yX2_readNumber, Cond.selects RX2 yX2_readNumber yX2_readNumber, Cond.initialized RX2, Cond.code yX2_readNumber cX2_readNumber 7 (some .int), Cond.fieldLink RX2 21 "NightPlots$Text" "tokenEnd" "I", Cond.fieldLink RX2 34 "NightPlots$Text" "tokenBegin" "I", Cond.fieldLink RX2 9 "NightPlots$Text" "bytes" "[I", Cond.methodLink RX2 27 yX2_stepToToken, Cond.instanceMethod yX2_stepToToken, Cond.selects RX2 yX2_stepToToken yX2_stepToToken, Cond.code yX2_stepToToken cX2_stepToToken 2 none, Cond.fieldLink RX2 15 "NightPlots$Text" "length" "I", Cond.methodLink RX2 139 yX2_goesOn, Cond.instanceMethod yX2_goesOn, Cond.selects RX2 yX2_goesOn yX2_goesOn, Cond.code yX2_goesOn cX2_goesOn 3 (some .boolean), Cond.methodLink RX2 143 yX2_isLetter, Cond.static yX2_isLetter, Cond.code yX2_isLetter cX2_isLetter 1 (some .boolean), Cond.methodLink RX2 146 yX2_isDigit, Cond.static yX2_isDigit]
def wsX2_readPath_r2 : List Cond := [Cond.code yX2_isDigit cX2_isDigit 1 (some .boolean), Cond.methodLink RX2 107 yX3_addPath, Cond.instanceMethod yX3_addPath, Cond.selects RX3 yX3_addPath yX3_addPath, Cond.initialized RX3, Cond.code yX3_addPath cX3_addPath 3 (some .boolean), Cond.fieldLink RX3 41 "NightPlots$Told" "paths" "I", Cond.fieldLink RX3 21 "NightPlots$Told" "pathFrom" "[I", Cond.fieldLink RX3 24 "NightPlots$Told" "pathTo" "[I"]
def wsX2_readPath : List Cond := .code yX2_readPath cX2_readPath 4 (some .boolean) :: ((wsX2_readPath_r1 ++ wsX2_readPath_r2) ++ wsX30 ++ wsX20)
def wsX3_addFeud : List Cond := .code yX3_addFeud cX3_addFeud 3 (some .boolean) :: ([.fieldLink RX3 62 "NightPlots$Told" "feuds" "I", .fieldLink RX3 27 "NightPlots$Told" "feudOne" "[I", .fieldLink RX3 30 "NightPlots$Told" "feudOther" "[I"] ++ wsX30)
def wsX2_readFeud_r1 : List Cond := [Cond.fieldLink RX2 110 "NightPlots$Told" "feuds" "I", Cond.fieldLink RX2 97 "NightPlots$Told" "houses" "I", Cond.methodLink RX2 84 yX2_readNumber, Cond.instanceMethod yX2_readNumber, Cond.selects RX2 yX2_readNumber yX2_readNumber, Cond.initialized RX2, Cond.code yX2_readNumber cX2_readNumber 7 (some .int), Cond.fieldLink RX2 21 "NightPlots$Text" "tokenEnd" "I", Cond.fieldLink RX2 34 "NightPlots$Text" "tokenBegin" "I", Cond.fieldLink RX2 9 "NightPlots$Text" "bytes" "[I", Cond.methodLink RX2 27 yX2_stepToToken, Cond.instanceMethod yX2_stepToToken, Cond.selects RX2 yX2_stepToToken yX2_stepToToken, Cond.code yX2_stepToToken cX2_stepToToken 2 none, Cond.fieldLink RX2 15 "NightPlots$Text" "length" "I", Cond.methodLink RX2 139 yX2_goesOn, Cond.instanceMethod yX2_goesOn, Cond.selects RX2 yX2_goesOn yX2_goesOn, Cond.code yX2_goesOn cX2_goesOn 3 (some .boolean), Cond.methodLink RX2 143 yX2_isLetter, Cond.static yX2_isLetter, Cond.code yX2_isLetter cX2_isLetter 1 (some .boolean), Cond.methodLink RX2 146 yX2_isDigit, Cond.static yX2_isDigit]
def wsX2_readFeud_r2 : List Cond := [Cond.code yX2_isDigit cX2_isDigit 1 (some .boolean), Cond.methodLink RX2 113 yX3_addFeud, Cond.instanceMethod yX3_addFeud, Cond.selects RX3 yX3_addFeud yX3_addFeud, Cond.initialized RX3, Cond.code yX3_addFeud cX3_addFeud 3 (some .boolean), Cond.fieldLink RX3 62 "NightPlots$Told" "feuds" "I", Cond.fieldLink RX3 27 "NightPlots$Told" "feudOne" "[I", Cond.fieldLink RX3 30 "NightPlots$Told" "feudOther" "[I"]
def wsX2_readFeud : List Cond := .code yX2_readFeud cX2_readFeud 4 (some .boolean) :: ((wsX2_readFeud_r1 ++ wsX2_readFeud_r2) ++ wsX30 ++ wsX20)
def wsX2_readLot_r1 : List Cond := [Cond.fieldLink RX2 116 "NightPlots$Told" "law" "I", Cond.fieldLink RX2 119 "NightPlots$Told" "seed" "I", Cond.methodLink RX2 84 yX2_readNumber, Cond.instanceMethod yX2_readNumber, Cond.selects RX2 yX2_readNumber yX2_readNumber, Cond.initialized RX2, Cond.code yX2_readNumber cX2_readNumber 7 (some .int), Cond.fieldLink RX2 21 "NightPlots$Text" "tokenEnd" "I", Cond.fieldLink RX2 34 "NightPlots$Text" "tokenBegin" "I", Cond.fieldLink RX2 9 "NightPlots$Text" "bytes" "[I", Cond.methodLink RX2 27 yX2_stepToToken, Cond.instanceMethod yX2_stepToToken, Cond.selects RX2 yX2_stepToToken yX2_stepToToken, Cond.code yX2_stepToToken cX2_stepToToken 2 none, Cond.fieldLink RX2 15 "NightPlots$Text" "length" "I", Cond.methodLink RX2 139 yX2_goesOn, Cond.instanceMethod yX2_goesOn, Cond.selects RX2 yX2_goesOn yX2_goesOn, Cond.code yX2_goesOn cX2_goesOn 3 (some .boolean), Cond.methodLink RX2 143 yX2_isLetter, Cond.static yX2_isLetter, Cond.code yX2_isLetter cX2_isLetter 1 (some .boolean), Cond.methodLink RX2 146 yX2_isDigit, Cond.static yX2_isDigit]
def wsX2_readLot_r2 : List Cond := [Cond.code yX2_isDigit cX2_isDigit 1 (some .boolean)]
def wsX2_readLot : List Cond := .code yX2_readLot cX2_readLot 3 (some .boolean) :: ((wsX2_readLot_r1 ++ wsX2_readLot_r2) ++ wsX30 ++ wsX20)
def wsX2_plainLawHere_r1 : List Cond := [Cond.methodLink RX2 39 yX2_isWord, Cond.instanceMethod yX2_isWord, Cond.selects RX2 yX2_isWord yX2_isWord, Cond.initialized RX2, Cond.code yX2_isWord cX2_isWord 3 (some .boolean), Cond.fieldLink RX2 21 "NightPlots$Text" "tokenEnd" "I", Cond.fieldLink RX2 34 "NightPlots$Text" "tokenBegin" "I", Cond.fieldLink RX2 9 "NightPlots$Text" "bytes" "[I", Cond.methodLink RX2 149 yJ0_length_8abf5, Cond.instanceMethod yJ0_length_8abf5, Cond.selects RJ0 yJ0_length_8abf5 yJ0_length_8abf5, Cond.initialized RJ0, Cond.code yJ0_length_8abf5 cJ0_length_8abf5 1 (some .int), Cond.fieldLink RJ0 9 "java/lang/String" "value" "[B", Cond.methodLink RJ0 335 yJ0_coder_7d493, Cond.instanceMethod yJ0_coder_7d493, Cond.selects RJ0 yJ0_coder_7d493 yJ0_coder_7d493, Cond.code yJ0_coder_7d493 cJ0_coder_7d493 1 (some .byte), Cond.fieldLink RJ0 38 "java/lang/String" "COMPACT_STRINGS" "Z", Cond.fieldLink RJ0 15 "java/lang/String" "coder" "B", Cond.methodLink RX2 153 yJ0_charAt_5068e, Cond.instanceMethod yJ0_charAt_5068e, Cond.selects RJ0 yJ0_charAt_5068e yJ0_charAt_5068e, Cond.code yJ0_charAt_5068e cJ0_charAt_5068e 2 (some .char)]
def wsX2_plainLawHere_r2 : List Cond := [Cond.methodLink RJ0 492 yJ0_isLatin1_aae02, Cond.instanceMethod yJ0_isLatin1_aae02, Cond.selects RJ0 yJ0_isLatin1_aae02 yJ0_isLatin1_aae02, Cond.code yJ0_isLatin1_aae02 cJ0_isLatin1_aae02 1 (some .boolean), Cond.methodLink RJ0 495 yJ1_charAt_3b067, Cond.static yJ1_charAt_3b067, Cond.initialized RJ1, Cond.code yJ1_charAt_3b067 cJ1_charAt_3b067 2 (some .char), Cond.methodLink RJ1 9 yJ0_checkIndex_df160, Cond.static yJ0_checkIndex_df160, Cond.code yJ0_checkIndex_df160 cJ0_checkIndex_df160 2 none, Cond.fieldLink RJ0 1053 "jdk/internal/util/Preconditions" "SIOOBE_FORMATTER" "Ljava/util/function/BiFunction;", Cond.methodLink RJ0 1059 yJ3_checkIndex_8e157, Cond.static yJ3_checkIndex_8e157, Cond.initialized RJ3, Cond.code yJ3_checkIndex_8e157 cJ3_checkIndex_8e157 3 (some .int), Cond.methodLink RJ0 498 yJ2_charAt_3b067, Cond.static yJ2_charAt_3b067, Cond.initialized RJ2, Cond.code yJ2_charAt_3b067 cJ2_charAt_3b067 2 (some .char), Cond.methodLink RJ2 67 yJ2_checkIndex_2214a, Cond.static yJ2_checkIndex_2214a, Cond.code yJ2_checkIndex_2214a cJ2_checkIndex_2214a 2 none, Cond.methodLink RJ2 48 yJ2_length_9d52b]
def wsX2_plainLawHere_r3 : List Cond := [Cond.static yJ2_length_9d52b, Cond.code yJ2_length_9d52b cJ2_length_9d52b 1 (some .int), Cond.methodLink RJ2 414 yJ0_checkIndex_df160, Cond.methodLink RJ2 71 yJ2_getChar_3b067, Cond.static yJ2_getChar_3b067, Cond.code yJ2_getChar_3b067 cJ2_getChar_3b067 2 (some .char), Cond.fieldLink RJ2 44 "java/lang/StringUTF16" "$assertionsDisabled" "Z", Cond.fieldLink RJ2 59 "java/lang/StringUTF16" "HI_BYTE_SHIFT" "I", Cond.fieldLink RJ2 63 "java/lang/StringUTF16" "LO_BYTE_SHIFT" "I"]
def wsX2_plainLawHere : List Cond := .code yX2_plainLawHere cX2_plainLawHere 1 (some .int) :: ((wsX2_plainLawHere_r1 ++ (wsX2_plainLawHere_r2 ++ wsX2_plainLawHere_r3)) ++ wsX20)
def wsX2_readPlainLaw_r1 : List Cond := [Cond.fieldLink RX2 116 "NightPlots$Told" "law" "I", Cond.methodLink RX2 122 yX2_plainLawHere, Cond.instanceMethod yX2_plainLawHere, Cond.selects RX2 yX2_plainLawHere yX2_plainLawHere, Cond.initialized RX2, Cond.code yX2_plainLawHere cX2_plainLawHere 1 (some .int), Cond.methodLink RX2 39 yX2_isWord, Cond.instanceMethod yX2_isWord, Cond.selects RX2 yX2_isWord yX2_isWord, Cond.code yX2_isWord cX2_isWord 3 (some .boolean), Cond.fieldLink RX2 21 "NightPlots$Text" "tokenEnd" "I", Cond.fieldLink RX2 34 "NightPlots$Text" "tokenBegin" "I", Cond.fieldLink RX2 9 "NightPlots$Text" "bytes" "[I", Cond.methodLink RX2 149 yJ0_length_8abf5, Cond.instanceMethod yJ0_length_8abf5, Cond.selects RJ0 yJ0_length_8abf5 yJ0_length_8abf5, Cond.initialized RJ0, Cond.code yJ0_length_8abf5 cJ0_length_8abf5 1 (some .int), Cond.fieldLink RJ0 9 "java/lang/String" "value" "[B", Cond.methodLink RJ0 335 yJ0_coder_7d493, Cond.instanceMethod yJ0_coder_7d493, Cond.selects RJ0 yJ0_coder_7d493 yJ0_coder_7d493, Cond.code yJ0_coder_7d493 cJ0_coder_7d493 1 (some .byte), Cond.fieldLink RJ0 38 "java/lang/String" "COMPACT_STRINGS" "Z"]
def wsX2_readPlainLaw_r2 : List Cond := [Cond.fieldLink RJ0 15 "java/lang/String" "coder" "B", Cond.methodLink RX2 153 yJ0_charAt_5068e, Cond.instanceMethod yJ0_charAt_5068e, Cond.selects RJ0 yJ0_charAt_5068e yJ0_charAt_5068e, Cond.code yJ0_charAt_5068e cJ0_charAt_5068e 2 (some .char), Cond.methodLink RJ0 492 yJ0_isLatin1_aae02, Cond.instanceMethod yJ0_isLatin1_aae02, Cond.selects RJ0 yJ0_isLatin1_aae02 yJ0_isLatin1_aae02, Cond.code yJ0_isLatin1_aae02 cJ0_isLatin1_aae02 1 (some .boolean), Cond.methodLink RJ0 495 yJ1_charAt_3b067, Cond.static yJ1_charAt_3b067, Cond.initialized RJ1, Cond.code yJ1_charAt_3b067 cJ1_charAt_3b067 2 (some .char), Cond.methodLink RJ1 9 yJ0_checkIndex_df160, Cond.static yJ0_checkIndex_df160, Cond.code yJ0_checkIndex_df160 cJ0_checkIndex_df160 2 none, Cond.fieldLink RJ0 1053 "jdk/internal/util/Preconditions" "SIOOBE_FORMATTER" "Ljava/util/function/BiFunction;", Cond.methodLink RJ0 1059 yJ3_checkIndex_8e157, Cond.static yJ3_checkIndex_8e157, Cond.initialized RJ3, Cond.code yJ3_checkIndex_8e157 cJ3_checkIndex_8e157 3 (some .int), Cond.methodLink RJ0 498 yJ2_charAt_3b067, Cond.static yJ2_charAt_3b067, Cond.initialized RJ2]
def wsX2_readPlainLaw_r3 : List Cond := [Cond.code yJ2_charAt_3b067 cJ2_charAt_3b067 2 (some .char), Cond.methodLink RJ2 67 yJ2_checkIndex_2214a, Cond.static yJ2_checkIndex_2214a, Cond.code yJ2_checkIndex_2214a cJ2_checkIndex_2214a 2 none, Cond.methodLink RJ2 48 yJ2_length_9d52b, Cond.static yJ2_length_9d52b, Cond.code yJ2_length_9d52b cJ2_length_9d52b 1 (some .int), Cond.methodLink RJ2 414 yJ0_checkIndex_df160, Cond.methodLink RJ2 71 yJ2_getChar_3b067, Cond.static yJ2_getChar_3b067, Cond.code yJ2_getChar_3b067 cJ2_getChar_3b067 2 (some .char), Cond.fieldLink RJ2 44 "java/lang/StringUTF16" "$assertionsDisabled" "Z", Cond.fieldLink RJ2 59 "java/lang/StringUTF16" "HI_BYTE_SHIFT" "I", Cond.fieldLink RJ2 63 "java/lang/StringUTF16" "LO_BYTE_SHIFT" "I"]
def wsX2_readPlainLaw : List Cond := .code yX2_readPlainLaw cX2_readPlainLaw 3 (some .boolean) :: ((wsX2_readPlainLaw_r1 ++ (wsX2_readPlainLaw_r2 ++ wsX2_readPlainLaw_r3)) ++ wsX30 ++ wsX20)
def wsX2_readLine_r1 : List Cond := [Cond.methodLink RX2 39 yX2_isWord, Cond.instanceMethod yX2_isWord, Cond.selects RX2 yX2_isWord yX2_isWord, Cond.initialized RX2, Cond.code yX2_isWord cX2_isWord 3 (some .boolean), Cond.fieldLink RX2 21 "NightPlots$Text" "tokenEnd" "I", Cond.fieldLink RX2 34 "NightPlots$Text" "tokenBegin" "I", Cond.fieldLink RX2 9 "NightPlots$Text" "bytes" "[I", Cond.methodLink RX2 149 yJ0_length_8abf5, Cond.instanceMethod yJ0_length_8abf5, Cond.selects RJ0 yJ0_length_8abf5 yJ0_length_8abf5, Cond.initialized RJ0, Cond.code yJ0_length_8abf5 cJ0_length_8abf5 1 (some .int), Cond.fieldLink RJ0 9 "java/lang/String" "value" "[B", Cond.methodLink RJ0 335 yJ0_coder_7d493, Cond.instanceMethod yJ0_coder_7d493, Cond.selects RJ0 yJ0_coder_7d493 yJ0_coder_7d493, Cond.code yJ0_coder_7d493 cJ0_coder_7d493 1 (some .byte), Cond.fieldLink RJ0 38 "java/lang/String" "COMPACT_STRINGS" "Z", Cond.fieldLink RJ0 15 "java/lang/String" "coder" "B", Cond.methodLink RX2 153 yJ0_charAt_5068e, Cond.instanceMethod yJ0_charAt_5068e, Cond.selects RJ0 yJ0_charAt_5068e yJ0_charAt_5068e, Cond.code yJ0_charAt_5068e cJ0_charAt_5068e 2 (some .char)]
def wsX2_readLine_r2 : List Cond := [Cond.methodLink RJ0 492 yJ0_isLatin1_aae02, Cond.instanceMethod yJ0_isLatin1_aae02, Cond.selects RJ0 yJ0_isLatin1_aae02 yJ0_isLatin1_aae02, Cond.code yJ0_isLatin1_aae02 cJ0_isLatin1_aae02 1 (some .boolean), Cond.methodLink RJ0 495 yJ1_charAt_3b067, Cond.static yJ1_charAt_3b067, Cond.initialized RJ1, Cond.code yJ1_charAt_3b067 cJ1_charAt_3b067 2 (some .char), Cond.methodLink RJ1 9 yJ0_checkIndex_df160, Cond.static yJ0_checkIndex_df160, Cond.code yJ0_checkIndex_df160 cJ0_checkIndex_df160 2 none, Cond.fieldLink RJ0 1053 "jdk/internal/util/Preconditions" "SIOOBE_FORMATTER" "Ljava/util/function/BiFunction;", Cond.methodLink RJ0 1059 yJ3_checkIndex_8e157, Cond.static yJ3_checkIndex_8e157, Cond.initialized RJ3, Cond.code yJ3_checkIndex_8e157 cJ3_checkIndex_8e157 3 (some .int), Cond.methodLink RJ0 498 yJ2_charAt_3b067, Cond.static yJ2_charAt_3b067, Cond.initialized RJ2, Cond.code yJ2_charAt_3b067 cJ2_charAt_3b067 2 (some .char), Cond.methodLink RJ2 67 yJ2_checkIndex_2214a, Cond.static yJ2_checkIndex_2214a, Cond.code yJ2_checkIndex_2214a cJ2_checkIndex_2214a 2 none, Cond.methodLink RJ2 48 yJ2_length_9d52b]
def wsX2_readLine_r3 : List Cond := [Cond.static yJ2_length_9d52b, Cond.code yJ2_length_9d52b cJ2_length_9d52b 1 (some .int), Cond.methodLink RJ2 414 yJ0_checkIndex_df160, Cond.methodLink RJ2 71 yJ2_getChar_3b067, Cond.static yJ2_getChar_3b067, Cond.code yJ2_getChar_3b067 cJ2_getChar_3b067 2 (some .char), Cond.fieldLink RJ2 44 "java/lang/StringUTF16" "$assertionsDisabled" "Z", Cond.fieldLink RJ2 59 "java/lang/StringUTF16" "HI_BYTE_SHIFT" "I", Cond.fieldLink RJ2 63 "java/lang/StringUTF16" "LO_BYTE_SHIFT" "I", Cond.methodLink RX2 43 yX2_readGreen, Cond.instanceMethod yX2_readGreen, Cond.selects RX2 yX2_readGreen yX2_readGreen, Cond.code yX2_readGreen cX2_readGreen 3 (some .boolean), Cond.methodLink RX2 84 yX2_readNumber, Cond.instanceMethod yX2_readNumber, Cond.selects RX2 yX2_readNumber yX2_readNumber, Cond.code yX2_readNumber cX2_readNumber 7 (some .int), Cond.methodLink RX2 27 yX2_stepToToken, Cond.instanceMethod yX2_stepToToken, Cond.selects RX2 yX2_stepToToken yX2_stepToToken, Cond.code yX2_stepToToken cX2_stepToToken 2 none, Cond.fieldLink RX2 15 "NightPlots$Text" "length" "I", Cond.methodLink RX2 139 yX2_goesOn, Cond.instanceMethod yX2_goesOn]
def wsX2_readLine_r4 : List Cond := [Cond.selects RX2 yX2_goesOn yX2_goesOn, Cond.code yX2_goesOn cX2_goesOn 3 (some .boolean), Cond.methodLink RX2 143 yX2_isLetter, Cond.static yX2_isLetter, Cond.code yX2_isLetter cX2_isLetter 1 (some .boolean), Cond.methodLink RX2 146 yX2_isDigit, Cond.static yX2_isDigit, Cond.code yX2_isDigit cX2_isDigit 1 (some .boolean), Cond.methodLink RX2 88 yX3_layOut, Cond.instanceMethod yX3_layOut, Cond.selects RX3 yX3_layOut yX3_layOut, Cond.initialized RX3, Cond.code yX3_layOut cX3_layOut 2 none, Cond.fieldLink RX3 37 "NightPlots$Told" "plots" "I", Cond.fieldLink RX3 41 "NightPlots$Told" "paths" "I", Cond.fieldLink RX3 44 "NightPlots$Told" "law" "I", Cond.fieldLink RX3 47 "NightPlots$Told" "seed" "I", Cond.fieldLink RX3 9 "NightPlots$Told" "crop" "[I", Cond.methodLink RX3 50 yJ7_fill_53178, Cond.static yJ7_fill_53178, Cond.initialized RJ7, Cond.code yJ7_fill_53178 cJ7_fill_53178 4 none, Cond.methodLink RX3 56 yX3_removeHouses, Cond.instanceMethod yX3_removeHouses]
def wsX2_readLine_r5 : List Cond := [Cond.selects RX3 yX3_removeHouses yX3_removeHouses, Cond.code yX3_removeHouses cX3_removeHouses 1 none, Cond.fieldLink RX3 59 "NightPlots$Told" "houses" "I", Cond.fieldLink RX3 62 "NightPlots$Told" "feuds" "I", Cond.methodLink RX2 48 yX2_readCrop, Cond.instanceMethod yX2_readCrop, Cond.selects RX2 yX2_readCrop yX2_readCrop, Cond.code yX2_readCrop cX2_readCrop 4 (some .boolean), Cond.fieldLink RX2 92 "NightPlots$Told" "plots" "I", Cond.fieldLink RX2 95 "NightPlots$Told" "crop" "[I", Cond.methodLink RX2 51 yX2_kindHere, Cond.instanceMethod yX2_kindHere, Cond.selects RX2 yX2_kindHere yX2_kindHere, Cond.code yX2_kindHere cX2_kindHere 1 (some .int), Cond.methodLink RX2 55 yX2_readHouse, Cond.instanceMethod yX2_readHouse, Cond.selects RX2 yX2_readHouse yX2_readHouse, Cond.code yX2_readHouse cX2_readHouse 4 (some .boolean), Cond.fieldLink RX2 97 "NightPlots$Told" "houses" "I", Cond.methodLink RX2 100 yX3_settle, Cond.instanceMethod yX3_settle, Cond.selects RX3 yX3_settle yX3_settle, Cond.code yX3_settle cX3_settle 5 (some .boolean), Cond.fieldLink RX3 15 "NightPlots$Told" "kind" "[I"]
def wsX2_readLine_r6 : List Cond := [Cond.fieldLink RX3 18 "NightPlots$Told" "place" "[I", Cond.methodLink RX3 83 yX3_takenAtFirst, Cond.instanceMethod yX3_takenAtFirst, Cond.selects RX3 yX3_takenAtFirst yX3_takenAtFirst, Cond.code yX3_takenAtFirst cX3_takenAtFirst 3 (some .int), Cond.methodLink RX3 79 yX3_ground, Cond.instanceMethod yX3_ground, Cond.selects RX3 yX3_ground yX3_ground, Cond.code yX3_ground cX3_ground 3 (some .int), Cond.methodLink RX3 71 yX3_next, Cond.instanceMethod yX3_next, Cond.selects RX3 yX3_next yX3_next, Cond.code yX3_next cX3_next 2 (some .int), Cond.methodLink RX3 75 yX3_allPlots, Cond.instanceMethod yX3_allPlots, Cond.selects RX3 yX3_allPlots yX3_allPlots, Cond.code yX3_allPlots cX3_allPlots 1 (some .int), Cond.methodLink RX2 61 yX2_readPath, Cond.instanceMethod yX2_readPath, Cond.selects RX2 yX2_readPath yX2_readPath, Cond.code yX2_readPath cX2_readPath 4 (some .boolean), Cond.fieldLink RX2 104 "NightPlots$Told" "paths" "I", Cond.methodLink RX2 107 yX3_addPath, Cond.instanceMethod yX3_addPath]
def wsX2_readLine_r7 : List Cond := [Cond.selects RX3 yX3_addPath yX3_addPath, Cond.code yX3_addPath cX3_addPath 3 (some .boolean), Cond.fieldLink RX3 21 "NightPlots$Told" "pathFrom" "[I", Cond.fieldLink RX3 24 "NightPlots$Told" "pathTo" "[I", Cond.methodLink RX2 66 yX2_readFeud, Cond.instanceMethod yX2_readFeud, Cond.selects RX2 yX2_readFeud yX2_readFeud, Cond.code yX2_readFeud cX2_readFeud 4 (some .boolean), Cond.fieldLink RX2 110 "NightPlots$Told" "feuds" "I", Cond.methodLink RX2 113 yX3_addFeud, Cond.instanceMethod yX3_addFeud, Cond.selects RX3 yX3_addFeud yX3_addFeud, Cond.code yX3_addFeud cX3_addFeud 3 (some .boolean), Cond.fieldLink RX3 27 "NightPlots$Told" "feudOne" "[I", Cond.fieldLink RX3 30 "NightPlots$Told" "feudOther" "[I", Cond.methodLink RX2 71 yX2_readLot, Cond.instanceMethod yX2_readLot, Cond.selects RX2 yX2_readLot yX2_readLot, Cond.code yX2_readLot cX2_readLot 3 (some .boolean), Cond.fieldLink RX2 116 "NightPlots$Told" "law" "I", Cond.fieldLink RX2 119 "NightPlots$Told" "seed" "I", Cond.methodLink RX2 76 yX3_removeHouses, Cond.methodLink RX2 81 yX2_readPlainLaw, Cond.instanceMethod yX2_readPlainLaw]
def wsX2_readLine_r8 : List Cond := [Cond.selects RX2 yX2_readPlainLaw yX2_readPlainLaw, Cond.code yX2_readPlainLaw cX2_readPlainLaw 3 (some .boolean), Cond.methodLink RX2 122 yX2_plainLawHere, Cond.instanceMethod yX2_plainLawHere, Cond.selects RX2 yX2_plainLawHere yX2_plainLawHere, Cond.code yX2_plainLawHere cX2_plainLawHere 1 (some .int)]
def wsX2_readLine : List Cond := .code yX2_readLine cX2_readLine 3 (some .boolean) :: ((wsX2_readLine_r1 ++ (wsX2_readLine_r2 ++ (wsX2_readLine_r3 ++ (wsX2_readLine_r4 ++ (wsX2_readLine_r5 ++ (wsX2_readLine_r6 ++ (wsX2_readLine_r7 ++ wsX2_readLine_r8))))))) ++ wsX20 ++ wsX30)
def wsX2_readInto_r1 : List Cond := [Cond.fieldLink RX2 21 "NightPlots$Text" "tokenEnd" "I", Cond.fieldLink RX2 24 "NightPlots$Text" "lines" "I", Cond.fieldLink RX2 34 "NightPlots$Text" "tokenBegin" "I", Cond.fieldLink RX2 15 "NightPlots$Text" "length" "I", Cond.fieldLink RX2 9 "NightPlots$Text" "bytes" "[I", Cond.methodLink RX2 27 yX2_stepToToken, Cond.instanceMethod yX2_stepToToken, Cond.selects RX2 yX2_stepToToken yX2_stepToToken, Cond.initialized RX2, Cond.code yX2_stepToToken cX2_stepToToken 2 none, Cond.methodLink RX2 139 yX2_goesOn, Cond.instanceMethod yX2_goesOn, Cond.selects RX2 yX2_goesOn yX2_goesOn, Cond.code yX2_goesOn cX2_goesOn 3 (some .boolean), Cond.methodLink RX2 143 yX2_isLetter, Cond.static yX2_isLetter, Cond.code yX2_isLetter cX2_isLetter 1 (some .boolean), Cond.methodLink RX2 146 yX2_isDigit, Cond.static yX2_isDigit, Cond.code yX2_isDigit cX2_isDigit 1 (some .boolean), Cond.methodLink RX2 30 yX2_readLine, Cond.instanceMethod yX2_readLine, Cond.selects RX2 yX2_readLine yX2_readLine, Cond.code yX2_readLine cX2_readLine 3 (some .boolean)]
def wsX2_readInto_r2 : List Cond := [Cond.methodLink RX2 39 yX2_isWord, Cond.instanceMethod yX2_isWord, Cond.selects RX2 yX2_isWord yX2_isWord, Cond.code yX2_isWord cX2_isWord 3 (some .boolean), Cond.methodLink RX2 149 yJ0_length_8abf5, Cond.instanceMethod yJ0_length_8abf5, Cond.selects RJ0 yJ0_length_8abf5 yJ0_length_8abf5, Cond.initialized RJ0, Cond.code yJ0_length_8abf5 cJ0_length_8abf5 1 (some .int), Cond.fieldLink RJ0 9 "java/lang/String" "value" "[B", Cond.methodLink RJ0 335 yJ0_coder_7d493, Cond.instanceMethod yJ0_coder_7d493, Cond.selects RJ0 yJ0_coder_7d493 yJ0_coder_7d493, Cond.code yJ0_coder_7d493 cJ0_coder_7d493 1 (some .byte), Cond.fieldLink RJ0 38 "java/lang/String" "COMPACT_STRINGS" "Z", Cond.fieldLink RJ0 15 "java/lang/String" "coder" "B", Cond.methodLink RX2 153 yJ0_charAt_5068e, Cond.instanceMethod yJ0_charAt_5068e, Cond.selects RJ0 yJ0_charAt_5068e yJ0_charAt_5068e, Cond.code yJ0_charAt_5068e cJ0_charAt_5068e 2 (some .char), Cond.methodLink RJ0 492 yJ0_isLatin1_aae02, Cond.instanceMethod yJ0_isLatin1_aae02, Cond.selects RJ0 yJ0_isLatin1_aae02 yJ0_isLatin1_aae02, Cond.code yJ0_isLatin1_aae02 cJ0_isLatin1_aae02 1 (some .boolean)]
def wsX2_readInto_r3 : List Cond := [Cond.methodLink RJ0 495 yJ1_charAt_3b067, Cond.static yJ1_charAt_3b067, Cond.initialized RJ1, Cond.code yJ1_charAt_3b067 cJ1_charAt_3b067 2 (some .char), Cond.methodLink RJ1 9 yJ0_checkIndex_df160, Cond.static yJ0_checkIndex_df160, Cond.code yJ0_checkIndex_df160 cJ0_checkIndex_df160 2 none, Cond.fieldLink RJ0 1053 "jdk/internal/util/Preconditions" "SIOOBE_FORMATTER" "Ljava/util/function/BiFunction;", Cond.methodLink RJ0 1059 yJ3_checkIndex_8e157, Cond.static yJ3_checkIndex_8e157, Cond.initialized RJ3, Cond.code yJ3_checkIndex_8e157 cJ3_checkIndex_8e157 3 (some .int), Cond.methodLink RJ0 498 yJ2_charAt_3b067, Cond.static yJ2_charAt_3b067, Cond.initialized RJ2, Cond.code yJ2_charAt_3b067 cJ2_charAt_3b067 2 (some .char), Cond.methodLink RJ2 67 yJ2_checkIndex_2214a, Cond.static yJ2_checkIndex_2214a, Cond.code yJ2_checkIndex_2214a cJ2_checkIndex_2214a 2 none, Cond.methodLink RJ2 48 yJ2_length_9d52b, Cond.static yJ2_length_9d52b, Cond.code yJ2_length_9d52b cJ2_length_9d52b 1 (some .int), Cond.methodLink RJ2 414 yJ0_checkIndex_df160, Cond.methodLink RJ2 71 yJ2_getChar_3b067]
def wsX2_readInto_r4 : List Cond := [Cond.static yJ2_getChar_3b067, Cond.code yJ2_getChar_3b067 cJ2_getChar_3b067 2 (some .char), Cond.fieldLink RJ2 44 "java/lang/StringUTF16" "$assertionsDisabled" "Z", Cond.fieldLink RJ2 59 "java/lang/StringUTF16" "HI_BYTE_SHIFT" "I", Cond.fieldLink RJ2 63 "java/lang/StringUTF16" "LO_BYTE_SHIFT" "I", Cond.methodLink RX2 43 yX2_readGreen, Cond.instanceMethod yX2_readGreen, Cond.selects RX2 yX2_readGreen yX2_readGreen, Cond.code yX2_readGreen cX2_readGreen 3 (some .boolean), Cond.methodLink RX2 84 yX2_readNumber, Cond.instanceMethod yX2_readNumber, Cond.selects RX2 yX2_readNumber yX2_readNumber, Cond.code yX2_readNumber cX2_readNumber 7 (some .int), Cond.methodLink RX2 88 yX3_layOut, Cond.instanceMethod yX3_layOut, Cond.selects RX3 yX3_layOut yX3_layOut, Cond.initialized RX3, Cond.code yX3_layOut cX3_layOut 2 none, Cond.fieldLink RX3 37 "NightPlots$Told" "plots" "I", Cond.fieldLink RX3 41 "NightPlots$Told" "paths" "I", Cond.fieldLink RX3 44 "NightPlots$Told" "law" "I", Cond.fieldLink RX3 47 "NightPlots$Told" "seed" "I", Cond.fieldLink RX3 9 "NightPlots$Told" "crop" "[I", Cond.methodLink RX3 50 yJ7_fill_53178]
def wsX2_readInto_r5 : List Cond := [Cond.static yJ7_fill_53178, Cond.initialized RJ7, Cond.code yJ7_fill_53178 cJ7_fill_53178 4 none, Cond.methodLink RX3 56 yX3_removeHouses, Cond.instanceMethod yX3_removeHouses, Cond.selects RX3 yX3_removeHouses yX3_removeHouses, Cond.code yX3_removeHouses cX3_removeHouses 1 none, Cond.fieldLink RX3 59 "NightPlots$Told" "houses" "I", Cond.fieldLink RX3 62 "NightPlots$Told" "feuds" "I", Cond.methodLink RX2 48 yX2_readCrop, Cond.instanceMethod yX2_readCrop, Cond.selects RX2 yX2_readCrop yX2_readCrop, Cond.code yX2_readCrop cX2_readCrop 4 (some .boolean), Cond.fieldLink RX2 92 "NightPlots$Told" "plots" "I", Cond.fieldLink RX2 95 "NightPlots$Told" "crop" "[I", Cond.methodLink RX2 51 yX2_kindHere, Cond.instanceMethod yX2_kindHere, Cond.selects RX2 yX2_kindHere yX2_kindHere, Cond.code yX2_kindHere cX2_kindHere 1 (some .int), Cond.methodLink RX2 55 yX2_readHouse, Cond.instanceMethod yX2_readHouse, Cond.selects RX2 yX2_readHouse yX2_readHouse, Cond.code yX2_readHouse cX2_readHouse 4 (some .boolean), Cond.fieldLink RX2 97 "NightPlots$Told" "houses" "I"]
def wsX2_readInto_r6 : List Cond := [Cond.methodLink RX2 100 yX3_settle, Cond.instanceMethod yX3_settle, Cond.selects RX3 yX3_settle yX3_settle, Cond.code yX3_settle cX3_settle 5 (some .boolean), Cond.fieldLink RX3 15 "NightPlots$Told" "kind" "[I", Cond.fieldLink RX3 18 "NightPlots$Told" "place" "[I", Cond.methodLink RX3 83 yX3_takenAtFirst, Cond.instanceMethod yX3_takenAtFirst, Cond.selects RX3 yX3_takenAtFirst yX3_takenAtFirst, Cond.code yX3_takenAtFirst cX3_takenAtFirst 3 (some .int), Cond.methodLink RX3 79 yX3_ground, Cond.instanceMethod yX3_ground, Cond.selects RX3 yX3_ground yX3_ground, Cond.code yX3_ground cX3_ground 3 (some .int), Cond.methodLink RX3 71 yX3_next, Cond.instanceMethod yX3_next, Cond.selects RX3 yX3_next yX3_next, Cond.code yX3_next cX3_next 2 (some .int), Cond.methodLink RX3 75 yX3_allPlots, Cond.instanceMethod yX3_allPlots, Cond.selects RX3 yX3_allPlots yX3_allPlots, Cond.code yX3_allPlots cX3_allPlots 1 (some .int), Cond.methodLink RX2 61 yX2_readPath, Cond.instanceMethod yX2_readPath]
def wsX2_readInto_r7 : List Cond := [Cond.selects RX2 yX2_readPath yX2_readPath, Cond.code yX2_readPath cX2_readPath 4 (some .boolean), Cond.fieldLink RX2 104 "NightPlots$Told" "paths" "I", Cond.methodLink RX2 107 yX3_addPath, Cond.instanceMethod yX3_addPath, Cond.selects RX3 yX3_addPath yX3_addPath, Cond.code yX3_addPath cX3_addPath 3 (some .boolean), Cond.fieldLink RX3 21 "NightPlots$Told" "pathFrom" "[I", Cond.fieldLink RX3 24 "NightPlots$Told" "pathTo" "[I", Cond.methodLink RX2 66 yX2_readFeud, Cond.instanceMethod yX2_readFeud, Cond.selects RX2 yX2_readFeud yX2_readFeud, Cond.code yX2_readFeud cX2_readFeud 4 (some .boolean), Cond.fieldLink RX2 110 "NightPlots$Told" "feuds" "I", Cond.methodLink RX2 113 yX3_addFeud, Cond.instanceMethod yX3_addFeud, Cond.selects RX3 yX3_addFeud yX3_addFeud, Cond.code yX3_addFeud cX3_addFeud 3 (some .boolean), Cond.fieldLink RX3 27 "NightPlots$Told" "feudOne" "[I", Cond.fieldLink RX3 30 "NightPlots$Told" "feudOther" "[I", Cond.methodLink RX2 71 yX2_readLot, Cond.instanceMethod yX2_readLot, Cond.selects RX2 yX2_readLot yX2_readLot, Cond.code yX2_readLot cX2_readLot 3 (some .boolean)]
def wsX2_readInto_r8 : List Cond := [Cond.fieldLink RX2 116 "NightPlots$Told" "law" "I", Cond.fieldLink RX2 119 "NightPlots$Told" "seed" "I", Cond.methodLink RX2 76 yX3_removeHouses, Cond.methodLink RX2 81 yX2_readPlainLaw, Cond.instanceMethod yX2_readPlainLaw, Cond.selects RX2 yX2_readPlainLaw yX2_readPlainLaw, Cond.code yX2_readPlainLaw cX2_readPlainLaw 3 (some .boolean), Cond.methodLink RX2 122 yX2_plainLawHere, Cond.instanceMethod yX2_plainLawHere, Cond.selects RX2 yX2_plainLawHere yX2_plainLawHere, Cond.code yX2_plainLawHere cX2_plainLawHere 1 (some .int)]
def wsX2_readInto : List Cond := .code yX2_readInto cX2_readInto 2 (some .int) :: ((wsX2_readInto_r1 ++ (wsX2_readInto_r2 ++ (wsX2_readInto_r3 ++ (wsX2_readInto_r4 ++ (wsX2_readInto_r5 ++ (wsX2_readInto_r6 ++ (wsX2_readInto_r7 ++ wsX2_readInto_r8))))))) ++ wsX20 ++ wsX30)
def wsX3_init_r1 : List Cond := [Cond.methodLink RX3 3 objectInit, Cond.instanceMethod objectInit, Cond.code objectInit ⟨#[0xb1]⟩ 1 none, Cond.arrayClass .int, Cond.fieldLink RX3 9 "NightPlots$Told" "crop" "[I", Cond.fieldLink RX3 15 "NightPlots$Told" "kind" "[I", Cond.fieldLink RX3 18 "NightPlots$Told" "place" "[I", Cond.fieldLink RX3 21 "NightPlots$Told" "pathFrom" "[I", Cond.fieldLink RX3 24 "NightPlots$Told" "pathTo" "[I", Cond.fieldLink RX3 27 "NightPlots$Told" "feudOne" "[I", Cond.fieldLink RX3 30 "NightPlots$Told" "feudOther" "[I", Cond.methodLink RX3 33 yX3_layOut, Cond.instanceMethod yX3_layOut, Cond.selects RX3 yX3_layOut yX3_layOut, Cond.initialized RX3, Cond.code yX3_layOut cX3_layOut 2 none, Cond.fieldLink RX3 37 "NightPlots$Told" "plots" "I", Cond.fieldLink RX3 41 "NightPlots$Told" "paths" "I", Cond.fieldLink RX3 44 "NightPlots$Told" "law" "I", Cond.fieldLink RX3 47 "NightPlots$Told" "seed" "I", Cond.methodLink RX3 50 yJ7_fill_53178, Cond.static yJ7_fill_53178, Cond.initialized RJ7, Cond.code yJ7_fill_53178 cJ7_fill_53178 4 none]
def wsX3_init_r2 : List Cond := [Cond.methodLink RX3 56 yX3_removeHouses, Cond.instanceMethod yX3_removeHouses, Cond.selects RX3 yX3_removeHouses yX3_removeHouses, Cond.code yX3_removeHouses cX3_removeHouses 1 none, Cond.fieldLink RX3 59 "NightPlots$Told" "houses" "I", Cond.fieldLink RX3 62 "NightPlots$Told" "feuds" "I"]
def wsX3_init : List Cond := .code yX3_init cX3_init 1 none :: ((wsX3_init_r1 ++ wsX3_init_r2) ++ wsX30)
def wsX3_copyFrom : List Cond := .code yX3_copyFrom cX3_copyFrom 2 none :: ([.fieldLink RX3 37 "NightPlots$Told" "plots" "I", .fieldLink RX3 59 "NightPlots$Told" "houses" "I", .fieldLink RX3 41 "NightPlots$Told" "paths" "I", .fieldLink RX3 62 "NightPlots$Told" "feuds" "I", .fieldLink RX3 44 "NightPlots$Told" "law" "I", .fieldLink RX3 47 "NightPlots$Told" "seed" "I", .fieldLink RX3 9 "NightPlots$Told" "crop" "[I", .methodLink RX3 65 arraycopyName, .native arraycopyName, .static arraycopyName, .initialized "java/lang/System", .fieldLink RX3 15 "NightPlots$Told" "kind" "[I", .fieldLink RX3 18 "NightPlots$Told" "place" "[I", .fieldLink RX3 21 "NightPlots$Told" "pathFrom" "[I", .fieldLink RX3 24 "NightPlots$Told" "pathTo" "[I", .fieldLink RX3 27 "NightPlots$Told" "feudOne" "[I", .fieldLink RX3 30 "NightPlots$Told" "feudOther" "[I"] ++ wsX30)
def wsX3_stuckOnes : List Cond := .code yX3_stuckOnes cX3_stuckOnes 3 (some .int) :: ([.fieldLink RX3 59 "NightPlots$Told" "houses" "I", .fieldLink RX3 15 "NightPlots$Told" "kind" "[I"] ++ wsX30)
def wsX4_init_r1 : List Cond := [Cond.methodLink RX4 3 objectInit, Cond.instanceMethod objectInit, Cond.code objectInit ⟨#[0xb1]⟩ 1 none, Cond.classLink RX4 9 RX3, Cond.instantiable RX3 13, Cond.initialized RX3, Cond.fieldLink RX4 12 "NightPlots" "told" "LNightPlots$Told;", Cond.fieldLink RX4 16 "NightPlots" "draft" "LNightPlots$Told;", Cond.classLink RX4 19 RX2, Cond.instantiable RX2 5, Cond.initialized RX2, Cond.fieldLink RX4 22 "NightPlots" "text" "LNightPlots$Text;", Cond.classLink RX4 26 RX1, Cond.instantiable RX1 9, Cond.initialized RX1, Cond.fieldLink RX4 31 "NightPlots" "now" "LNightPlots$Standing;", Cond.fieldLink RX4 35 "NightPlots" "ahead" "LNightPlots$Standing;", Cond.fieldLink RX4 38 "NightPlots" "kept" "[LNightPlots$Standing;", Cond.arrayClass .boolean, Cond.fieldLink RX4 42 "NightPlots" "isKept" "[Z", Cond.classLink RX4 46 RX0, Cond.instantiable RX0 6, Cond.initialized RX0, Cond.fieldLink RX4 51 "NightPlots" "search" "LNightPlots$Search;"]
def wsX4_init_r2 : List Cond := [Cond.arrayClass .int, Cond.fieldLink RX4 55 "NightPlots" "ways" "[I", Cond.arrayClass .long, Cond.fieldLink RX4 59 "NightPlots" "passed" "[J", Cond.fieldLink RX4 63 "NightPlots" "seenHouse" "[I", Cond.fieldLink RX4 66 "NightPlots" "seenPlot" "[I", Cond.fieldLink RX4 69 "NightPlots" "seenNight" "[I", Cond.methodLink RX4 11 yX3_init, Cond.instanceMethod yX3_init, Cond.code yX3_init cX3_init 1 none, Cond.methodLink RX3 3 objectInit, Cond.fieldLink RX3 9 "NightPlots$Told" "crop" "[I", Cond.fieldLink RX3 15 "NightPlots$Told" "kind" "[I", Cond.fieldLink RX3 18 "NightPlots$Told" "place" "[I", Cond.fieldLink RX3 21 "NightPlots$Told" "pathFrom" "[I", Cond.fieldLink RX3 24 "NightPlots$Told" "pathTo" "[I", Cond.fieldLink RX3 27 "NightPlots$Told" "feudOne" "[I", Cond.fieldLink RX3 30 "NightPlots$Told" "feudOther" "[I", Cond.methodLink RX3 33 yX3_layOut, Cond.instanceMethod yX3_layOut, Cond.selects RX3 yX3_layOut yX3_layOut, Cond.code yX3_layOut cX3_layOut 2 none, Cond.fieldLink RX3 37 "NightPlots$Told" "plots" "I", Cond.fieldLink RX3 41 "NightPlots$Told" "paths" "I"]
def wsX4_init_r3 : List Cond := [Cond.fieldLink RX3 44 "NightPlots$Told" "law" "I", Cond.fieldLink RX3 47 "NightPlots$Told" "seed" "I", Cond.methodLink RX3 50 yJ7_fill_53178, Cond.static yJ7_fill_53178, Cond.initialized RJ7, Cond.code yJ7_fill_53178 cJ7_fill_53178 4 none, Cond.methodLink RX3 56 yX3_removeHouses, Cond.instanceMethod yX3_removeHouses, Cond.selects RX3 yX3_removeHouses yX3_removeHouses, Cond.code yX3_removeHouses cX3_removeHouses 1 none, Cond.fieldLink RX3 59 "NightPlots$Told" "houses" "I", Cond.fieldLink RX3 62 "NightPlots$Told" "feuds" "I", Cond.instanceMethod yX2_init, Cond.code yX2_init cX2_init 1 none, Cond.methodLink RX2 3 objectInit, Cond.fieldLink RX2 9 "NightPlots$Text" "bytes" "[I", Cond.methodLink RX4 28 yX1_init, Cond.instanceMethod yX1_init, Cond.code yX1_init cX1_init 2 none, Cond.methodLink RX1 3 objectInit, Cond.fieldLink RX1 9 "NightPlots$Standing" "place" "[I", Cond.fieldLink RX1 15 "NightPlots$Standing" "rolled" "[I", Cond.fieldLink RX1 18 "NightPlots$Standing" "ways" "[I", Cond.fieldLink RX1 21 "NightPlots$Standing" "told" "LNightPlots$Told;"]
def wsX4_init_r4 : List Cond := [Cond.methodLink RX1 25 yX1_startAsTold, Cond.instanceMethod yX1_startAsTold, Cond.selects RX1 yX1_startAsTold yX1_startAsTold, Cond.code yX1_startAsTold cX1_startAsTold 1 none, Cond.fieldLink RX1 28 "NightPlots$Told" "place" "[I", Cond.methodLink RX1 31 arraycopyName, Cond.native arraycopyName, Cond.static arraycopyName, Cond.initialized "java/lang/System", Cond.fieldLink RX1 47 "NightPlots$Standing" "taken" "I", Cond.fieldLink RX1 51 "NightPlots$Standing" "nights" "I", Cond.fieldLink RX1 54 "NightPlots$Standing" "turn" "I", Cond.fieldLink RX1 57 "NightPlots$Told" "seed" "I", Cond.fieldLink RX1 60 "NightPlots$Standing" "x" "I", Cond.fieldLink RX1 63 "NightPlots$Standing" "mended" "I", Cond.methodLink RX1 37 yJ7_fill_53178, Cond.methodLink RX1 43 yX3_takenAtFirst, Cond.instanceMethod yX3_takenAtFirst, Cond.selects RX3 yX3_takenAtFirst yX3_takenAtFirst, Cond.code yX3_takenAtFirst cX3_takenAtFirst 3 (some .int), Cond.methodLink RX3 79 yX3_ground, Cond.instanceMethod yX3_ground, Cond.selects RX3 yX3_ground yX3_ground, Cond.code yX3_ground cX3_ground 3 (some .int)]
def wsX4_init_r5 : List Cond := [Cond.methodLink RX3 71 yX3_next, Cond.instanceMethod yX3_next, Cond.selects RX3 yX3_next yX3_next, Cond.code yX3_next cX3_next 2 (some .int), Cond.methodLink RX4 48 yX0_init, Cond.instanceMethod yX0_init, Cond.code yX0_init cX0_init 2 none, Cond.methodLink RX0 3 objectInit, Cond.classLink RX0 9 "[[I", Cond.fieldLink RX0 11 "NightPlots$Search" "ways" "[[I", Cond.fieldLink RX0 16 "NightPlots$Search" "deadEnds" "[J", Cond.fieldLink RX0 20 "NightPlots$Search" "standing" "LNightPlots$Standing;"]
def wsX4_init : List Cond := .code yX4_init cX4_init 2 none :: ((wsX4_init_r1 ++ (wsX4_init_r2 ++ (wsX4_init_r3 ++ (wsX4_init_r4 ++ wsX4_init_r5)))) ++ wsX30 ++ wsX40 ++ wsX20 ++ wsX10 ++ wsX00)
def wsX4_write : List Cond := .code yX4_write cX4_write 4 (some .int) :: ([.fieldLink RX4 22 "NightPlots" "text" "LNightPlots$Text;", .fieldLink RX4 76 "NightPlots$Text" "length" "I", .methodLink RX4 72 yX2_append, .instanceMethod yX2_append, .selects RX2 yX2_append yX2_append, .initialized RX2, .code yX2_append cX2_append 5 (some .boolean), .fieldLink RX2 15 "NightPlots$Text" "length" "I", .fieldLink RX2 9 "NightPlots$Text" "bytes" "[I", .constantLong RX2 19 (255)] ++ wsX40 ++ wsX20)
def wsX4_erase : List Cond := .code yX4_erase cX4_erase 2 (some .int) :: ([.fieldLink RX4 22 "NightPlots" "text" "LNightPlots$Text;", .fieldLink RX4 76 "NightPlots$Text" "length" "I"] ++ wsX40 ++ wsX20)
def wsX4_fault_r1 : List Cond := [Cond.fieldLink RX4 16 "NightPlots" "draft" "LNightPlots$Told;", Cond.fieldLink RX4 12 "NightPlots" "told" "LNightPlots$Told;", Cond.fieldLink RX4 22 "NightPlots" "text" "LNightPlots$Text;", Cond.methodLink RX4 80 yX3_copyFrom, Cond.instanceMethod yX3_copyFrom, Cond.selects RX3 yX3_copyFrom yX3_copyFrom, Cond.initialized RX3, Cond.code yX3_copyFrom cX3_copyFrom 2 none, Cond.fieldLink RX3 37 "NightPlots$Told" "plots" "I", Cond.fieldLink RX3 59 "NightPlots$Told" "houses" "I", Cond.fieldLink RX3 41 "NightPlots$Told" "paths" "I", Cond.fieldLink RX3 62 "NightPlots$Told" "feuds" "I", Cond.fieldLink RX3 44 "NightPlots$Told" "law" "I", Cond.fieldLink RX3 47 "NightPlots$Told" "seed" "I", Cond.fieldLink RX3 9 "NightPlots$Told" "crop" "[I", Cond.methodLink RX3 65 arraycopyName, Cond.native arraycopyName, Cond.static arraycopyName, Cond.initialized "java/lang/System", Cond.fieldLink RX3 15 "NightPlots$Told" "kind" "[I", Cond.fieldLink RX3 18 "NightPlots$Told" "place" "[I", Cond.fieldLink RX3 21 "NightPlots$Told" "pathFrom" "[I", Cond.fieldLink RX3 24 "NightPlots$Told" "pathTo" "[I", Cond.fieldLink RX3 27 "NightPlots$Told" "feudOne" "[I"]
def wsX4_fault_r2 : List Cond := [Cond.fieldLink RX3 30 "NightPlots$Told" "feudOther" "[I", Cond.methodLink RX4 83 yX2_readInto, Cond.instanceMethod yX2_readInto, Cond.selects RX2 yX2_readInto yX2_readInto, Cond.initialized RX2, Cond.code yX2_readInto cX2_readInto 2 (some .int), Cond.fieldLink RX2 21 "NightPlots$Text" "tokenEnd" "I", Cond.fieldLink RX2 24 "NightPlots$Text" "lines" "I", Cond.fieldLink RX2 34 "NightPlots$Text" "tokenBegin" "I", Cond.fieldLink RX2 15 "NightPlots$Text" "length" "I", Cond.fieldLink RX2 9 "NightPlots$Text" "bytes" "[I", Cond.methodLink RX2 27 yX2_stepToToken, Cond.instanceMethod yX2_stepToToken, Cond.selects RX2 yX2_stepToToken yX2_stepToToken, Cond.code yX2_stepToToken cX2_stepToToken 2 none, Cond.methodLink RX2 139 yX2_goesOn, Cond.instanceMethod yX2_goesOn, Cond.selects RX2 yX2_goesOn yX2_goesOn, Cond.code yX2_goesOn cX2_goesOn 3 (some .boolean), Cond.methodLink RX2 143 yX2_isLetter, Cond.static yX2_isLetter, Cond.code yX2_isLetter cX2_isLetter 1 (some .boolean), Cond.methodLink RX2 146 yX2_isDigit, Cond.static yX2_isDigit]
def wsX4_fault_r3 : List Cond := [Cond.code yX2_isDigit cX2_isDigit 1 (some .boolean), Cond.methodLink RX2 30 yX2_readLine, Cond.instanceMethod yX2_readLine, Cond.selects RX2 yX2_readLine yX2_readLine, Cond.code yX2_readLine cX2_readLine 3 (some .boolean), Cond.methodLink RX2 39 yX2_isWord, Cond.instanceMethod yX2_isWord, Cond.selects RX2 yX2_isWord yX2_isWord, Cond.code yX2_isWord cX2_isWord 3 (some .boolean), Cond.methodLink RX2 149 yJ0_length_8abf5, Cond.instanceMethod yJ0_length_8abf5, Cond.selects RJ0 yJ0_length_8abf5 yJ0_length_8abf5, Cond.initialized RJ0, Cond.code yJ0_length_8abf5 cJ0_length_8abf5 1 (some .int), Cond.fieldLink RJ0 9 "java/lang/String" "value" "[B", Cond.methodLink RJ0 335 yJ0_coder_7d493, Cond.instanceMethod yJ0_coder_7d493, Cond.selects RJ0 yJ0_coder_7d493 yJ0_coder_7d493, Cond.code yJ0_coder_7d493 cJ0_coder_7d493 1 (some .byte), Cond.fieldLink RJ0 38 "java/lang/String" "COMPACT_STRINGS" "Z", Cond.fieldLink RJ0 15 "java/lang/String" "coder" "B", Cond.methodLink RX2 153 yJ0_charAt_5068e, Cond.instanceMethod yJ0_charAt_5068e, Cond.selects RJ0 yJ0_charAt_5068e yJ0_charAt_5068e]
def wsX4_fault_r4 : List Cond := [Cond.code yJ0_charAt_5068e cJ0_charAt_5068e 2 (some .char), Cond.methodLink RJ0 492 yJ0_isLatin1_aae02, Cond.instanceMethod yJ0_isLatin1_aae02, Cond.selects RJ0 yJ0_isLatin1_aae02 yJ0_isLatin1_aae02, Cond.code yJ0_isLatin1_aae02 cJ0_isLatin1_aae02 1 (some .boolean), Cond.methodLink RJ0 495 yJ1_charAt_3b067, Cond.static yJ1_charAt_3b067, Cond.initialized RJ1, Cond.code yJ1_charAt_3b067 cJ1_charAt_3b067 2 (some .char), Cond.methodLink RJ1 9 yJ0_checkIndex_df160, Cond.static yJ0_checkIndex_df160, Cond.code yJ0_checkIndex_df160 cJ0_checkIndex_df160 2 none, Cond.fieldLink RJ0 1053 "jdk/internal/util/Preconditions" "SIOOBE_FORMATTER" "Ljava/util/function/BiFunction;", Cond.methodLink RJ0 1059 yJ3_checkIndex_8e157, Cond.static yJ3_checkIndex_8e157, Cond.initialized RJ3, Cond.code yJ3_checkIndex_8e157 cJ3_checkIndex_8e157 3 (some .int), Cond.methodLink RJ0 498 yJ2_charAt_3b067, Cond.static yJ2_charAt_3b067, Cond.initialized RJ2, Cond.code yJ2_charAt_3b067 cJ2_charAt_3b067 2 (some .char), Cond.methodLink RJ2 67 yJ2_checkIndex_2214a, Cond.static yJ2_checkIndex_2214a, Cond.code yJ2_checkIndex_2214a cJ2_checkIndex_2214a 2 none]
def wsX4_fault_r5 : List Cond := [Cond.methodLink RJ2 48 yJ2_length_9d52b, Cond.static yJ2_length_9d52b, Cond.code yJ2_length_9d52b cJ2_length_9d52b 1 (some .int), Cond.methodLink RJ2 414 yJ0_checkIndex_df160, Cond.methodLink RJ2 71 yJ2_getChar_3b067, Cond.static yJ2_getChar_3b067, Cond.code yJ2_getChar_3b067 cJ2_getChar_3b067 2 (some .char), Cond.fieldLink RJ2 44 "java/lang/StringUTF16" "$assertionsDisabled" "Z", Cond.fieldLink RJ2 59 "java/lang/StringUTF16" "HI_BYTE_SHIFT" "I", Cond.fieldLink RJ2 63 "java/lang/StringUTF16" "LO_BYTE_SHIFT" "I", Cond.methodLink RX2 43 yX2_readGreen, Cond.instanceMethod yX2_readGreen, Cond.selects RX2 yX2_readGreen yX2_readGreen, Cond.code yX2_readGreen cX2_readGreen 3 (some .boolean), Cond.methodLink RX2 84 yX2_readNumber, Cond.instanceMethod yX2_readNumber, Cond.selects RX2 yX2_readNumber yX2_readNumber, Cond.code yX2_readNumber cX2_readNumber 7 (some .int), Cond.methodLink RX2 88 yX3_layOut, Cond.instanceMethod yX3_layOut, Cond.selects RX3 yX3_layOut yX3_layOut, Cond.code yX3_layOut cX3_layOut 2 none, Cond.methodLink RX3 50 yJ7_fill_53178, Cond.static yJ7_fill_53178]
def wsX4_fault_r6 : List Cond := [Cond.initialized RJ7, Cond.code yJ7_fill_53178 cJ7_fill_53178 4 none, Cond.methodLink RX3 56 yX3_removeHouses, Cond.instanceMethod yX3_removeHouses, Cond.selects RX3 yX3_removeHouses yX3_removeHouses, Cond.code yX3_removeHouses cX3_removeHouses 1 none, Cond.methodLink RX2 48 yX2_readCrop, Cond.instanceMethod yX2_readCrop, Cond.selects RX2 yX2_readCrop yX2_readCrop, Cond.code yX2_readCrop cX2_readCrop 4 (some .boolean), Cond.fieldLink RX2 92 "NightPlots$Told" "plots" "I", Cond.fieldLink RX2 95 "NightPlots$Told" "crop" "[I", Cond.methodLink RX2 51 yX2_kindHere, Cond.instanceMethod yX2_kindHere, Cond.selects RX2 yX2_kindHere yX2_kindHere, Cond.code yX2_kindHere cX2_kindHere 1 (some .int), Cond.methodLink RX2 55 yX2_readHouse, Cond.instanceMethod yX2_readHouse, Cond.selects RX2 yX2_readHouse yX2_readHouse, Cond.code yX2_readHouse cX2_readHouse 4 (some .boolean), Cond.fieldLink RX2 97 "NightPlots$Told" "houses" "I", Cond.methodLink RX2 100 yX3_settle, Cond.instanceMethod yX3_settle, Cond.selects RX3 yX3_settle yX3_settle]
def wsX4_fault_r7 : List Cond := [Cond.code yX3_settle cX3_settle 5 (some .boolean), Cond.methodLink RX3 83 yX3_takenAtFirst, Cond.instanceMethod yX3_takenAtFirst, Cond.selects RX3 yX3_takenAtFirst yX3_takenAtFirst, Cond.code yX3_takenAtFirst cX3_takenAtFirst 3 (some .int), Cond.methodLink RX3 79 yX3_ground, Cond.instanceMethod yX3_ground, Cond.selects RX3 yX3_ground yX3_ground, Cond.code yX3_ground cX3_ground 3 (some .int), Cond.methodLink RX3 71 yX3_next, Cond.instanceMethod yX3_next, Cond.selects RX3 yX3_next yX3_next, Cond.code yX3_next cX3_next 2 (some .int), Cond.methodLink RX3 75 yX3_allPlots, Cond.instanceMethod yX3_allPlots, Cond.selects RX3 yX3_allPlots yX3_allPlots, Cond.code yX3_allPlots cX3_allPlots 1 (some .int), Cond.methodLink RX2 61 yX2_readPath, Cond.instanceMethod yX2_readPath, Cond.selects RX2 yX2_readPath yX2_readPath, Cond.code yX2_readPath cX2_readPath 4 (some .boolean), Cond.fieldLink RX2 104 "NightPlots$Told" "paths" "I", Cond.methodLink RX2 107 yX3_addPath, Cond.instanceMethod yX3_addPath]
def wsX4_fault_r8 : List Cond := [Cond.selects RX3 yX3_addPath yX3_addPath, Cond.code yX3_addPath cX3_addPath 3 (some .boolean), Cond.methodLink RX2 66 yX2_readFeud, Cond.instanceMethod yX2_readFeud, Cond.selects RX2 yX2_readFeud yX2_readFeud, Cond.code yX2_readFeud cX2_readFeud 4 (some .boolean), Cond.fieldLink RX2 110 "NightPlots$Told" "feuds" "I", Cond.methodLink RX2 113 yX3_addFeud, Cond.instanceMethod yX3_addFeud, Cond.selects RX3 yX3_addFeud yX3_addFeud, Cond.code yX3_addFeud cX3_addFeud 3 (some .boolean), Cond.methodLink RX2 71 yX2_readLot, Cond.instanceMethod yX2_readLot, Cond.selects RX2 yX2_readLot yX2_readLot, Cond.code yX2_readLot cX2_readLot 3 (some .boolean), Cond.fieldLink RX2 116 "NightPlots$Told" "law" "I", Cond.fieldLink RX2 119 "NightPlots$Told" "seed" "I", Cond.methodLink RX2 76 yX3_removeHouses, Cond.methodLink RX2 81 yX2_readPlainLaw, Cond.instanceMethod yX2_readPlainLaw, Cond.selects RX2 yX2_readPlainLaw yX2_readPlainLaw, Cond.code yX2_readPlainLaw cX2_readPlainLaw 3 (some .boolean), Cond.methodLink RX2 122 yX2_plainLawHere, Cond.instanceMethod yX2_plainLawHere]
def wsX4_fault_r9 : List Cond := [Cond.selects RX2 yX2_plainLawHere yX2_plainLawHere, Cond.code yX2_plainLawHere cX2_plainLawHere 1 (some .int)]
def wsX4_fault : List Cond := .code yX4_fault cX4_fault 1 (some .int) :: ((wsX4_fault_r1 ++ (wsX4_fault_r2 ++ (wsX4_fault_r3 ++ (wsX4_fault_r4 ++ (wsX4_fault_r5 ++ (wsX4_fault_r6 ++ (wsX4_fault_r7 ++ (wsX4_fault_r8 ++ wsX4_fault_r9)))))))) ++ wsX40 ++ wsX30 ++ wsX20)
def wsX4_green_r1 : List Cond := [Cond.fieldLink RX4 16 "NightPlots" "draft" "LNightPlots$Told;", Cond.fieldLink RX4 12 "NightPlots" "told" "LNightPlots$Told;", Cond.fieldLink RX4 22 "NightPlots" "text" "LNightPlots$Text;", Cond.fieldLink RX4 76 "NightPlots$Text" "length" "I", Cond.fieldLink RX4 31 "NightPlots" "now" "LNightPlots$Standing;", Cond.fieldLink RX4 90 "NightPlots" "seenSoFar" "I", Cond.fieldLink RX4 42 "NightPlots" "isKept" "[Z", Cond.fieldLink RX4 93 "NightPlots$Text" "lines" "I", Cond.methodLink RX4 80 yX3_copyFrom, Cond.instanceMethod yX3_copyFrom, Cond.selects RX3 yX3_copyFrom yX3_copyFrom, Cond.initialized RX3, Cond.code yX3_copyFrom cX3_copyFrom 2 none, Cond.fieldLink RX3 37 "NightPlots$Told" "plots" "I", Cond.fieldLink RX3 59 "NightPlots$Told" "houses" "I", Cond.fieldLink RX3 41 "NightPlots$Told" "paths" "I", Cond.fieldLink RX3 62 "NightPlots$Told" "feuds" "I", Cond.fieldLink RX3 44 "NightPlots$Told" "law" "I", Cond.fieldLink RX3 47 "NightPlots$Told" "seed" "I", Cond.fieldLink RX3 9 "NightPlots$Told" "crop" "[I", Cond.methodLink RX3 65 arraycopyName, Cond.native arraycopyName, Cond.static arraycopyName, Cond.initialized "java/lang/System"]
def wsX4_green_r2 : List Cond := [Cond.fieldLink RX3 15 "NightPlots$Told" "kind" "[I", Cond.fieldLink RX3 18 "NightPlots$Told" "place" "[I", Cond.fieldLink RX3 21 "NightPlots$Told" "pathFrom" "[I", Cond.fieldLink RX3 24 "NightPlots$Told" "pathTo" "[I", Cond.fieldLink RX3 27 "NightPlots$Told" "feudOne" "[I", Cond.fieldLink RX3 30 "NightPlots$Told" "feudOther" "[I", Cond.methodLink RX4 83 yX2_readInto, Cond.instanceMethod yX2_readInto, Cond.selects RX2 yX2_readInto yX2_readInto, Cond.initialized RX2, Cond.code yX2_readInto cX2_readInto 2 (some .int), Cond.fieldLink RX2 21 "NightPlots$Text" "tokenEnd" "I", Cond.fieldLink RX2 24 "NightPlots$Text" "lines" "I", Cond.fieldLink RX2 34 "NightPlots$Text" "tokenBegin" "I", Cond.fieldLink RX2 15 "NightPlots$Text" "length" "I", Cond.fieldLink RX2 9 "NightPlots$Text" "bytes" "[I", Cond.methodLink RX2 27 yX2_stepToToken, Cond.instanceMethod yX2_stepToToken, Cond.selects RX2 yX2_stepToToken yX2_stepToToken, Cond.code yX2_stepToToken cX2_stepToToken 2 none, Cond.methodLink RX2 139 yX2_goesOn, Cond.instanceMethod yX2_goesOn, Cond.selects RX2 yX2_goesOn yX2_goesOn, Cond.code yX2_goesOn cX2_goesOn 3 (some .boolean)]
def wsX4_green_r3 : List Cond := [Cond.methodLink RX2 143 yX2_isLetter, Cond.static yX2_isLetter, Cond.code yX2_isLetter cX2_isLetter 1 (some .boolean), Cond.methodLink RX2 146 yX2_isDigit, Cond.static yX2_isDigit, Cond.code yX2_isDigit cX2_isDigit 1 (some .boolean), Cond.methodLink RX2 30 yX2_readLine, Cond.instanceMethod yX2_readLine, Cond.selects RX2 yX2_readLine yX2_readLine, Cond.code yX2_readLine cX2_readLine 3 (some .boolean), Cond.methodLink RX2 39 yX2_isWord, Cond.instanceMethod yX2_isWord, Cond.selects RX2 yX2_isWord yX2_isWord, Cond.code yX2_isWord cX2_isWord 3 (some .boolean), Cond.methodLink RX2 149 yJ0_length_8abf5, Cond.instanceMethod yJ0_length_8abf5, Cond.selects RJ0 yJ0_length_8abf5 yJ0_length_8abf5, Cond.initialized RJ0, Cond.code yJ0_length_8abf5 cJ0_length_8abf5 1 (some .int), Cond.fieldLink RJ0 9 "java/lang/String" "value" "[B", Cond.methodLink RJ0 335 yJ0_coder_7d493, Cond.instanceMethod yJ0_coder_7d493, Cond.selects RJ0 yJ0_coder_7d493 yJ0_coder_7d493, Cond.code yJ0_coder_7d493 cJ0_coder_7d493 1 (some .byte)]
def wsX4_green_r4 : List Cond := [Cond.fieldLink RJ0 38 "java/lang/String" "COMPACT_STRINGS" "Z", Cond.fieldLink RJ0 15 "java/lang/String" "coder" "B", Cond.methodLink RX2 153 yJ0_charAt_5068e, Cond.instanceMethod yJ0_charAt_5068e, Cond.selects RJ0 yJ0_charAt_5068e yJ0_charAt_5068e, Cond.code yJ0_charAt_5068e cJ0_charAt_5068e 2 (some .char), Cond.methodLink RJ0 492 yJ0_isLatin1_aae02, Cond.instanceMethod yJ0_isLatin1_aae02, Cond.selects RJ0 yJ0_isLatin1_aae02 yJ0_isLatin1_aae02, Cond.code yJ0_isLatin1_aae02 cJ0_isLatin1_aae02 1 (some .boolean), Cond.methodLink RJ0 495 yJ1_charAt_3b067, Cond.static yJ1_charAt_3b067, Cond.initialized RJ1, Cond.code yJ1_charAt_3b067 cJ1_charAt_3b067 2 (some .char), Cond.methodLink RJ1 9 yJ0_checkIndex_df160, Cond.static yJ0_checkIndex_df160, Cond.code yJ0_checkIndex_df160 cJ0_checkIndex_df160 2 none, Cond.fieldLink RJ0 1053 "jdk/internal/util/Preconditions" "SIOOBE_FORMATTER" "Ljava/util/function/BiFunction;", Cond.methodLink RJ0 1059 yJ3_checkIndex_8e157, Cond.static yJ3_checkIndex_8e157, Cond.initialized RJ3, Cond.code yJ3_checkIndex_8e157 cJ3_checkIndex_8e157 3 (some .int), Cond.methodLink RJ0 498 yJ2_charAt_3b067, Cond.static yJ2_charAt_3b067]
def wsX4_green_r5 : List Cond := [Cond.initialized RJ2, Cond.code yJ2_charAt_3b067 cJ2_charAt_3b067 2 (some .char), Cond.methodLink RJ2 67 yJ2_checkIndex_2214a, Cond.static yJ2_checkIndex_2214a, Cond.code yJ2_checkIndex_2214a cJ2_checkIndex_2214a 2 none, Cond.methodLink RJ2 48 yJ2_length_9d52b, Cond.static yJ2_length_9d52b, Cond.code yJ2_length_9d52b cJ2_length_9d52b 1 (some .int), Cond.methodLink RJ2 414 yJ0_checkIndex_df160, Cond.methodLink RJ2 71 yJ2_getChar_3b067, Cond.static yJ2_getChar_3b067, Cond.code yJ2_getChar_3b067 cJ2_getChar_3b067 2 (some .char), Cond.fieldLink RJ2 44 "java/lang/StringUTF16" "$assertionsDisabled" "Z", Cond.fieldLink RJ2 59 "java/lang/StringUTF16" "HI_BYTE_SHIFT" "I", Cond.fieldLink RJ2 63 "java/lang/StringUTF16" "LO_BYTE_SHIFT" "I", Cond.methodLink RX2 43 yX2_readGreen, Cond.instanceMethod yX2_readGreen, Cond.selects RX2 yX2_readGreen yX2_readGreen, Cond.code yX2_readGreen cX2_readGreen 3 (some .boolean), Cond.methodLink RX2 84 yX2_readNumber, Cond.instanceMethod yX2_readNumber, Cond.selects RX2 yX2_readNumber yX2_readNumber, Cond.code yX2_readNumber cX2_readNumber 7 (some .int), Cond.methodLink RX2 88 yX3_layOut]
def wsX4_green_r6 : List Cond := [Cond.instanceMethod yX3_layOut, Cond.selects RX3 yX3_layOut yX3_layOut, Cond.code yX3_layOut cX3_layOut 2 none, Cond.methodLink RX3 50 yJ7_fill_53178, Cond.static yJ7_fill_53178, Cond.initialized RJ7, Cond.code yJ7_fill_53178 cJ7_fill_53178 4 none, Cond.methodLink RX3 56 yX3_removeHouses, Cond.instanceMethod yX3_removeHouses, Cond.selects RX3 yX3_removeHouses yX3_removeHouses, Cond.code yX3_removeHouses cX3_removeHouses 1 none, Cond.methodLink RX2 48 yX2_readCrop, Cond.instanceMethod yX2_readCrop, Cond.selects RX2 yX2_readCrop yX2_readCrop, Cond.code yX2_readCrop cX2_readCrop 4 (some .boolean), Cond.fieldLink RX2 92 "NightPlots$Told" "plots" "I", Cond.fieldLink RX2 95 "NightPlots$Told" "crop" "[I", Cond.methodLink RX2 51 yX2_kindHere, Cond.instanceMethod yX2_kindHere, Cond.selects RX2 yX2_kindHere yX2_kindHere, Cond.code yX2_kindHere cX2_kindHere 1 (some .int), Cond.methodLink RX2 55 yX2_readHouse, Cond.instanceMethod yX2_readHouse, Cond.selects RX2 yX2_readHouse yX2_readHouse]
def wsX4_green_r7 : List Cond := [Cond.code yX2_readHouse cX2_readHouse 4 (some .boolean), Cond.fieldLink RX2 97 "NightPlots$Told" "houses" "I", Cond.methodLink RX2 100 yX3_settle, Cond.instanceMethod yX3_settle, Cond.selects RX3 yX3_settle yX3_settle, Cond.code yX3_settle cX3_settle 5 (some .boolean), Cond.methodLink RX3 83 yX3_takenAtFirst, Cond.instanceMethod yX3_takenAtFirst, Cond.selects RX3 yX3_takenAtFirst yX3_takenAtFirst, Cond.code yX3_takenAtFirst cX3_takenAtFirst 3 (some .int), Cond.methodLink RX3 79 yX3_ground, Cond.instanceMethod yX3_ground, Cond.selects RX3 yX3_ground yX3_ground, Cond.code yX3_ground cX3_ground 3 (some .int), Cond.methodLink RX3 71 yX3_next, Cond.instanceMethod yX3_next, Cond.selects RX3 yX3_next yX3_next, Cond.code yX3_next cX3_next 2 (some .int), Cond.methodLink RX3 75 yX3_allPlots, Cond.instanceMethod yX3_allPlots, Cond.selects RX3 yX3_allPlots yX3_allPlots, Cond.code yX3_allPlots cX3_allPlots 1 (some .int), Cond.methodLink RX2 61 yX2_readPath, Cond.instanceMethod yX2_readPath]
def wsX4_green_r8 : List Cond := [Cond.selects RX2 yX2_readPath yX2_readPath, Cond.code yX2_readPath cX2_readPath 4 (some .boolean), Cond.fieldLink RX2 104 "NightPlots$Told" "paths" "I", Cond.methodLink RX2 107 yX3_addPath, Cond.instanceMethod yX3_addPath, Cond.selects RX3 yX3_addPath yX3_addPath, Cond.code yX3_addPath cX3_addPath 3 (some .boolean), Cond.methodLink RX2 66 yX2_readFeud, Cond.instanceMethod yX2_readFeud, Cond.selects RX2 yX2_readFeud yX2_readFeud, Cond.code yX2_readFeud cX2_readFeud 4 (some .boolean), Cond.fieldLink RX2 110 "NightPlots$Told" "feuds" "I", Cond.methodLink RX2 113 yX3_addFeud, Cond.instanceMethod yX3_addFeud, Cond.selects RX3 yX3_addFeud yX3_addFeud, Cond.code yX3_addFeud cX3_addFeud 3 (some .boolean), Cond.methodLink RX2 71 yX2_readLot, Cond.instanceMethod yX2_readLot, Cond.selects RX2 yX2_readLot yX2_readLot, Cond.code yX2_readLot cX2_readLot 3 (some .boolean), Cond.fieldLink RX2 116 "NightPlots$Told" "law" "I", Cond.fieldLink RX2 119 "NightPlots$Told" "seed" "I", Cond.methodLink RX2 76 yX3_removeHouses, Cond.methodLink RX2 81 yX2_readPlainLaw]
def wsX4_green_r9 : List Cond := [Cond.instanceMethod yX2_readPlainLaw, Cond.selects RX2 yX2_readPlainLaw yX2_readPlainLaw, Cond.code yX2_readPlainLaw cX2_readPlainLaw 3 (some .boolean), Cond.methodLink RX2 122 yX2_plainLawHere, Cond.instanceMethod yX2_plainLawHere, Cond.selects RX2 yX2_plainLawHere yX2_plainLawHere, Cond.code yX2_plainLawHere cX2_plainLawHere 1 (some .int), Cond.methodLink RX4 87 yX1_startAsTold, Cond.instanceMethod yX1_startAsTold, Cond.selects RX1 yX1_startAsTold yX1_startAsTold, Cond.initialized RX1, Cond.code yX1_startAsTold cX1_startAsTold 1 none, Cond.fieldLink RX1 21 "NightPlots$Standing" "told" "LNightPlots$Told;", Cond.fieldLink RX1 28 "NightPlots$Told" "place" "[I", Cond.fieldLink RX1 9 "NightPlots$Standing" "place" "[I", Cond.methodLink RX1 31 arraycopyName, Cond.fieldLink RX1 15 "NightPlots$Standing" "rolled" "[I", Cond.fieldLink RX1 47 "NightPlots$Standing" "taken" "I", Cond.fieldLink RX1 51 "NightPlots$Standing" "nights" "I", Cond.fieldLink RX1 54 "NightPlots$Standing" "turn" "I", Cond.fieldLink RX1 57 "NightPlots$Told" "seed" "I", Cond.fieldLink RX1 60 "NightPlots$Standing" "x" "I", Cond.fieldLink RX1 63 "NightPlots$Standing" "mended" "I", Cond.methodLink RX1 37 yJ7_fill_53178]
def wsX4_green_r10 : List Cond := [Cond.methodLink RX1 43 yX3_takenAtFirst]
def wsX4_green : List Cond := .code yX4_green cX4_green 2 (some .int) :: ((wsX4_green_r1 ++ (wsX4_green_r2 ++ (wsX4_green_r3 ++ (wsX4_green_r4 ++ (wsX4_green_r5 ++ (wsX4_green_r6 ++ (wsX4_green_r7 ++ (wsX4_green_r8 ++ (wsX4_green_r9 ++ wsX4_green_r10))))))))) ++ wsX40 ++ wsX20 ++ wsX30 ++ wsX10)
def wsX4_isPlot : List Cond := .code yX4_isPlot cX4_isPlot 2 (some .boolean) :: ([.fieldLink RX4 12 "NightPlots" "told" "LNightPlots$Told;", .fieldLink RX4 204 "NightPlots$Told" "plots" "I"] ++ wsX40 ++ wsX30)
def wsX4_plot_r1 : List Cond := [Cond.fieldLink RX4 31 "NightPlots" "now" "LNightPlots$Standing;", Cond.fieldLink RX4 12 "NightPlots" "told" "LNightPlots$Told;", Cond.fieldLink RX4 104 "NightPlots$Told" "crop" "[I", Cond.methodLink RX4 96 yX4_isPlot, Cond.instanceMethod yX4_isPlot, Cond.selects RX4 yX4_isPlot yX4_isPlot, Cond.initialized RX4, Cond.code yX4_isPlot cX4_isPlot 2 (some .boolean), Cond.fieldLink RX4 204 "NightPlots$Told" "plots" "I", Cond.methodLink RX4 100 yX1_houseOn, Cond.instanceMethod yX1_houseOn, Cond.selects RX1 yX1_houseOn yX1_houseOn, Cond.initialized RX1, Cond.code yX1_houseOn cX1_houseOn 3 (some .int), Cond.fieldLink RX1 21 "NightPlots$Standing" "told" "LNightPlots$Told;", Cond.fieldLink RX1 73 "NightPlots$Told" "houses" "I", Cond.methodLink RX1 76 yX1_groundOf, Cond.instanceMethod yX1_groundOf, Cond.selects RX1 yX1_groundOf yX1_groundOf, Cond.code yX1_groundOf cX1_groundOf 2 (some .int), Cond.fieldLink RX1 66 "NightPlots$Told" "kind" "[I", Cond.fieldLink RX1 9 "NightPlots$Standing" "place" "[I", Cond.methodLink RX1 69 yX3_ground, Cond.instanceMethod yX3_ground]
def wsX4_plot_r2 : List Cond := [Cond.selects RX3 yX3_ground yX3_ground, Cond.initialized RX3, Cond.code yX3_ground cX3_ground 3 (some .int), Cond.methodLink RX3 71 yX3_next, Cond.instanceMethod yX3_next, Cond.selects RX3 yX3_next yX3_next, Cond.code yX3_next cX3_next 2 (some .int), Cond.fieldLink RX3 37 "NightPlots$Told" "plots" "I"]
def wsX4_plot : List Cond := .code yX4_plot cX4_plot 3 (some .int) :: ((wsX4_plot_r1 ++ wsX4_plot_r2) ++ wsX40 ++ wsX30 ++ wsX10)
def wsX4_isHouse : List Cond := .code yX4_isHouse cX4_isHouse 2 (some .boolean) :: ([.fieldLink RX4 12 "NightPlots" "told" "LNightPlots$Told;", .fieldLink RX4 207 "NightPlots$Told" "houses" "I"] ++ wsX40 ++ wsX30)
def wsX4_house : List Cond := .code yX4_house cX4_house 3 (some .int) :: ([.fieldLink RX4 12 "NightPlots" "told" "LNightPlots$Told;", .fieldLink RX4 110 "NightPlots$Told" "kind" "[I", .fieldLink RX4 31 "NightPlots" "now" "LNightPlots$Standing;", .fieldLink RX4 113 "NightPlots$Standing" "place" "[I", .fieldLink RX4 116 "NightPlots$Standing" "rolled" "[I", .fieldLink RX4 119 "NightPlots$Standing" "nights" "I", .methodLink RX4 107 yX4_isHouse, .instanceMethod yX4_isHouse, .selects RX4 yX4_isHouse yX4_isHouse, .initialized RX4, .code yX4_isHouse cX4_isHouse 2 (some .boolean), .fieldLink RX4 207 "NightPlots$Told" "houses" "I"] ++ wsX40 ++ wsX30 ++ wsX10)
def wsX4_isSuch : List Cond := .code yX4_isSuch cX4_isSuch 2 (some .boolean) :: ([])
def wsX4_as_r1 : List Cond := [Cond.fieldLink RX4 12 "NightPlots" "told" "LNightPlots$Told;", Cond.fieldLink RX4 110 "NightPlots$Told" "kind" "[I", Cond.fieldLink RX4 31 "NightPlots" "now" "LNightPlots$Standing;", Cond.fieldLink RX4 55 "NightPlots" "ways" "[I", Cond.methodLink RX4 107 yX4_isHouse, Cond.instanceMethod yX4_isHouse, Cond.selects RX4 yX4_isHouse yX4_isHouse, Cond.initialized RX4, Cond.code yX4_isHouse cX4_isHouse 2 (some .boolean), Cond.fieldLink RX4 207 "NightPlots$Told" "houses" "I", Cond.methodLink RX4 122 yX4_isSuch, Cond.static yX4_isSuch, Cond.code yX4_isSuch cX4_isSuch 2 (some .boolean), Cond.methodLink RX4 126 yX1_findWays, Cond.instanceMethod yX1_findWays, Cond.selects RX1 yX1_findWays yX1_findWays, Cond.initialized RX1, Cond.code yX1_findWays cX1_findWays 7 (some .int), Cond.fieldLink RX1 21 "NightPlots$Standing" "told" "LNightPlots$Told;", Cond.fieldLink RX1 66 "NightPlots$Told" "kind" "[I", Cond.fieldLink RX1 63 "NightPlots$Standing" "mended" "I", Cond.fieldLink RX1 9 "NightPlots$Standing" "place" "[I", Cond.methodLink RX1 83 yX3_next, Cond.instanceMethod yX3_next]
def wsX4_as_r2 : List Cond := [Cond.selects RX3 yX3_next yX3_next, Cond.initialized RX3, Cond.code yX3_next cX3_next 2 (some .int), Cond.fieldLink RX3 37 "NightPlots$Told" "plots" "I", Cond.methodLink RX1 86 yX3_previous, Cond.instanceMethod yX3_previous, Cond.selects RX3 yX3_previous yX3_previous, Cond.code yX3_previous cX3_previous 2 (some .int), Cond.methodLink RX1 89 yX1_isEmpty, Cond.instanceMethod yX1_isEmpty, Cond.selects RX1 yX1_isEmpty yX1_isEmpty, Cond.code yX1_isEmpty cX1_isEmpty 2 (some .boolean), Cond.fieldLink RX1 47 "NightPlots$Standing" "taken" "I", Cond.methodLink RX1 93 yX1_findPathWays, Cond.instanceMethod yX1_findPathWays, Cond.selects RX1 yX1_findPathWays yX1_findPathWays, Cond.code yX1_findPathWays cX1_findPathWays 7 (some .int), Cond.fieldLink RX1 97 "NightPlots$Told" "paths" "I", Cond.methodLink RX1 100 yX3_otherEnd, Cond.instanceMethod yX3_otherEnd, Cond.selects RX3 yX3_otherEnd yX3_otherEnd, Cond.code yX3_otherEnd cX3_otherEnd 3 (some .int), Cond.fieldLink RX3 21 "NightPlots$Told" "pathFrom" "[I", Cond.fieldLink RX3 24 "NightPlots$Told" "pathTo" "[I"]
def wsX4_as : List Cond := .code yX4_as cX4_as 3 (some .int) :: ((wsX4_as_r1 ++ wsX4_as_r2) ++ wsX40 ++ wsX30 ++ wsX10)
