/-- the words that hold at every later state -/
def jtb : List Cond := lw_tbl.filter goodWord
theorem jin {w : Cond} (h : w ∈ lw_tbl) (g : goodWord w = true) : w ∈ jtb := List.mem_filter.mpr ⟨h, g⟩
def jnest (s : State) : Prop := va_Nw (.methodLinkNest RX4 32 yX6_isBelow "CutListDesk") s ∧ va_Nw (.methodLinkNest RX3 51 yX6_isBelow "CutListDesk") s
abbrev jMI : Type := MethodName × ByteArray × Nat × Option FieldType
def jcl : List vw_C := [(RX1, TX1, 2), (RX2, TX2, 5), (RX3, TX3, 2), (RX4, TX4, 4), (RX5, TX5, 5), (RX6, TX6, 8), (RX7, TX7, 21)]
def jFL (own : String) (idx ci k : Nat) : Prop := ∃ (C : String) (T : u_T) (N : Nat), jcl[ci]? = some (C, T, N) ∧ k < N ∧ (∀ w ∈ u_ws C T N, w ∈ jtb) ∧ Cond.fieldLink own idx (T k).1 (T k).2.1 (T k).2.2.1 ∈ jtb
/-- a field that is written outside a constructor -/
def jFP (own : String) (idx ci k : Nat) (ty : FieldType) : Prop := ∃ (C : String) (T : u_T) (N : Nat) (ty0 : Nat → FieldType), jcl[ci]? = some (C, T, N) ∧ k < N ∧ (∀ w ∈ u_ws C T N, w ∈ jtb) ∧ Cond.fieldLink own idx (T k).1 (T k).2.1 (T k).2.2.1 ∈ jtb ∧ (∀ k, k < N → parseFieldDescriptor (T k).2.2.1 = some (ty0 k)) ∧ (∀ a, a < N → ∀ b, b < N → a ≠ b → (T a).2.1 ≠ (T b).2.1) ∧ (T k).2.2.2 = false ∧ parseFieldDescriptor (T k).2.2.1 = some ty
def jM (M : jMI) : Prop := plainName M.1.cls = true ∧ Cond.code M.1 M.2.1 M.2.2.1 M.2.2.2 ∈ jtb ∧ Cond.initialized M.1.cls ∈ jtb ∧ (M.1.cls ≠ "java/lang/invoke/MethodHandle" ∧ M.1.cls ≠ "java/lang/invoke/VarHandle") ∧ M.2.2.1 ≤ 16
def jMV (own : String) (idx : Nat) (M : jMI) (n : Nat) : Prop := Cond.methodLink own idx M.1 ∈ jtb ∧ Cond.instanceMethod M.1 ∈ jtb ∧ Cond.selects M.1.cls M.1 M.1 ∈ jtb ∧ (parseMethodDescriptor M.1.desc).map (fun d => d.parameters.length) = some n
def jMS (own : String) (idx : Nat) (M : jMI) (n : Nat) : Prop := Cond.methodLink own idx M.1 ∈ jtb ∧ Cond.static M.1 ∈ jtb ∧ (parseMethodDescriptor M.1.desc).map (fun d => d.parameters.length) = some n
def jMN (own : String) (idx : Nat) (M : jMI) (n : Nat) (host : String) : Prop := (∀ s, jnest s → va_Nw (Cond.methodLinkNest own idx M.1 host) s) ∧ Cond.static M.1 ∈ jtb ∧ (parseMethodDescriptor M.1.desc).map (fun d => d.parameters.length) = some n
theorem in_X1 : ∀ w ∈ u_ws RX1 TX1 2, w ∈ jtb := fun w h => jin ((by decide +kernel : ∀ w ∈ u_ws RX1 TX1 2, w ∈ lw_tbl) w h) ((by decide +kernel : ∀ w ∈ u_ws RX1 TX1 2, goodWord w = true) w h)
theorem in_X2 : ∀ w ∈ u_ws RX2 TX2 5, w ∈ jtb := fun w h => jin ((by decide +kernel : ∀ w ∈ u_ws RX2 TX2 5, w ∈ lw_tbl) w h) ((by decide +kernel : ∀ w ∈ u_ws RX2 TX2 5, goodWord w = true) w h)
theorem in_X3 : ∀ w ∈ u_ws RX3 TX3 2, w ∈ jtb := fun w h => jin ((by decide +kernel : ∀ w ∈ u_ws RX3 TX3 2, w ∈ lw_tbl) w h) ((by decide +kernel : ∀ w ∈ u_ws RX3 TX3 2, goodWord w = true) w h)
theorem in_X4 : ∀ w ∈ u_ws RX4 TX4 4, w ∈ jtb := fun w h => jin ((by decide +kernel : ∀ w ∈ u_ws RX4 TX4 4, w ∈ lw_tbl) w h) ((by decide +kernel : ∀ w ∈ u_ws RX4 TX4 4, goodWord w = true) w h)
theorem in_X5 : ∀ w ∈ u_ws RX5 TX5 5, w ∈ jtb := fun w h => jin ((by decide +kernel : ∀ w ∈ u_ws RX5 TX5 5, w ∈ lw_tbl) w h) ((by decide +kernel : ∀ w ∈ u_ws RX5 TX5 5, goodWord w = true) w h)
theorem in_X6 : ∀ w ∈ u_ws RX6 TX6 8, w ∈ jtb := fun w h => jin ((by decide +kernel : ∀ w ∈ u_ws RX6 TX6 8, w ∈ lw_tbl) w h) ((by decide +kernel : ∀ w ∈ u_ws RX6 TX6 8, goodWord w = true) w h)
theorem in_X7 : ∀ w ∈ u_ws RX7 TX7 21, w ∈ jtb := fun w h => jin ((by decide +kernel : ∀ w ∈ u_ws RX7 TX7 21, w ∈ lw_tbl) w h) ((by decide +kernel : ∀ w ∈ u_ws RX7 TX7 21, goodWord w = true) w h)
theorem jgood : GoodIn jtb jtb := fun _ h => ⟨h, good_of_word (List.mem_filter.mp h).2⟩
abbrev mX0_rate : jMI := (yX0_rate, cX0_rate, 1, (some .int))
theorem jmX0_rate : jM mX0_rate := ⟨by decide, (jin (List.mem_of_getElem? (i := 389) (by decide +kernel)) rfl), (jin (List.mem_of_getElem? (i := 69) (by decide +kernel)) rfl), ⟨by decide, by decide⟩, by decide⟩
abbrev mX0_part : jMI := (yX0_part, cX0_part, 6, (some .int))
theorem jmX0_part : jM mX0_part := ⟨by decide, (jin (List.mem_of_getElem? (i := 386) (by decide +kernel)) rfl), (jin (List.mem_of_getElem? (i := 69) (by decide +kernel)) rfl), ⟨by decide, by decide⟩, by decide⟩
abbrev mX0_leftOutBefore : jMI := (yX0_leftOutBefore, cX0_leftOutBefore, 3, (some .int))
theorem jmX0_leftOutBefore : jM mX0_leftOutBefore := ⟨by decide, (jin (List.mem_of_getElem? (i := 392) (by decide +kernel)) rfl), (jin (List.mem_of_getElem? (i := 69) (by decide +kernel)) rfl), ⟨by decide, by decide⟩, by decide⟩
abbrev mX0_isLeftOut : jMI := (yX0_isLeftOut, cX0_isLeftOut, 3, (some .boolean))
theorem jmX0_isLeftOut : jM mX0_isLeftOut := ⟨by decide, (jin (List.mem_of_getElem? (i := 400) (by decide +kernel)) rfl), (jin (List.mem_of_getElem? (i := 69) (by decide +kernel)) rfl), ⟨by decide, by decide⟩, by decide⟩
abbrev mX0_frame : jMI := (yX0_frame, cX0_frame, 5, (some .int))
theorem jmX0_frame : jM mX0_frame := ⟨by decide, (jin (List.mem_of_getElem? (i := 403) (by decide +kernel)) rfl), (jin (List.mem_of_getElem? (i := 69) (by decide +kernel)) rfl), ⟨by decide, by decide⟩, by decide⟩
abbrev mX1_init : jMI := (yX1_init, cX1_init, 2, none)
theorem jmX1_init : jM mX1_init := ⟨by decide, (jin (List.mem_of_getElem? (i := 132) (by decide +kernel)) rfl), (jin (List.mem_of_getElem? (i := 64) (by decide +kernel)) rfl), ⟨by decide, by decide⟩, by decide⟩
abbrev mX1_isFull : jMI := (yX1_isFull, cX1_isFull, 1, (some .boolean))
theorem jmX1_isFull : jM mX1_isFull := ⟨by decide, (jin (List.mem_of_getElem? (i := 250) (by decide +kernel)) rfl), (jin (List.mem_of_getElem? (i := 64) (by decide +kernel)) rfl), ⟨by decide, by decide⟩, by decide⟩
abbrev mX1_append : jMI := (yX1_append, cX1_append, 7, none)
theorem jmX1_append : jM mX1_append := ⟨by decide, (jin (List.mem_of_getElem? (i := 254) (by decide +kernel)) rfl), (jin (List.mem_of_getElem? (i := 64) (by decide +kernel)) rfl), ⟨by decide, by decide⟩, by decide⟩
abbrev mX1_begin : jMI := (yX1_begin, cX1_begin, 4, (some .int))
theorem jmX1_begin : jM mX1_begin := ⟨by decide, (jin (List.mem_of_getElem? (i := 312) (by decide +kernel)) rfl), (jin (List.mem_of_getElem? (i := 64) (by decide +kernel)) rfl), ⟨by decide, by decide⟩, by decide⟩
abbrev mX1_frames : jMI := (yX1_frames, cX1_frames, 1, (some .int))
theorem jmX1_frames : jM mX1_frames := ⟨by decide, (jin (List.mem_of_getElem? (i := 469) (by decide +kernel)) rfl), (jin (List.mem_of_getElem? (i := 64) (by decide +kernel)) rfl), ⟨by decide, by decide⟩, by decide⟩
abbrev mX1_holder : jMI := (yX1_holder, cX1_holder, 4, (some .int))
theorem jmX1_holder : jM mX1_holder := ⟨by decide, (jin (List.mem_of_getElem? (i := 332) (by decide +kernel)) rfl), (jin (List.mem_of_getElem? (i := 64) (by decide +kernel)) rfl), ⟨by decide, by decide⟩, by decide⟩
abbrev mX1_times : jMI := (yX1_times, cX1_times, 5, (some .int))
theorem jmX1_times : jM mX1_times := ⟨by decide, (jin (List.mem_of_getElem? (i := 346) (by decide +kernel)) rfl), (jin (List.mem_of_getElem? (i := 64) (by decide +kernel)) rfl), ⟨by decide, by decide⟩, by decide⟩
abbrev mX1_firstShowing : jMI := (yX1_firstShowing, cX1_firstShowing, 5, (some .int))
theorem jmX1_firstShowing : jM mX1_firstShowing := ⟨by decide, (jin (List.mem_of_getElem? (i := 358) (by decide +kernel)) rfl), (jin (List.mem_of_getElem? (i := 64) (by decide +kernel)) rfl), ⟨by decide, by decide⟩, by decide⟩
abbrev mX1_shownFrames : jMI := (yX1_shownFrames, cX1_shownFrames, 6, (some .int))
theorem jmX1_shownFrames : jM mX1_shownFrames := ⟨by decide, (jin (List.mem_of_getElem? (i := 459) (by decide +kernel)) rfl), (jin (List.mem_of_getElem? (i := 64) (by decide +kernel)) rfl), ⟨by decide, by decide⟩, by decide⟩
abbrev mX2_init : jMI := (yX2_init, cX2_init, 1, none)
theorem jmX2_init : jM mX2_init := ⟨by decide, (jin (List.mem_of_getElem? (i := 139) (by decide +kernel)) rfl), (jin (List.mem_of_getElem? (i := 65) (by decide +kernel)) rfl), ⟨by decide, by decide⟩, by decide⟩
abbrev mX2_part : jMI := (yX2_part, cX2_part, 2, (some .int))
theorem jmX2_part : jM mX2_part := ⟨by decide, (jin (List.mem_of_getElem? (i := 271) (by decide +kernel)) rfl), (jin (List.mem_of_getElem? (i := 65) (by decide +kernel)) rfl), ⟨by decide, by decide⟩, by decide⟩
abbrev mX2_become : jMI := (yX2_become, cX2_become, 3, none)
theorem jmX2_become : jM mX2_become := ⟨by decide, (jin (List.mem_of_getElem? (i := 275) (by decide +kernel)) rfl), (jin (List.mem_of_getElem? (i := 65) (by decide +kernel)) rfl), ⟨by decide, by decide⟩, by decide⟩
abbrev mX2_frameAt : jMI := (yX2_frameAt, cX2_frameAt, 2, (some .int))
theorem jmX2_frameAt : jM mX2_frameAt := ⟨by decide, (jin (List.mem_of_getElem? (i := 320) (by decide +kernel)) rfl), (jin (List.mem_of_getElem? (i := 65) (by decide +kernel)) rfl), ⟨by decide, by decide⟩, by decide⟩
abbrev mX2_first : jMI := (yX2_first, cX2_first, 1, (some .int))
theorem jmX2_first : jM mX2_first := ⟨by decide, (jin (List.mem_of_getElem? (i := 316) (by decide +kernel)) rfl), (jin (List.mem_of_getElem? (i := 65) (by decide +kernel)) rfl), ⟨by decide, by decide⟩, by decide⟩
abbrev mX2_last : jMI := (yX2_last, cX2_last, 1, (some .int))
theorem jmX2_last : jM mX2_last := ⟨by decide, (jin (List.mem_of_getElem? (i := 324) (by decide +kernel)) rfl), (jin (List.mem_of_getElem? (i := 65) (by decide +kernel)) rfl), ⟨by decide, by decide⟩, by decide⟩
abbrev mX2_reach : jMI := (yX2_reach, cX2_reach, 1, (some .int))
theorem jmX2_reach : jM mX2_reach := ⟨by decide, (jin (List.mem_of_getElem? (i := 371) (by decide +kernel)) rfl), (jin (List.mem_of_getElem? (i := 65) (by decide +kernel)) rfl), ⟨by decide, by decide⟩, by decide⟩
abbrev mX2_different : jMI := (yX2_different, cX2_different, 1, (some .int))
theorem jmX2_different : jM mX2_different := ⟨by decide, (jin (List.mem_of_getElem? (i := 377) (by decide +kernel)) rfl), (jin (List.mem_of_getElem? (i := 65) (by decide +kernel)) rfl), ⟨by decide, by decide⟩, by decide⟩
abbrev mX2_firstAtLeast : jMI := (yX2_firstAtLeast, cX2_firstAtLeast, 3, (some .int))
theorem jmX2_firstAtLeast : jM mX2_firstAtLeast := ⟨by decide, (jin (List.mem_of_getElem? (i := 354) (by decide +kernel)) rfl), (jin (List.mem_of_getElem? (i := 65) (by decide +kernel)) rfl), ⟨by decide, by decide⟩, by decide⟩
abbrev mX2_firstShowing : jMI := (yX2_firstShowing, cX2_firstShowing, 3, (some .int))
theorem jmX2_firstShowing : jM mX2_firstShowing := ⟨by decide, (jin (List.mem_of_getElem? (i := 362) (by decide +kernel)) rfl), (jin (List.mem_of_getElem? (i := 65) (by decide +kernel)) rfl), ⟨by decide, by decide⟩, by decide⟩
abbrev mX2_times : jMI := (yX2_times, cX2_times, 2, (some .int))
theorem jmX2_times : jM mX2_times := ⟨by decide, (jin (List.mem_of_getElem? (i := 350) (by decide +kernel)) rfl), (jin (List.mem_of_getElem? (i := 65) (by decide +kernel)) rfl), ⟨by decide, by decide⟩, by decide⟩
abbrev mX2_isLike : jMI := (yX2_isLike, cX2_isLike, 2, (some .boolean))
theorem jmX2_isLike : jM mX2_isLike := ⟨by decide, (jin (List.mem_of_getElem? (i := 494) (by decide +kernel)) rfl), (jin (List.mem_of_getElem? (i := 65) (by decide +kernel)) rfl), ⟨by decide, by decide⟩, by decide⟩
abbrev mX3_init : jMI := (yX3_init, cX3_init, 1, none)
theorem jmX3_init : jM mX3_init := ⟨by decide, (jin (List.mem_of_getElem? (i := 119) (by decide +kernel)) rfl), (jin (List.mem_of_getElem? (i := 63) (by decide +kernel)) rfl), ⟨by decide, by decide⟩, by decide⟩
abbrev mX3_pair : jMI := (yX3_pair, cX3_pair, 3, none)
theorem jmX3_pair : jM mX3_pair := ⟨by decide, (jin (List.mem_of_getElem? (i := 481) (by decide +kernel)) rfl), (jin (List.mem_of_getElem? (i := 63) (by decide +kernel)) rfl), ⟨by decide, by decide⟩, by decide⟩
abbrev mX3_takeEach : jMI := (yX3_takeEach, cX3_takeEach, 5, none)
theorem jmX3_takeEach : jM mX3_takeEach := ⟨by decide, (jin (List.mem_of_getElem? (i := 486) (by decide +kernel)) rfl), (jin (List.mem_of_getElem? (i := 63) (by decide +kernel)) rfl), ⟨by decide, by decide⟩, by decide⟩
abbrev mX3_takeFor : jMI := (yX3_takeFor, cX3_takeFor, 8, none)
theorem jmX3_takeFor : jM mX3_takeFor := ⟨by decide, (jin (List.mem_of_getElem? (i := 490) (by decide +kernel)) rfl), (jin (List.mem_of_getElem? (i := 63) (by decide +kernel)) rfl), ⟨by decide, by decide⟩, by decide⟩
abbrev mX3_partner : jMI := (yX3_partner, cX3_partner, 2, (some .int))
theorem jmX3_partner : jM mX3_partner := ⟨by decide, (jin (List.mem_of_getElem? (i := 502) (by decide +kernel)) rfl), (jin (List.mem_of_getElem? (i := 63) (by decide +kernel)) rfl), ⟨by decide, by decide⟩, by decide⟩
abbrev mX3_kind : jMI := (yX3_kind, cX3_kind, 5, (some .int))
theorem jmX3_kind : jM mX3_kind := ⟨by decide, (jin (List.mem_of_getElem? (i := 498) (by decide +kernel)) rfl), (jin (List.mem_of_getElem? (i := 63) (by decide +kernel)) rfl), ⟨by decide, by decide⟩, by decide⟩
abbrev mX3_later : jMI := (yX3_later, cX3_later, 5, (some .int))
theorem jmX3_later : jM mX3_later := ⟨by decide, (jin (List.mem_of_getElem? (i := 509) (by decide +kernel)) rfl), (jin (List.mem_of_getElem? (i := 63) (by decide +kernel)) rfl), ⟨by decide, by decide⟩, by decide⟩
abbrev mX4_init : jMI := (yX4_init, cX4_init, 1, none)
theorem jmX4_init : jM mX4_init := ⟨by decide, (jin (List.mem_of_getElem? (i := 182) (by decide +kernel)) rfl), (jin (List.mem_of_getElem? (i := 66) (by decide +kernel)) rfl), ⟨by decide, by decide⟩, by decide⟩
abbrev mX4_begin : jMI := (yX4_begin, cX4_begin, 3, none)
theorem jmX4_begin : jM mX4_begin := ⟨by decide, (jin (List.mem_of_getElem? (i := 549) (by decide +kernel)) rfl), (jin (List.mem_of_getElem? (i := 66) (by decide +kernel)) rfl), ⟨by decide, by decide⟩, by decide⟩
abbrev mX4_fault : jMI := (yX4_fault, cX4_fault, 3, (some .int))
theorem jmX4_fault : jM mX4_fault := ⟨by decide, (jin (List.mem_of_getElem? (i := 562) (by decide +kernel)) rfl), (jin (List.mem_of_getElem? (i := 66) (by decide +kernel)) rfl), ⟨by decide, by decide⟩, by decide⟩
abbrev mX4_hasItems : jMI := (yX4_hasItems, cX4_hasItems, 3, (some .boolean))
theorem jmX4_hasItems : jM mX4_hasItems := ⟨by decide, (jin (List.mem_of_getElem? (i := 579) (by decide +kernel)) rfl), (jin (List.mem_of_getElem? (i := 66) (by decide +kernel)) rfl), ⟨by decide, by decide⟩, by decide⟩
abbrev mX4_item : jMI := (yX4_item, cX4_item, 2, (some .int))
theorem jmX4_item : jM mX4_item := ⟨by decide, (jin (List.mem_of_getElem? (i := 303) (by decide +kernel)) rfl), (jin (List.mem_of_getElem? (i := 66) (by decide +kernel)) rfl), ⟨by decide, by decide⟩, by decide⟩
abbrev mX4_store : jMI := (yX4_store, cX4_store, 3, none)
theorem jmX4_store : jM mX4_store := ⟨by decide, (jin (List.mem_of_getElem? (i := 566) (by decide +kernel)) rfl), (jin (List.mem_of_getElem? (i := 66) (by decide +kernel)) rfl), ⟨by decide, by decide⟩, by decide⟩
abbrev mX5_init : jMI := (yX5_init, cX5_init, 2, none)
theorem jmX5_init : jM mX5_init := ⟨by decide, (jin (List.mem_of_getElem? (i := 91) (by decide +kernel)) rfl), (jin (List.mem_of_getElem? (i := 62) (by decide +kernel)) rfl), ⟨by decide, by decide⟩, by decide⟩
abbrev mX5_isFull : jMI := (yX5_isFull, cX5_isFull, 1, (some .boolean))
theorem jmX5_isFull : jM mX5_isFull := ⟨by decide, (jin (List.mem_of_getElem? (i := 422) (by decide +kernel)) rfl), (jin (List.mem_of_getElem? (i := 62) (by decide +kernel)) rfl), ⟨by decide, by decide⟩, by decide⟩
abbrev mX5_insert : jMI := (yX5_insert, cX5_insert, 6, none)
theorem jmX5_insert : jM mX5_insert := ⟨by decide, (jin (List.mem_of_getElem? (i := 418) (by decide +kernel)) rfl), (jin (List.mem_of_getElem? (i := 62) (by decide +kernel)) rfl), ⟨by decide, by decide⟩, by decide⟩
abbrev mX5_append : jMI := (yX5_append, cX5_append, 4, none)
theorem jmX5_append : jM mX5_append := ⟨by decide, (jin (List.mem_of_getElem? (i := 532) (by decide +kernel)) rfl), (jin (List.mem_of_getElem? (i := 62) (by decide +kernel)) rfl), ⟨by decide, by decide⟩, by decide⟩
abbrev mX5_isBehind : jMI := (yX5_isBehind, cX5_isBehind, 4, (some .boolean))
theorem jmX5_isBehind : jM mX5_isBehind := ⟨by decide, (jin (List.mem_of_getElem? (i := 426) (by decide +kernel)) rfl), (jin (List.mem_of_getElem? (i := 62) (by decide +kernel)) rfl), ⟨by decide, by decide⟩, by decide⟩
abbrev mX5_move : jMI := (yX5_move, cX5_move, 3, none)
theorem jmX5_move : jM mX5_move := ⟨by decide, (jin (List.mem_of_getElem? (i := 430) (by decide +kernel)) rfl), (jin (List.mem_of_getElem? (i := 62) (by decide +kernel)) rfl), ⟨by decide, by decide⟩, by decide⟩
abbrev mX5_fill : jMI := (yX5_fill, cX5_fill, 6, none)
theorem jmX5_fill : jM mX5_fill := ⟨by decide, (jin (List.mem_of_getElem? (i := 434) (by decide +kernel)) rfl), (jin (List.mem_of_getElem? (i := 62) (by decide +kernel)) rfl), ⟨by decide, by decide⟩, by decide⟩
abbrev mX5_join : jMI := (yX5_join, cX5_join, 4, none)
theorem jmX5_join : jM mX5_join := ⟨by decide, (jin (List.mem_of_getElem? (i := 438) (by decide +kernel)) rfl), (jin (List.mem_of_getElem? (i := 62) (by decide +kernel)) rfl), ⟨by decide, by decide⟩, by decide⟩
abbrev mX5_frames : jMI := (yX5_frames, cX5_frames, 3, (some .int))
theorem jmX5_frames : jM mX5_frames := ⟨by decide, (jin (List.mem_of_getElem? (i := 455) (by decide +kernel)) rfl), (jin (List.mem_of_getElem? (i := 62) (by decide +kernel)) rfl), ⟨by decide, by decide⟩, by decide⟩
abbrev mX5_nth : jMI := (yX5_nth, cX5_nth, 5, (some .int))
theorem jmX5_nth : jM mX5_nth := ⟨by decide, (jin (List.mem_of_getElem? (i := 536) (by decide +kernel)) rfl), (jin (List.mem_of_getElem? (i := 62) (by decide +kernel)) rfl), ⟨by decide, by decide⟩, by decide⟩
abbrev mX6_init : jMI := (yX6_init, cX6_init, 2, none)
theorem jmX6_init : jM mX6_init := ⟨by decide, (jin (List.mem_of_getElem? (i := 76) (by decide +kernel)) rfl), (jin (List.mem_of_getElem? (i := 61) (by decide +kernel)) rfl), ⟨by decide, by decide⟩, by decide⟩
abbrev mX6_edit : jMI := (yX6_edit, cX6_edit, 8, (some .int))
theorem jmX6_edit : jM mX6_edit := ⟨by decide, (jin (List.mem_of_getElem? (i := 233) (by decide +kernel)) rfl), (jin (List.mem_of_getElem? (i := 61) (by decide +kernel)) rfl), ⟨by decide, by decide⟩, by decide⟩
abbrev mX6_back : jMI := (yX6_back, cX6_back, 3, (some .int))
theorem jmX6_back : jM mX6_back := ⟨by decide, (jin (List.mem_of_getElem? (i := 259) (by decide +kernel)) rfl), (jin (List.mem_of_getElem? (i := 61) (by decide +kernel)) rfl), ⟨by decide, by decide⟩, by decide⟩
abbrev mX6_trim : jMI := (yX6_trim, cX6_trim, 7, (some .int))
theorem jmX6_trim : jM mX6_trim := ⟨by decide, (jin (List.mem_of_getElem? (i := 263) (by decide +kernel)) rfl), (jin (List.mem_of_getElem? (i := 61) (by decide +kernel)) rfl), ⟨by decide, by decide⟩, by decide⟩
abbrev mX6_set : jMI := (yX6_set, cX6_set, 4, (some .int))
theorem jmX6_set : jM mX6_set := ⟨by decide, (jin (List.mem_of_getElem? (i := 279) (by decide +kernel)) rfl), (jin (List.mem_of_getElem? (i := 61) (by decide +kernel)) rfl), ⟨by decide, by decide⟩, by decide⟩
abbrev mX6_reel : jMI := (yX6_reel, cX6_reel, 4, (some .int))
theorem jmX6_reel : jM mX6_reel := ⟨by decide, (jin (List.mem_of_getElem? (i := 283) (by decide +kernel)) rfl), (jin (List.mem_of_getElem? (i := 61) (by decide +kernel)) rfl), ⟨by decide, by decide⟩, by decide⟩
abbrev mX6_swap : jMI := (yX6_swap, cX6_swap, 2, (some .int))
theorem jmX6_swap : jM mX6_swap := ⟨by decide, (jin (List.mem_of_getElem? (i := 288) (by decide +kernel)) rfl), (jin (List.mem_of_getElem? (i := 61) (by decide +kernel)) rfl), ⟨by decide, by decide⟩, by decide⟩
abbrev mX6_read : jMI := (yX6_read, cX6_read, 7, (some .int))
theorem jmX6_read : jM mX6_read := ⟨by decide, (jin (List.mem_of_getElem? (i := 292) (by decide +kernel)) rfl), (jin (List.mem_of_getElem? (i := 61) (by decide +kernel)) rfl), ⟨by decide, by decide⟩, by decide⟩
abbrev mX6_appendFrom : jMI := (yX6_appendFrom, cX6_appendFrom, 8, (some .boolean))
theorem jmX6_appendFrom : jM mX6_appendFrom := ⟨by decide, (jin (List.mem_of_getElem? (i := 299) (by decide +kernel)) rfl), (jin (List.mem_of_getElem? (i := 61) (by decide +kernel)) rfl), ⟨by decide, by decide⟩, by decide⟩
abbrev mX6_mayBeEdit : jMI := (yX6_mayBeEdit, cX6_mayBeEdit, 5, (some .boolean))
theorem jmX6_mayBeEdit : jM mX6_mayBeEdit := ⟨by decide, (jin (List.mem_of_getElem? (i := 239) (by decide +kernel)) rfl), (jin (List.mem_of_getElem? (i := 61) (by decide +kernel)) rfl), ⟨by decide, by decide⟩, by decide⟩
abbrev mX6_mayBePart : jMI := (yX6_mayBePart, cX6_mayBePart, 2, (some .boolean))
theorem jmX6_mayBePart : jM mX6_mayBePart := ⟨by decide, (jin (List.mem_of_getElem? (i := 242) (by decide +kernel)) rfl), (jin (List.mem_of_getElem? (i := 61) (by decide +kernel)) rfl), ⟨by decide, by decide⟩, by decide⟩
abbrev mX6_isBelow : jMI := (yX6_isBelow, cX6_isBelow, 2, (some .boolean))
theorem jmX6_isBelow : jM mX6_isBelow := ⟨by decide, (jin (List.mem_of_getElem? (i := 236) (by decide +kernel)) rfl), (jin (List.mem_of_getElem? (i := 61) (by decide +kernel)) rfl), ⟨by decide, by decide⟩, by decide⟩
abbrev mX6_isEdit : jMI := (yX6_isEdit, cX6_isEdit, 3, (some .boolean))
theorem jmX6_isEdit : jM mX6_isEdit := ⟨by decide, (jin (List.mem_of_getElem? (i := 267) (by decide +kernel)) rfl), (jin (List.mem_of_getElem? (i := 61) (by decide +kernel)) rfl), ⟨by decide, by decide⟩, by decide⟩
abbrev mX6_found : jMI := (yX6_found, cX6_found, 2, (some .int))
theorem jmX6_found : jM mX6_found := ⟨by decide, (jin (List.mem_of_getElem? (i := 296) (by decide +kernel)) rfl), (jin (List.mem_of_getElem? (i := 61) (by decide +kernel)) rfl), ⟨by decide, by decide⟩, by decide⟩
abbrev mX6_info : jMI := (yX6_info, cX6_info, 6, (some .int))
theorem jmX6_info : jM mX6_info := ⟨by decide, (jin (List.mem_of_getElem? (i := 308) (by decide +kernel)) rfl), (jin (List.mem_of_getElem? (i := 61) (by decide +kernel)) rfl), ⟨by decide, by decide⟩, by decide⟩
abbrev mX6_shows : jMI := (yX6_shows, cX6_shows, 8, (some .int))
theorem jmX6_shows : jM mX6_shows := ⟨by decide, (jin (List.mem_of_getElem? (i := 328) (by decide +kernel)) rfl), (jin (List.mem_of_getElem? (i := 61) (by decide +kernel)) rfl), ⟨by decide, by decide⟩, by decide⟩
abbrev mX6_seen : jMI := (yX6_seen, cX6_seen, 5, (some .int))
theorem jmX6_seen : jM mX6_seen := ⟨by decide, (jin (List.mem_of_getElem? (i := 341) (by decide +kernel)) rfl), (jin (List.mem_of_getElem? (i := 61) (by decide +kernel)) rfl), ⟨by decide, by decide⟩, by decide⟩
abbrev mX6_still : jMI := (yX6_still, cX6_still, 5, (some .int))
theorem jmX6_still : jM mX6_still := ⟨by decide, (jin (List.mem_of_getElem? (i := 367) (by decide +kernel)) rfl), (jin (List.mem_of_getElem? (i := 61) (by decide +kernel)) rfl), ⟨by decide, by decide⟩, by decide⟩
abbrev mX6_lengthOf : jMI := (yX6_lengthOf, cX6_lengthOf, 2, (some .int))
theorem jmX6_lengthOf : jM mX6_lengthOf := ⟨by decide, (jin (List.mem_of_getElem? (i := 337) (by decide +kernel)) rfl), (jin (List.mem_of_getElem? (i := 61) (by decide +kernel)) rfl), ⟨by decide, by decide⟩, by decide⟩
abbrev mX6_told : jMI := (yX6_told, cX6_told, 3, (some .int))
theorem jmX6_told : jM mX6_told := ⟨by decide, (jin (List.mem_of_getElem? (i := 382) (by decide +kernel)) rfl), (jin (List.mem_of_getElem? (i := 61) (by decide +kernel)) rfl), ⟨by decide, by decide⟩, by decide⟩
abbrev mX6_number : jMI := (yX6_number, cX6_number, 6, (some .int))
theorem jmX6_number : jM mX6_number := ⟨by decide, (jin (List.mem_of_getElem? (i := 396) (by decide +kernel)) rfl), (jin (List.mem_of_getElem? (i := 61) (by decide +kernel)) rfl), ⟨by decide, by decide⟩, by decide⟩
abbrev mX6_pulls : jMI := (yX6_pulls, cX6_pulls, 2, (some .int))
theorem jmX6_pulls : jM mX6_pulls := ⟨by decide, (jin (List.mem_of_getElem? (i := 407) (by decide +kernel)) rfl), (jin (List.mem_of_getElem? (i := 61) (by decide +kernel)) rfl), ⟨by decide, by decide⟩, by decide⟩
abbrev mX6_pull : jMI := (yX6_pull, cX6_pull, 5, (some .int))
theorem jmX6_pull : jM mX6_pull := ⟨by decide, (jin (List.mem_of_getElem? (i := 443) (by decide +kernel)) rfl), (jin (List.mem_of_getElem? (i := 61) (by decide +kernel)) rfl), ⟨by decide, by decide⟩, by decide⟩
abbrev mX6_waste : jMI := (yX6_waste, cX6_waste, 2, (some .int))
theorem jmX6_waste : jM mX6_waste := ⟨by decide, (jin (List.mem_of_getElem? (i := 451) (by decide +kernel)) rfl), (jin (List.mem_of_getElem? (i := 61) (by decide +kernel)) rfl), ⟨by decide, by decide⟩, by decide⟩
abbrev mX6_total : jMI := (yX6_total, cX6_total, 3, (some .int))
theorem jmX6_total : jM mX6_total := ⟨by decide, (jin (List.mem_of_getElem? (i := 465) (by decide +kernel)) rfl), (jin (List.mem_of_getElem? (i := 61) (by decide +kernel)) rfl), ⟨by decide, by decide⟩, by decide⟩
abbrev mX6_lackingOfAll : jMI := (yX6_lackingOfAll, cX6_lackingOfAll, 4, (some .int))
theorem jmX6_lackingOfAll : jM mX6_lackingOfAll := ⟨by decide, (jin (List.mem_of_getElem? (i := 473) (by decide +kernel)) rfl), (jin (List.mem_of_getElem? (i := 61) (by decide +kernel)) rfl), ⟨by decide, by decide⟩, by decide⟩
abbrev mX6_lacking : jMI := (yX6_lacking, cX6_lacking, 4, (some .int))
theorem jmX6_lacking : jM mX6_lacking := ⟨by decide, (jin (List.mem_of_getElem? (i := 447) (by decide +kernel)) rfl), (jin (List.mem_of_getElem? (i := 61) (by decide +kernel)) rfl), ⟨by decide, by decide⟩, by decide⟩
abbrev mX6_gather : jMI := (yX6_gather, cX6_gather, 8, (some (.object "CutListDesk$Spans")))
theorem jmX6_gather : jM mX6_gather := ⟨by decide, (jin (List.mem_of_getElem? (i := 411) (by decide +kernel)) rfl), (jin (List.mem_of_getElem? (i := 61) (by decide +kernel)) rfl), ⟨by decide, by decide⟩, by decide⟩
abbrev mX6_compare : jMI := (yX6_compare, cX6_compare, 3, (some .int))
theorem jmX6_compare : jM mX6_compare := ⟨by decide, (jin (List.mem_of_getElem? (i := 477) (by decide +kernel)) rfl), (jin (List.mem_of_getElem? (i := 61) (by decide +kernel)) rfl), ⟨by decide, by decide⟩, by decide⟩
abbrev mX6_gone : jMI := (yX6_gone, cX6_gone, 1, (some .int))
theorem jmX6_gone : jM mX6_gone := ⟨by decide, (jin (List.mem_of_getElem? (i := 513) (by decide +kernel)) rfl), (jin (List.mem_of_getElem? (i := 61) (by decide +kernel)) rfl), ⟨by decide, by decide⟩, by decide⟩
abbrev mX6_anew : jMI := (yX6_anew, cX6_anew, 2, (some .int))
theorem jmX6_anew : jM mX6_anew := ⟨by decide, (jin (List.mem_of_getElem? (i := 517) (by decide +kernel)) rfl), (jin (List.mem_of_getElem? (i := 61) (by decide +kernel)) rfl), ⟨by decide, by decide⟩, by decide⟩
abbrev mX6_saving : jMI := (yX6_saving, cX6_saving, 6, (some .int))
theorem jmX6_saving : jM mX6_saving := ⟨by decide, (jin (List.mem_of_getElem? (i := 541) (by decide +kernel)) rfl), (jin (List.mem_of_getElem? (i := 61) (by decide +kernel)) rfl), ⟨by decide, by decide⟩, by decide⟩
abbrev mX6_keptEdits : jMI := (yX6_keptEdits, cX6_keptEdits, 3, (some .int))
theorem jmX6_keptEdits : jM mX6_keptEdits := ⟨by decide, (jin (List.mem_of_getElem? (i := 595) (by decide +kernel)) rfl), (jin (List.mem_of_getElem? (i := 61) (by decide +kernel)) rfl), ⟨by decide, by decide⟩, by decide⟩
abbrev mX6_gatherFresh : jMI := (yX6_gatherFresh, cX6_gatherFresh, 6, none)
theorem jmX6_gatherFresh : jM mX6_gatherFresh := ⟨by decide, (jin (List.mem_of_getElem? (i := 521) (by decide +kernel)) rfl), (jin (List.mem_of_getElem? (i := 61) (by decide +kernel)) rfl), ⟨by decide, by decide⟩, by decide⟩
abbrev mX6_addWithout : jMI := (yX6_addWithout, cX6_addWithout, 7, none)
theorem jmX6_addWithout : jM mX6_addWithout := ⟨by decide, (jin (List.mem_of_getElem? (i := 528) (by decide +kernel)) rfl), (jin (List.mem_of_getElem? (i := 61) (by decide +kernel)) rfl), ⟨by decide, by decide⟩, by decide⟩
abbrev mX6_sheet : jMI := (yX6_sheet, cX6_sheet, 4, (some .int))
theorem jmX6_sheet : jM mX6_sheet := ⟨by decide, (jin (List.mem_of_getElem? (i := 545) (by decide +kernel)) rfl), (jin (List.mem_of_getElem? (i := 61) (by decide +kernel)) rfl), ⟨by decide, by decide⟩, by decide⟩
abbrev mX6_lose : jMI := (yX6_lose, cX6_lose, 3, (some .int))
theorem jmX6_lose : jM mX6_lose := ⟨by decide, (jin (List.mem_of_getElem? (i := 554) (by decide +kernel)) rfl), (jin (List.mem_of_getElem? (i := 61) (by decide +kernel)) rfl), ⟨by decide, by decide⟩, by decide⟩
abbrev mX6_put : jMI := (yX6_put, cX6_put, 6, (some .int))
theorem jmX6_put : jM mX6_put := ⟨by decide, (jin (List.mem_of_getElem? (i := 558) (by decide +kernel)) rfl), (jin (List.mem_of_getElem? (i := 61) (by decide +kernel)) rfl), ⟨by decide, by decide⟩, by decide⟩
abbrev mX6_get : jMI := (yX6_get, cX6_get, 5, (some .int))
theorem jmX6_get : jM mX6_get := ⟨by decide, (jin (List.mem_of_getElem? (i := 570) (by decide +kernel)) rfl), (jin (List.mem_of_getElem? (i := 61) (by decide +kernel)) rfl), ⟨by decide, by decide⟩, by decide⟩
abbrev mX6_copy : jMI := (yX6_copy, cX6_copy, 8, (some .int))
theorem jmX6_copy : jM mX6_copy := ⟨by decide, (jin (List.mem_of_getElem? (i := 575) (by decide +kernel)) rfl), (jin (List.mem_of_getElem? (i := 61) (by decide +kernel)) rfl), ⟨by decide, by decide⟩, by decide⟩
abbrev mX6_write : jMI := (yX6_write, cX6_write, 7, (some .int))
theorem jmX6_write : jM mX6_write := ⟨by decide, (jin (List.mem_of_getElem? (i := 586) (by decide +kernel)) rfl), (jin (List.mem_of_getElem? (i := 61) (by decide +kernel)) rfl), ⟨by decide, by decide⟩, by decide⟩
abbrev mX6_count : jMI := (yX6_count, cX6_count, 2, (some .int))
theorem jmX6_count : jM mX6_count := ⟨by decide, (jin (List.mem_of_getElem? (i := 590) (by decide +kernel)) rfl), (jin (List.mem_of_getElem? (i := 61) (by decide +kernel)) rfl), ⟨by decide, by decide⟩, by decide⟩
abbrev mX6_digest : jMI := (yX6_digest, cX6_digest, 5, (some .long))
theorem jmX6_digest : jM mX6_digest := ⟨by decide, (jin (List.mem_of_getElem? (i := 600) (by decide +kernel)) rfl), (jin (List.mem_of_getElem? (i := 61) (by decide +kernel)) rfl), ⟨by decide, by decide⟩, by decide⟩
abbrev mX6_digestOfEdits : jMI := (yX6_digestOfEdits, cX6_digestOfEdits, 8, (some .long))
theorem jmX6_digestOfEdits : jM mX6_digestOfEdits := ⟨by decide, (jin (List.mem_of_getElem? (i := 607) (by decide +kernel)) rfl), (jin (List.mem_of_getElem? (i := 61) (by decide +kernel)) rfl), ⟨by decide, by decide⟩, by decide⟩
abbrev mX6_digestOfList : jMI := (yX6_digestOfList, cX6_digestOfList, 8, (some .long))
theorem jmX6_digestOfList : jM mX6_digestOfList := ⟨by decide, (jin (List.mem_of_getElem? (i := 613) (by decide +kernel)) rfl), (jin (List.mem_of_getElem? (i := 61) (by decide +kernel)) rfl), ⟨by decide, by decide⟩, by decide⟩
abbrev mX6_digestOfTold : jMI := (yX6_digestOfTold, cX6_digestOfTold, 7, (some .long))
theorem jmX6_digestOfTold : jM mX6_digestOfTold := ⟨by decide, (jin (List.mem_of_getElem? (i := 625) (by decide +kernel)) rfl), (jin (List.mem_of_getElem? (i := 61) (by decide +kernel)) rfl), ⟨by decide, by decide⟩, by decide⟩
abbrev mX7_init : jMI := (yX7_init, cX7_init, 2, none)
theorem jmX7_init : jM mX7_init := ⟨by decide, (jin (List.mem_of_getElem? (i := 632) (by decide +kernel)) rfl), (jin (List.mem_of_getElem? (i := 68) (by decide +kernel)) rfl), ⟨by decide, by decide⟩, by decide⟩
abbrev mX7_in : jMI := (yX7_in, cX7_in, 3, (some .boolean))
theorem jmX7_in : jM mX7_in := ⟨by decide, (jin (List.mem_of_getElem? (i := 709) (by decide +kernel)) rfl), (jin (List.mem_of_getElem? (i := 68) (by decide +kernel)) rfl), ⟨by decide, by decide⟩, by decide⟩
abbrev mX7_isIn : jMI := (yX7_isIn, cX7_isIn, 2, (some .boolean))
theorem jmX7_isIn : jM mX7_isIn := ⟨by decide, (jin (List.mem_of_getElem? (i := 925) (by decide +kernel)) rfl), (jin (List.mem_of_getElem? (i := 68) (by decide +kernel)) rfl), ⟨by decide, by decide⟩, by decide⟩
abbrev mX7_max : jMI := (yX7_max, cX7_max, 2, (some .int))
theorem jmX7_max : jM mX7_max := ⟨by decide, (jin (List.mem_of_getElem? (i := 847) (by decide +kernel)) rfl), (jin (List.mem_of_getElem? (i := 68) (by decide +kernel)) rfl), ⟨by decide, by decide⟩, by decide⟩
abbrev mX7_min : jMI := (yX7_min, cX7_min, 2, (some .int))
theorem jmX7_min : jM mX7_min := ⟨by decide, (jin (List.mem_of_getElem? (i := 858) (by decide +kernel)) rfl), (jin (List.mem_of_getElem? (i := 68) (by decide +kernel)) rfl), ⟨by decide, by decide⟩, by decide⟩
abbrev mX7_isList : jMI := (yX7_isList, cX7_isList, 1, (some .boolean))
theorem jmX7_isList : jM mX7_isList := ⟨by decide, (jin (List.mem_of_getElem? (i := 706) (by decide +kernel)) rfl), (jin (List.mem_of_getElem? (i := 68) (by decide +kernel)) rfl), ⟨by decide, by decide⟩, by decide⟩
abbrev mX7_isReel : jMI := (yX7_isReel, cX7_isReel, 1, (some .boolean))
theorem jmX7_isReel : jM mX7_isReel := ⟨by decide, (jin (List.mem_of_getElem? (i := 716) (by decide +kernel)) rfl), (jin (List.mem_of_getElem? (i := 68) (by decide +kernel)) rfl), ⟨by decide, by decide⟩, by decide⟩
abbrev mX7_isWell : jMI := (yX7_isWell, cX7_isWell, 2, (some .boolean))
theorem jmX7_isWell : jM mX7_isWell := ⟨by decide, (jin (List.mem_of_getElem? (i := 719) (by decide +kernel)) rfl), (jin (List.mem_of_getElem? (i := 68) (by decide +kernel)) rfl), ⟨by decide, by decide⟩, by decide⟩
abbrev mX7_adds : jMI := (yX7_adds, cX7_adds, 8, (some .int))
theorem jmX7_adds : jM mX7_adds := ⟨by decide, (jin (List.mem_of_getElem? (i := 713) (by decide +kernel)) rfl), (jin (List.mem_of_getElem? (i := 68) (by decide +kernel)) rfl), ⟨by decide, by decide⟩, by decide⟩
abbrev mX7_edit : jMI := (yX7_edit, cX7_edit, 7, (some .int))
theorem jmX7_edit : jM mX7_edit := ⟨by decide, (jin (List.mem_of_getElem? (i := 703) (by decide +kernel)) rfl), (jin (List.mem_of_getElem? (i := 68) (by decide +kernel)) rfl), ⟨by decide, by decide⟩, by decide⟩
abbrev mX7_back : jMI := (yX7_back, cX7_back, 2, (some .int))
theorem jmX7_back : jM mX7_back := ⟨by decide, (jin (List.mem_of_getElem? (i := 724) (by decide +kernel)) rfl), (jin (List.mem_of_getElem? (i := 68) (by decide +kernel)) rfl), ⟨by decide, by decide⟩, by decide⟩
abbrev mX7_isEdit : jMI := (yX7_isEdit, cX7_isEdit, 3, (some .boolean))
theorem jmX7_isEdit : jM mX7_isEdit := ⟨by decide, (jin (List.mem_of_getElem? (i := 732) (by decide +kernel)) rfl), (jin (List.mem_of_getElem? (i := 68) (by decide +kernel)) rfl), ⟨by decide, by decide⟩, by decide⟩
abbrev mX7_trim : jMI := (yX7_trim, cX7_trim, 7, (some .int))
theorem jmX7_trim : jM mX7_trim := ⟨by decide, (jin (List.mem_of_getElem? (i := 728) (by decide +kernel)) rfl), (jin (List.mem_of_getElem? (i := 68) (by decide +kernel)) rfl), ⟨by decide, by decide⟩, by decide⟩
abbrev mX7_isSetting : jMI := (yX7_isSetting, cX7_isSetting, 2, (some .boolean))
theorem jmX7_isSetting : jM mX7_isSetting := ⟨by decide, (jin (List.mem_of_getElem? (i := 739) (by decide +kernel)) rfl), (jin (List.mem_of_getElem? (i := 68) (by decide +kernel)) rfl), ⟨by decide, by decide⟩, by decide⟩
abbrev mX7_set : jMI := (yX7_set, cX7_set, 4, (some .int))
theorem jmX7_set : jM mX7_set := ⟨by decide, (jin (List.mem_of_getElem? (i := 736) (by decide +kernel)) rfl), (jin (List.mem_of_getElem? (i := 68) (by decide +kernel)) rfl), ⟨by decide, by decide⟩, by decide⟩
abbrev mX7_reel : jMI := (yX7_reel, cX7_reel, 4, (some .int))
theorem jmX7_reel : jM mX7_reel := ⟨by decide, (jin (List.mem_of_getElem? (i := 743) (by decide +kernel)) rfl), (jin (List.mem_of_getElem? (i := 68) (by decide +kernel)) rfl), ⟨by decide, by decide⟩, by decide⟩
abbrev mX7_swaps : jMI := (yX7_swaps, cX7_swaps, 3, none)
theorem jmX7_swaps : jM mX7_swaps := ⟨by decide, (jin (List.mem_of_getElem? (i := 751) (by decide +kernel)) rfl), (jin (List.mem_of_getElem? (i := 68) (by decide +kernel)) rfl), ⟨by decide, by decide⟩, by decide⟩
abbrev mX7_swap : jMI := (yX7_swap, cX7_swap, 2, (some .int))
theorem jmX7_swap : jM mX7_swap := ⟨by decide, (jin (List.mem_of_getElem? (i := 748) (by decide +kernel)) rfl), (jin (List.mem_of_getElem? (i := 68) (by decide +kernel)) rfl), ⟨by decide, by decide⟩, by decide⟩
abbrev mX7_read : jMI := (yX7_read, cX7_read, 5, (some .int))
theorem jmX7_read : jM mX7_read := ⟨by decide, (jin (List.mem_of_getElem? (i := 755) (by decide +kernel)) rfl), (jin (List.mem_of_getElem? (i := 68) (by decide +kernel)) rfl), ⟨by decide, by decide⟩, by decide⟩
abbrev mX7_frameOf : jMI := (yX7_frameOf, cX7_frameOf, 3, (some .int))
theorem jmX7_frameOf : jM mX7_frameOf := ⟨by decide, (jin (List.mem_of_getElem? (i := 782) (by decide +kernel)) rfl), (jin (List.mem_of_getElem? (i := 68) (by decide +kernel)) rfl), ⟨by decide, by decide⟩, by decide⟩
abbrev mX7_lastOf : jMI := (yX7_lastOf, cX7_lastOf, 2, (some .int))
theorem jmX7_lastOf : jM mX7_lastOf := ⟨by decide, (jin (List.mem_of_getElem? (i := 778) (by decide +kernel)) rfl), (jin (List.mem_of_getElem? (i := 68) (by decide +kernel)) rfl), ⟨by decide, by decide⟩, by decide⟩
abbrev mX7_beginOf : jMI := (yX7_beginOf, cX7_beginOf, 5, (some .int))
theorem jmX7_beginOf : jM mX7_beginOf := ⟨by decide, (jin (List.mem_of_getElem? (i := 774) (by decide +kernel)) rfl), (jin (List.mem_of_getElem? (i := 68) (by decide +kernel)) rfl), ⟨by decide, by decide⟩, by decide⟩
abbrev mX7_infoOf : jMI := (yX7_infoOf, cX7_infoOf, 5, (some .int))
theorem jmX7_infoOf : jM mX7_infoOf := ⟨by decide, (jin (List.mem_of_getElem? (i := 770) (by decide +kernel)) rfl), (jin (List.mem_of_getElem? (i := 68) (by decide +kernel)) rfl), ⟨by decide, by decide⟩, by decide⟩
abbrev mX7_info : jMI := (yX7_info, cX7_info, 4, (some .int))
theorem jmX7_info : jM mX7_info := ⟨by decide, (jin (List.mem_of_getElem? (i := 766) (by decide +kernel)) rfl), (jin (List.mem_of_getElem? (i := 68) (by decide +kernel)) rfl), ⟨by decide, by decide⟩, by decide⟩
abbrev mX7_showsOf : jMI := (yX7_showsOf, cX7_showsOf, 8, (some .int))
theorem jmX7_showsOf : jM mX7_showsOf := ⟨by decide, (jin (List.mem_of_getElem? (i := 790) (by decide +kernel)) rfl), (jin (List.mem_of_getElem? (i := 68) (by decide +kernel)) rfl), ⟨by decide, by decide⟩, by decide⟩
abbrev mX7_shows : jMI := (yX7_shows, cX7_shows, 4, (some .int))
theorem jmX7_shows : jM mX7_shows := ⟨by decide, (jin (List.mem_of_getElem? (i := 786) (by decide +kernel)) rfl), (jin (List.mem_of_getElem? (i := 68) (by decide +kernel)) rfl), ⟨by decide, by decide⟩, by decide⟩
abbrev mX7_seenOf : jMI := (yX7_seenOf, cX7_seenOf, 12, (some .int))
theorem jmX7_seenOf : jM mX7_seenOf := ⟨by decide, (jin (List.mem_of_getElem? (i := 799) (by decide +kernel)) rfl), (jin (List.mem_of_getElem? (i := 68) (by decide +kernel)) rfl), ⟨by decide, by decide⟩, by decide⟩
abbrev mX7_seen : jMI := (yX7_seen, cX7_seen, 5, (some .int))
theorem jmX7_seen : jM mX7_seen := ⟨by decide, (jin (List.mem_of_getElem? (i := 794) (by decide +kernel)) rfl), (jin (List.mem_of_getElem? (i := 68) (by decide +kernel)) rfl), ⟨by decide, by decide⟩, by decide⟩
abbrev mX7_stillOf : jMI := (yX7_stillOf, cX7_stillOf, 5, (some .int))
theorem jmX7_stillOf : jM mX7_stillOf := ⟨by decide, (jin (List.mem_of_getElem? (i := 807) (by decide +kernel)) rfl), (jin (List.mem_of_getElem? (i := 68) (by decide +kernel)) rfl), ⟨by decide, by decide⟩, by decide⟩
abbrev mX7_still : jMI := (yX7_still, cX7_still, 4, (some .int))
theorem jmX7_still : jM mX7_still := ⟨by decide, (jin (List.mem_of_getElem? (i := 803) (by decide +kernel)) rfl), (jin (List.mem_of_getElem? (i := 68) (by decide +kernel)) rfl), ⟨by decide, by decide⟩, by decide⟩
abbrev mX7_aSecond : jMI := (yX7_aSecond, cX7_aSecond, 1, (some .int))
theorem jmX7_aSecond : jM mX7_aSecond := ⟨by decide, (jin (List.mem_of_getElem? (i := 824) (by decide +kernel)) rfl), (jin (List.mem_of_getElem? (i := 68) (by decide +kernel)) rfl), ⟨by decide, by decide⟩, by decide⟩
abbrev mX7_numbered : jMI := (yX7_numbered, cX7_numbered, 4, (some .int))
theorem jmX7_numbered : jM mX7_numbered := ⟨by decide, (jin (List.mem_of_getElem? (i := 820) (by decide +kernel)) rfl), (jin (List.mem_of_getElem? (i := 68) (by decide +kernel)) rfl), ⟨by decide, by decide⟩, by decide⟩
abbrev mX7_toldOf : jMI := (yX7_toldOf, cX7_toldOf, 5, (some .int))
theorem jmX7_toldOf : jM mX7_toldOf := ⟨by decide, (jin (List.mem_of_getElem? (i := 816) (by decide +kernel)) rfl), (jin (List.mem_of_getElem? (i := 68) (by decide +kernel)) rfl), ⟨by decide, by decide⟩, by decide⟩
abbrev mX7_told : jMI := (yX7_told, cX7_told, 3, (some .int))
theorem jmX7_told : jM mX7_told := ⟨by decide, (jin (List.mem_of_getElem? (i := 811) (by decide +kernel)) rfl), (jin (List.mem_of_getElem? (i := 68) (by decide +kernel)) rfl), ⟨by decide, by decide⟩, by decide⟩
abbrev mX7_numberOf : jMI := (yX7_numberOf, cX7_numberOf, 7, (some .int))
theorem jmX7_numberOf : jM mX7_numberOf := ⟨by decide, (jin (List.mem_of_getElem? (i := 832) (by decide +kernel)) rfl), (jin (List.mem_of_getElem? (i := 68) (by decide +kernel)) rfl), ⟨by decide, by decide⟩, by decide⟩
abbrev mX7_number : jMI := (yX7_number, cX7_number, 5, (some .int))
theorem jmX7_number : jM mX7_number := ⟨by decide, (jin (List.mem_of_getElem? (i := 828) (by decide +kernel)) rfl), (jin (List.mem_of_getElem? (i := 68) (by decide +kernel)) rfl), ⟨by decide, by decide⟩, by decide⟩
abbrev mX7_copies : jMI := (yX7_copies, cX7_copies, 3, none)
theorem jmX7_copies : jM mX7_copies := ⟨by decide, (jin (List.mem_of_getElem? (i := 862) (by decide +kernel)) rfl), (jin (List.mem_of_getElem? (i := 68) (by decide +kernel)) rfl), ⟨by decide, by decide⟩, by decide⟩
abbrev mX7_areNear : jMI := (yX7_areNear, cX7_areNear, 3, (some .boolean))
theorem jmX7_areNear : jM mX7_areNear := ⟨by decide, (jin (List.mem_of_getElem? (i := 855) (by decide +kernel)) rfl), (jin (List.mem_of_getElem? (i := 68) (by decide +kernel)) rfl), ⟨by decide, by decide⟩, by decide⟩
abbrev mX7_joins : jMI := (yX7_joins, cX7_joins, 6, (some .boolean))
theorem jmX7_joins : jM mX7_joins := ⟨by decide, (jin (List.mem_of_getElem? (i := 851) (by decide +kernel)) rfl), (jin (List.mem_of_getElem? (i := 68) (by decide +kernel)) rfl), ⟨by decide, by decide⟩, by decide⟩
abbrev mX7_isAhead : jMI := (yX7_isAhead, cX7_isAhead, 3, (some .boolean))
theorem jmX7_isAhead : jM mX7_isAhead := ⟨by decide, (jin (List.mem_of_getElem? (i := 870) (by decide +kernel)) rfl), (jin (List.mem_of_getElem? (i := 68) (by decide +kernel)) rfl), ⟨by decide, by decide⟩, by decide⟩
abbrev mX7_orders : jMI := (yX7_orders, cX7_orders, 10, none)
theorem jmX7_orders : jM mX7_orders := ⟨by decide, (jin (List.mem_of_getElem? (i := 866) (by decide +kernel)) rfl), (jin (List.mem_of_getElem? (i := 68) (by decide +kernel)) rfl), ⟨by decide, by decide⟩, by decide⟩
abbrev mX7_pullsOf : jMI := (yX7_pullsOf, cX7_pullsOf, 6, none)
theorem jmX7_pullsOf : jM mX7_pullsOf := ⟨by decide, (jin (List.mem_of_getElem? (i := 844) (by decide +kernel)) rfl), (jin (List.mem_of_getElem? (i := 68) (by decide +kernel)) rfl), ⟨by decide, by decide⟩, by decide⟩
abbrev mX7_manyPulls : jMI := (yX7_manyPulls, cX7_manyPulls, 2, (some .int))
theorem jmX7_manyPulls : jM mX7_manyPulls := ⟨by decide, (jin (List.mem_of_getElem? (i := 840) (by decide +kernel)) rfl), (jin (List.mem_of_getElem? (i := 68) (by decide +kernel)) rfl), ⟨by decide, by decide⟩, by decide⟩
abbrev mX7_pulls : jMI := (yX7_pulls, cX7_pulls, 2, (some .int))
theorem jmX7_pulls : jM mX7_pulls := ⟨by decide, (jin (List.mem_of_getElem? (i := 836) (by decide +kernel)) rfl), (jin (List.mem_of_getElem? (i := 68) (by decide +kernel)) rfl), ⟨by decide, by decide⟩, by decide⟩
abbrev mX7_lacking : jMI := (yX7_lacking, cX7_lacking, 2, (some .int))
theorem jmX7_lacking : jM mX7_lacking := ⟨by decide, (jin (List.mem_of_getElem? (i := 882) (by decide +kernel)) rfl), (jin (List.mem_of_getElem? (i := 68) (by decide +kernel)) rfl), ⟨by decide, by decide⟩, by decide⟩
abbrev mX7_pullFor : jMI := (yX7_pullFor, cX7_pullFor, 6, (some .int))
theorem jmX7_pullFor : jM mX7_pullFor := ⟨by decide, (jin (List.mem_of_getElem? (i := 878) (by decide +kernel)) rfl), (jin (List.mem_of_getElem? (i := 68) (by decide +kernel)) rfl), ⟨by decide, by decide⟩, by decide⟩
abbrev mX7_pull : jMI := (yX7_pull, cX7_pull, 4, (some .int))
theorem jmX7_pull : jM mX7_pull := ⟨by decide, (jin (List.mem_of_getElem? (i := 874) (by decide +kernel)) rfl), (jin (List.mem_of_getElem? (i := 68) (by decide +kernel)) rfl), ⟨by decide, by decide⟩, by decide⟩
abbrev mX7_framesNow : jMI := (yX7_framesNow, cX7_framesNow, 4, (some .int))
theorem jmX7_framesNow : jM mX7_framesNow := ⟨by decide, (jin (List.mem_of_getElem? (i := 894) (by decide +kernel)) rfl), (jin (List.mem_of_getElem? (i := 68) (by decide +kernel)) rfl), ⟨by decide, by decide⟩, by decide⟩
abbrev mX7_isShown : jMI := (yX7_isShown, cX7_isShown, 6, (some .boolean))
theorem jmX7_isShown : jM mX7_isShown := ⟨by decide, (jin (List.mem_of_getElem? (i := 902) (by decide +kernel)) rfl), (jin (List.mem_of_getElem? (i := 68) (by decide +kernel)) rfl), ⟨by decide, by decide⟩, by decide⟩
abbrev mX7_freshOf : jMI := (yX7_freshOf, cX7_freshOf, 9, (some .int))
theorem jmX7_freshOf : jM mX7_freshOf := ⟨by decide, (jin (List.mem_of_getElem? (i := 898) (by decide +kernel)) rfl), (jin (List.mem_of_getElem? (i := 68) (by decide +kernel)) rfl), ⟨by decide, by decide⟩, by decide⟩
abbrev mX7_wasteOf : jMI := (yX7_wasteOf, cX7_wasteOf, 4, (some .int))
theorem jmX7_wasteOf : jM mX7_wasteOf := ⟨by decide, (jin (List.mem_of_getElem? (i := 890) (by decide +kernel)) rfl), (jin (List.mem_of_getElem? (i := 68) (by decide +kernel)) rfl), ⟨by decide, by decide⟩, by decide⟩
abbrev mX7_waste : jMI := (yX7_waste, cX7_waste, 2, (some .int))
theorem jmX7_waste : jM mX7_waste := ⟨by decide, (jin (List.mem_of_getElem? (i := 886) (by decide +kernel)) rfl), (jin (List.mem_of_getElem? (i := 68) (by decide +kernel)) rfl), ⟨by decide, by decide⟩, by decide⟩
abbrev mX7_totalOf : jMI := (yX7_totalOf, cX7_totalOf, 5, (some .int))
theorem jmX7_totalOf : jM mX7_totalOf := ⟨by decide, (jin (List.mem_of_getElem? (i := 910) (by decide +kernel)) rfl), (jin (List.mem_of_getElem? (i := 68) (by decide +kernel)) rfl), ⟨by decide, by decide⟩, by decide⟩
abbrev mX7_total : jMI := (yX7_total, cX7_total, 3, (some .int))
theorem jmX7_total : jM mX7_total := ⟨by decide, (jin (List.mem_of_getElem? (i := 906) (by decide +kernel)) rfl), (jin (List.mem_of_getElem? (i := 68) (by decide +kernel)) rfl), ⟨by decide, by decide⟩, by decide⟩
abbrev mX7_isLike : jMI := (yX7_isLike, cX7_isLike, 3, (some .boolean))
theorem jmX7_isLike : jM mX7_isLike := ⟨by decide, (jin (List.mem_of_getElem? (i := 929) (by decide +kernel)) rfl), (jin (List.mem_of_getElem? (i := 68) (by decide +kernel)) rfl), ⟨by decide, by decide⟩, by decide⟩
abbrev mX7_compares : jMI := (yX7_compares, cX7_compares, 5, none)
theorem jmX7_compares : jM mX7_compares := ⟨by decide, (jin (List.mem_of_getElem? (i := 922) (by decide +kernel)) rfl), (jin (List.mem_of_getElem? (i := 68) (by decide +kernel)) rfl), ⟨by decide, by decide⟩, by decide⟩
abbrev mX7_kindOf : jMI := (yX7_kindOf, cX7_kindOf, 3, (some .int))
theorem jmX7_kindOf : jM mX7_kindOf := ⟨by decide, (jin (List.mem_of_getElem? (i := 933) (by decide +kernel)) rfl), (jin (List.mem_of_getElem? (i := 68) (by decide +kernel)) rfl), ⟨by decide, by decide⟩, by decide⟩
abbrev mX7_compareOf : jMI := (yX7_compareOf, cX7_compareOf, 4, (some .int))
theorem jmX7_compareOf : jM mX7_compareOf := ⟨by decide, (jin (List.mem_of_getElem? (i := 918) (by decide +kernel)) rfl), (jin (List.mem_of_getElem? (i := 68) (by decide +kernel)) rfl), ⟨by decide, by decide⟩, by decide⟩
abbrev mX7_compare : jMI := (yX7_compare, cX7_compare, 3, (some .int))
theorem jmX7_compare : jM mX7_compare := ⟨by decide, (jin (List.mem_of_getElem? (i := 914) (by decide +kernel)) rfl), (jin (List.mem_of_getElem? (i := 68) (by decide +kernel)) rfl), ⟨by decide, by decide⟩, by decide⟩
abbrev mX7_goneOf : jMI := (yX7_goneOf, cX7_goneOf, 1, (some .int))
theorem jmX7_goneOf : jM mX7_goneOf := ⟨by decide, (jin (List.mem_of_getElem? (i := 941) (by decide +kernel)) rfl), (jin (List.mem_of_getElem? (i := 68) (by decide +kernel)) rfl), ⟨by decide, by decide⟩, by decide⟩
abbrev mX7_gone : jMI := (yX7_gone, cX7_gone, 1, (some .int))
theorem jmX7_gone : jM mX7_gone := ⟨by decide, (jin (List.mem_of_getElem? (i := 937) (by decide +kernel)) rfl), (jin (List.mem_of_getElem? (i := 68) (by decide +kernel)) rfl), ⟨by decide, by decide⟩, by decide⟩
abbrev mX7_isPulled : jMI := (yX7_isPulled, cX7_isPulled, 5, (some .boolean))
theorem jmX7_isPulled : jM mX7_isPulled := ⟨by decide, (jin (List.mem_of_getElem? (i := 953) (by decide +kernel)) rfl), (jin (List.mem_of_getElem? (i := 68) (by decide +kernel)) rfl), ⟨by decide, by decide⟩, by decide⟩
abbrev mX7_anewOf : jMI := (yX7_anewOf, cX7_anewOf, 7, (some .int))
theorem jmX7_anewOf : jM mX7_anewOf := ⟨by decide, (jin (List.mem_of_getElem? (i := 949) (by decide +kernel)) rfl), (jin (List.mem_of_getElem? (i := 68) (by decide +kernel)) rfl), ⟨by decide, by decide⟩, by decide⟩
abbrev mX7_anew : jMI := (yX7_anew, cX7_anew, 2, (some .int))
theorem jmX7_anew : jM mX7_anew := ⟨by decide, (jin (List.mem_of_getElem? (i := 945) (by decide +kernel)) rfl), (jin (List.mem_of_getElem? (i := 68) (by decide +kernel)) rfl), ⟨by decide, by decide⟩, by decide⟩
abbrev mX7_savingOf : jMI := (yX7_savingOf, cX7_savingOf, 7, (some .int))
theorem jmX7_savingOf : jM mX7_savingOf := ⟨by decide, (jin (List.mem_of_getElem? (i := 962) (by decide +kernel)) rfl), (jin (List.mem_of_getElem? (i := 68) (by decide +kernel)) rfl), ⟨by decide, by decide⟩, by decide⟩
abbrev mX7_saving : jMI := (yX7_saving, cX7_saving, 2, (some .int))
theorem jmX7_saving : jM mX7_saving := ⟨by decide, (jin (List.mem_of_getElem? (i := 958) (by decide +kernel)) rfl), (jin (List.mem_of_getElem? (i := 68) (by decide +kernel)) rfl), ⟨by decide, by decide⟩, by decide⟩
abbrev mX7_meets : jMI := (yX7_meets, cX7_meets, 2, (some .int))
theorem jmX7_meets : jM mX7_meets := ⟨by decide, (jin (List.mem_of_getElem? (i := 762) (by decide +kernel)) rfl), (jin (List.mem_of_getElem? (i := 68) (by decide +kernel)) rfl), ⟨by decide, by decide⟩, by decide⟩
abbrev mX7_isSheet : jMI := (yX7_isSheet, cX7_isSheet, 1, (some .boolean))
theorem jmX7_isSheet : jM mX7_isSheet := ⟨by decide, (jin (List.mem_of_getElem? (i := 758) (by decide +kernel)) rfl), (jin (List.mem_of_getElem? (i := 68) (by decide +kernel)) rfl), ⟨by decide, by decide⟩, by decide⟩
abbrev mX7_sheet : jMI := (yX7_sheet, cX7_sheet, 5, (some .int))
theorem jmX7_sheet : jM mX7_sheet := ⟨by decide, (jin (List.mem_of_getElem? (i := 966) (by decide +kernel)) rfl), (jin (List.mem_of_getElem? (i := 68) (by decide +kernel)) rfl), ⟨by decide, by decide⟩, by decide⟩
abbrev mX7_lose : jMI := (yX7_lose, cX7_lose, 2, (some .int))
theorem jmX7_lose : jM mX7_lose := ⟨by decide, (jin (List.mem_of_getElem? (i := 970) (by decide +kernel)) rfl), (jin (List.mem_of_getElem? (i := 68) (by decide +kernel)) rfl), ⟨by decide, by decide⟩, by decide⟩
abbrev mX7_lacks : jMI := (yX7_lacks, cX7_lacks, 4, (some .int))
theorem jmX7_lacks : jM mX7_lacks := ⟨by decide, (jin (List.mem_of_getElem? (i := 978) (by decide +kernel)) rfl), (jin (List.mem_of_getElem? (i := 68) (by decide +kernel)) rfl), ⟨by decide, by decide⟩, by decide⟩
abbrev mX7_keep : jMI := (yX7_keep, cX7_keep, 4, none)
theorem jmX7_keep : jM mX7_keep := ⟨by decide, (jin (List.mem_of_getElem? (i := 982) (by decide +kernel)) rfl), (jin (List.mem_of_getElem? (i := 68) (by decide +kernel)) rfl), ⟨by decide, by decide⟩, by decide⟩
abbrev mX7_put : jMI := (yX7_put, cX7_put, 6, (some .int))
theorem jmX7_put : jM mX7_put := ⟨by decide, (jin (List.mem_of_getElem? (i := 974) (by decide +kernel)) rfl), (jin (List.mem_of_getElem? (i := 68) (by decide +kernel)) rfl), ⟨by decide, by decide⟩, by decide⟩
abbrev mX7_get : jMI := (yX7_get, cX7_get, 5, (some .int))
theorem jmX7_get : jM mX7_get := ⟨by decide, (jin (List.mem_of_getElem? (i := 986) (by decide +kernel)) rfl), (jin (List.mem_of_getElem? (i := 68) (by decide +kernel)) rfl), ⟨by decide, by decide⟩, by decide⟩
abbrev mX7_copy : jMI := (yX7_copy, cX7_copy, 7, (some .int))
theorem jmX7_copy : jM mX7_copy := ⟨by decide, (jin (List.mem_of_getElem? (i := 991) (by decide +kernel)) rfl), (jin (List.mem_of_getElem? (i := 68) (by decide +kernel)) rfl), ⟨by decide, by decide⟩, by decide⟩
abbrev mX7_write : jMI := (yX7_write, cX7_write, 5, (some .int))
theorem jmX7_write : jM mX7_write := ⟨by decide, (jin (List.mem_of_getElem? (i := 995) (by decide +kernel)) rfl), (jin (List.mem_of_getElem? (i := 68) (by decide +kernel)) rfl), ⟨by decide, by decide⟩, by decide⟩
abbrev mX7_keptOf : jMI := (yX7_keptOf, cX7_keptOf, 3, (some .int))
theorem jmX7_keptOf : jM mX7_keptOf := ⟨by decide, (jin (List.mem_of_getElem? (i := 1003) (by decide +kernel)) rfl), (jin (List.mem_of_getElem? (i := 68) (by decide +kernel)) rfl), ⟨by decide, by decide⟩, by decide⟩
abbrev mX7_count : jMI := (yX7_count, cX7_count, 2, (some .int))
theorem jmX7_count : jM mX7_count := ⟨by decide, (jin (List.mem_of_getElem? (i := 999) (by decide +kernel)) rfl), (jin (List.mem_of_getElem? (i := 68) (by decide +kernel)) rfl), ⟨by decide, by decide⟩, by decide⟩
abbrev mX7_listDigest : jMI := (yX7_listDigest, cX7_listDigest, 8, (some .long))
theorem jmX7_listDigest : jM mX7_listDigest := ⟨by decide, (jin (List.mem_of_getElem? (i := 1014) (by decide +kernel)) rfl), (jin (List.mem_of_getElem? (i := 68) (by decide +kernel)) rfl), ⟨by decide, by decide⟩, by decide⟩
abbrev mX7_toldDigest : jMI := (yX7_toldDigest, cX7_toldDigest, 7, (some .long))
theorem jmX7_toldDigest : jM mX7_toldDigest := ⟨by decide, (jin (List.mem_of_getElem? (i := 1018) (by decide +kernel)) rfl), (jin (List.mem_of_getElem? (i := 68) (by decide +kernel)) rfl), ⟨by decide, by decide⟩, by decide⟩
abbrev mX7_digest : jMI := (yX7_digest, cX7_digest, 5, (some .long))
theorem jmX7_digest : jM mX7_digest := ⟨by decide, (jin (List.mem_of_getElem? (i := 1007) (by decide +kernel)) rfl), (jin (List.mem_of_getElem? (i := 68) (by decide +kernel)) rfl), ⟨by decide, by decide⟩, by decide⟩
abbrev mJ7_fill_53178 : jMI := (yJ7_fill_53178, cJ7_fill_53178, 4, none)
theorem jmJ7_fill_53178 : jM mJ7_fill_53178 := ⟨by decide, (jin (List.mem_of_getElem? (i := 204) (by decide +kernel)) rfl), (jin (List.mem_of_getElem? (i := 67) (by decide +kernel)) rfl), ⟨by decide, by decide⟩, by decide⟩
theorem fl_X6_11 : jFL RX6 11 5 0 := ⟨RX6, TX6, 8, rfl, by decide, in_X6, (jin (List.mem_of_getElem? (i := 205) (by decide +kernel)) rfl)⟩
theorem fl_X6_15 : jFL RX6 15 5 1 := ⟨RX6, TX6, 8, rfl, by decide, in_X6, (jin (List.mem_of_getElem? (i := 206) (by decide +kernel)) rfl)⟩
theorem fl_X6_22 : jFL RX6 22 5 2 := ⟨RX6, TX6, 8, rfl, by decide, in_X6, (jin (List.mem_of_getElem? (i := 207) (by decide +kernel)) rfl)⟩
theorem fl_X6_27 : jFL RX6 27 5 3 := ⟨RX6, TX6, 8, rfl, by decide, in_X6, (jin (List.mem_of_getElem? (i := 208) (by decide +kernel)) rfl)⟩
theorem fl_X6_33 : jFL RX6 33 5 4 := ⟨RX6, TX6, 8, rfl, by decide, in_X6, (jin (List.mem_of_getElem? (i := 209) (by decide +kernel)) rfl)⟩
theorem fl_X6_40 : jFL RX6 40 5 5 := ⟨RX6, TX6, 8, rfl, by decide, in_X6, (jin (List.mem_of_getElem? (i := 210) (by decide +kernel)) rfl)⟩
theorem fl_X6_47 : jFL RX6 47 5 6 := ⟨RX6, TX6, 8, rfl, by decide, in_X6, (jin (List.mem_of_getElem? (i := 211) (by decide +kernel)) rfl)⟩
theorem fl_X6_76 : jFL RX6 76 0 1 := ⟨RX1, TX1, 2, rfl, by decide, in_X1, (jin (List.mem_of_getElem? (i := 172) (by decide +kernel)) rfl)⟩
theorem fl_X6_86 : jFL RX6 86 0 0 := ⟨RX1, TX1, 2, rfl, by decide, in_X1, (jin (List.mem_of_getElem? (i := 170) (by decide +kernel)) rfl)⟩
theorem fl_X6_101 : jFL RX6 101 3 1 := ⟨RX4, TX4, 4, rfl, by decide, in_X4, (jin (List.mem_of_getElem? (i := 187) (by decide +kernel)) rfl)⟩
theorem fl_X6_108 : jFL RX6 108 3 3 := ⟨RX4, TX4, 4, rfl, by decide, in_X4, (jin (List.mem_of_getElem? (i := 191) (by decide +kernel)) rfl)⟩
theorem fl_X6_122 : jFL RX6 122 5 7 := ⟨RX6, TX6, 8, rfl, by decide, in_X6, (jin (List.mem_of_getElem? (i := 212) (by decide +kernel)) rfl)⟩
theorem fl_X6_125 : jFL RX6 125 1 0 := ⟨RX2, TX2, 5, rfl, by decide, in_X2, (jin (List.mem_of_getElem? (i := 143) (by decide +kernel)) rfl)⟩
theorem fl_X6_128 : jFL RX6 128 1 1 := ⟨RX2, TX2, 5, rfl, by decide, in_X2, (jin (List.mem_of_getElem? (i := 146) (by decide +kernel)) rfl)⟩
theorem fl_X6_131 : jFL RX6 131 1 2 := ⟨RX2, TX2, 5, rfl, by decide, in_X2, (jin (List.mem_of_getElem? (i := 150) (by decide +kernel)) rfl)⟩
theorem fl_X6_134 : jFL RX6 134 1 3 := ⟨RX2, TX2, 5, rfl, by decide, in_X2, (jin (List.mem_of_getElem? (i := 153) (by decide +kernel)) rfl)⟩
theorem fl_X6_137 : jFL RX6 137 1 4 := ⟨RX2, TX2, 5, rfl, by decide, in_X2, (jin (List.mem_of_getElem? (i := 156) (by decide +kernel)) rfl)⟩
theorem fl_X6_194 : jFL RX6 194 4 4 := ⟨RX5, TX5, 5, rfl, by decide, in_X5, (jin (List.mem_of_getElem? (i := 102) (by decide +kernel)) rfl)⟩
theorem fl_X6_195 : jFL RX6 195 4 0 := ⟨RX5, TX5, 5, rfl, by decide, in_X5, (jin (List.mem_of_getElem? (i := 94) (by decide +kernel)) rfl)⟩
theorem fl_X6_198 : jFL RX6 198 4 1 := ⟨RX5, TX5, 5, rfl, by decide, in_X5, (jin (List.mem_of_getElem? (i := 96) (by decide +kernel)) rfl)⟩
theorem fl_X6_201 : jFL RX6 201 4 2 := ⟨RX5, TX5, 5, rfl, by decide, in_X5, (jin (List.mem_of_getElem? (i := 98) (by decide +kernel)) rfl)⟩
theorem fl_X6_204 : jFL RX6 204 4 3 := ⟨RX5, TX5, 5, rfl, by decide, in_X5, (jin (List.mem_of_getElem? (i := 100) (by decide +kernel)) rfl)⟩
theorem fl_X6_248 : jFL RX6 248 2 1 := ⟨RX3, TX3, 2, rfl, by decide, in_X3, (jin (List.mem_of_getElem? (i := 123) (by decide +kernel)) rfl)⟩
theorem fl_X6_276 : jFL RX6 276 3 2 := ⟨RX4, TX4, 4, rfl, by decide, in_X4, (jin (List.mem_of_getElem? (i := 189) (by decide +kernel)) rfl)⟩
theorem fl_X6_282 : jFL RX6 282 3 0 := ⟨RX4, TX4, 4, rfl, by decide, in_X4, (jin (List.mem_of_getElem? (i := 185) (by decide +kernel)) rfl)⟩
theorem fs_X6_19 : Cond.fieldLink RX6 19 RX6 "HIGHEST_SETTING" "[I" ∈ jtb := (jin (List.mem_of_getElem? (i := 82) (by decide +kernel)) rfl)
theorem fs_X6_116 : Cond.fieldLink RX6 116 RX6 "HIGHEST_PART" "[I" ∈ jtb := (jin (List.mem_of_getElem? (i := 243) (by decide +kernel)) rfl)
theorem fs_X6_119 : Cond.fieldLink RX6 119 RX6 "LEAST_PART" "[I" ∈ jtb := (jin (List.mem_of_getElem? (i := 245) (by decide +kernel)) rfl)
theorem ms_X6_54 : jMS RX6 54 mJ7_fill_53178 2 := ⟨(jin (List.mem_of_getElem? (i := 202) (by decide +kernel)) rfl), (jin (List.mem_of_getElem? (i := 203) (by decide +kernel)) rfl), by decide +kernel⟩
theorem ms_X6_60 : jMS RX6 60 mX6_isBelow 2 := ⟨(jin (List.mem_of_getElem? (i := 234) (by decide +kernel)) rfl), (jin (List.mem_of_getElem? (i := 235) (by decide +kernel)) rfl), by decide +kernel⟩
theorem ms_X6_64 : jMS RX6 64 mX6_mayBeEdit 5 := ⟨(jin (List.mem_of_getElem? (i := 237) (by decide +kernel)) rfl), (jin (List.mem_of_getElem? (i := 238) (by decide +kernel)) rfl), by decide +kernel⟩
theorem ms_X6_83 : jMS RX6 83 mX6_mayBePart 2 := ⟨(jin (List.mem_of_getElem? (i := 240) (by decide +kernel)) rfl), (jin (List.mem_of_getElem? (i := 241) (by decide +kernel)) rfl), by decide +kernel⟩
theorem ms_X6_109 : jMS RX6 109 mX6_appendFrom 3 := ⟨(jin (List.mem_of_getElem? (i := 297) (by decide +kernel)) rfl), (jin (List.mem_of_getElem? (i := 298) (by decide +kernel)) rfl), by decide +kernel⟩
theorem ms_X6_174 : jMS RX6 174 mX0_part 3 := ⟨(jin (List.mem_of_getElem? (i := 384) (by decide +kernel)) rfl), (jin (List.mem_of_getElem? (i := 385) (by decide +kernel)) rfl), by decide +kernel⟩
theorem ms_X6_179 : jMS RX6 179 mX0_rate 1 := ⟨(jin (List.mem_of_getElem? (i := 397) (by decide +kernel)) rfl), (jin (List.mem_of_getElem? (i := 388) (by decide +kernel)) rfl), by decide +kernel⟩
theorem ms_X6_182 : jMS RX6 182 mX0_isLeftOut 3 := ⟨(jin (List.mem_of_getElem? (i := 398) (by decide +kernel)) rfl), (jin (List.mem_of_getElem? (i := 399) (by decide +kernel)) rfl), by decide +kernel⟩
theorem ms_X6_186 : jMS RX6 186 mX0_frame 4 := ⟨(jin (List.mem_of_getElem? (i := 401) (by decide +kernel)) rfl), (jin (List.mem_of_getElem? (i := 402) (by decide +kernel)) rfl), by decide +kernel⟩
theorem ms_X6_222 : Cond.methodLink RX6 222 Lib.Math.max.name ∈ jtb := (jin (List.mem_of_getElem? (i := 412) (by decide +kernel)) rfl)
theorem ms_X6_257 : Cond.methodLink RX6 257 Lib.Math.min.name ∈ jtb := (jin (List.mem_of_getElem? (i := 522) (by decide +kernel)) rfl)
theorem ms_X6_285 : Cond.methodLink RX6 285 arraycopyName ∈ jtb := (jin (List.mem_of_getElem? (i := 580) (by decide +kernel)) rfl)
theorem mv_X6_68 : jMV RX6 68 mX1_isFull 0 := ⟨(jin (List.mem_of_getElem? (i := 247) (by decide +kernel)) rfl), (jin (List.mem_of_getElem? (i := 248) (by decide +kernel)) rfl), (jin (List.mem_of_getElem? (i := 249) (by decide +kernel)) rfl), by decide +kernel⟩
theorem mv_X6_72 : jMV RX6 72 mX1_append 5 := ⟨(jin (List.mem_of_getElem? (i := 251) (by decide +kernel)) rfl), (jin (List.mem_of_getElem? (i := 252) (by decide +kernel)) rfl), (jin (List.mem_of_getElem? (i := 253) (by decide +kernel)) rfl), by decide +kernel⟩
theorem mv_X6_80 : jMV RX6 80 mX6_isEdit 2 := ⟨(jin (List.mem_of_getElem? (i := 264) (by decide +kernel)) rfl), (jin (List.mem_of_getElem? (i := 266) (by decide +kernel)) rfl), (jin (List.mem_of_getElem? (i := 0) (by decide +kernel)) rfl), by decide +kernel⟩
theorem mv_X6_90 : jMV RX6 90 mX2_part 1 := ⟨(jin (List.mem_of_getElem? (i := 268) (by decide +kernel)) rfl), (jin (List.mem_of_getElem? (i := 269) (by decide +kernel)) rfl), (jin (List.mem_of_getElem? (i := 270) (by decide +kernel)) rfl), by decide +kernel⟩
theorem mv_X6_96 : jMV RX6 96 mX2_become 2 := ⟨(jin (List.mem_of_getElem? (i := 272) (by decide +kernel)) rfl), (jin (List.mem_of_getElem? (i := 273) (by decide +kernel)) rfl), (jin (List.mem_of_getElem? (i := 274) (by decide +kernel)) rfl), by decide +kernel⟩
theorem mv_X6_105 : jMV RX6 105 mX6_found 1 := ⟨(jin (List.mem_of_getElem? (i := 293) (by decide +kernel)) rfl), (jin (List.mem_of_getElem? (i := 295) (by decide +kernel)) rfl), (jin (List.mem_of_getElem? (i := 1) (by decide +kernel)) rfl), by decide +kernel⟩
theorem mv_X6_113 : jMV RX6 113 mX4_item 1 := ⟨(jin (List.mem_of_getElem? (i := 300) (by decide +kernel)) rfl), (jin (List.mem_of_getElem? (i := 301) (by decide +kernel)) rfl), (jin (List.mem_of_getElem? (i := 302) (by decide +kernel)) rfl), by decide +kernel⟩
theorem mv_X6_140 : jMV RX6 140 mX1_begin 1 := ⟨(jin (List.mem_of_getElem? (i := 309) (by decide +kernel)) rfl), (jin (List.mem_of_getElem? (i := 310) (by decide +kernel)) rfl), (jin (List.mem_of_getElem? (i := 311) (by decide +kernel)) rfl), by decide +kernel⟩
theorem mv_X6_143 : jMV RX6 143 mX2_first 0 := ⟨(jin (List.mem_of_getElem? (i := 313) (by decide +kernel)) rfl), (jin (List.mem_of_getElem? (i := 314) (by decide +kernel)) rfl), (jin (List.mem_of_getElem? (i := 315) (by decide +kernel)) rfl), by decide +kernel⟩
theorem mv_X6_147 : jMV RX6 147 mX2_last 0 := ⟨(jin (List.mem_of_getElem? (i := 321) (by decide +kernel)) rfl), (jin (List.mem_of_getElem? (i := 322) (by decide +kernel)) rfl), (jin (List.mem_of_getElem? (i := 323) (by decide +kernel)) rfl), by decide +kernel⟩
theorem mv_X6_150 : jMV RX6 150 mX1_holder 1 := ⟨(jin (List.mem_of_getElem? (i := 329) (by decide +kernel)) rfl), (jin (List.mem_of_getElem? (i := 330) (by decide +kernel)) rfl), (jin (List.mem_of_getElem? (i := 331) (by decide +kernel)) rfl), by decide +kernel⟩
theorem mv_X6_153 : jMV RX6 153 mX2_frameAt 1 := ⟨(jin (List.mem_of_getElem? (i := 333) (by decide +kernel)) rfl), (jin (List.mem_of_getElem? (i := 318) (by decide +kernel)) rfl), (jin (List.mem_of_getElem? (i := 319) (by decide +kernel)) rfl), by decide +kernel⟩
theorem mv_X6_156 : jMV RX6 156 mX6_lengthOf 1 := ⟨(jin (List.mem_of_getElem? (i := 334) (by decide +kernel)) rfl), (jin (List.mem_of_getElem? (i := 336) (by decide +kernel)) rfl), (jin (List.mem_of_getElem? (i := 2) (by decide +kernel)) rfl), by decide +kernel⟩
theorem mv_X6_160 : jMV RX6 160 mX1_times 2 := ⟨(jin (List.mem_of_getElem? (i := 343) (by decide +kernel)) rfl), (jin (List.mem_of_getElem? (i := 344) (by decide +kernel)) rfl), (jin (List.mem_of_getElem? (i := 345) (by decide +kernel)) rfl), by decide +kernel⟩
theorem mv_X6_164 : jMV RX6 164 mX1_firstShowing 2 := ⟨(jin (List.mem_of_getElem? (i := 355) (by decide +kernel)) rfl), (jin (List.mem_of_getElem? (i := 356) (by decide +kernel)) rfl), (jin (List.mem_of_getElem? (i := 357) (by decide +kernel)) rfl), by decide +kernel⟩
theorem mv_X6_167 : jMV RX6 167 mX2_reach 0 := ⟨(jin (List.mem_of_getElem? (i := 368) (by decide +kernel)) rfl), (jin (List.mem_of_getElem? (i := 369) (by decide +kernel)) rfl), (jin (List.mem_of_getElem? (i := 370) (by decide +kernel)) rfl), by decide +kernel⟩
theorem mv_X6_170 : jMV RX6 170 mX2_different 0 := ⟨(jin (List.mem_of_getElem? (i := 374) (by decide +kernel)) rfl), (jin (List.mem_of_getElem? (i := 375) (by decide +kernel)) rfl), (jin (List.mem_of_getElem? (i := 376) (by decide +kernel)) rfl), by decide +kernel⟩
theorem mv_X6_190 : jMV RX6 190 mX6_gather 2 := ⟨(jin (List.mem_of_getElem? (i := 408) (by decide +kernel)) rfl), (jin (List.mem_of_getElem? (i := 410) (by decide +kernel)) rfl), (jin (List.mem_of_getElem? (i := 4) (by decide +kernel)) rfl), by decide +kernel⟩
theorem mv_X6_207 : jMV RX6 207 mX6_lacking 2 := ⟨(jin (List.mem_of_getElem? (i := 444) (by decide +kernel)) rfl), (jin (List.mem_of_getElem? (i := 446) (by decide +kernel)) rfl), (jin (List.mem_of_getElem? (i := 9) (by decide +kernel)) rfl), by decide +kernel⟩
theorem mv_X6_211 : jMV RX6 211 mX5_frames 0 := ⟨(jin (List.mem_of_getElem? (i := 452) (by decide +kernel)) rfl), (jin (List.mem_of_getElem? (i := 453) (by decide +kernel)) rfl), (jin (List.mem_of_getElem? (i := 454) (by decide +kernel)) rfl), by decide +kernel⟩
theorem mv_X6_214 : jMV RX6 214 mX1_shownFrames 0 := ⟨(jin (List.mem_of_getElem? (i := 456) (by decide +kernel)) rfl), (jin (List.mem_of_getElem? (i := 457) (by decide +kernel)) rfl), (jin (List.mem_of_getElem? (i := 458) (by decide +kernel)) rfl), by decide +kernel⟩
theorem mv_X6_217 : jMV RX6 217 mX1_frames 0 := ⟨(jin (List.mem_of_getElem? (i := 466) (by decide +kernel)) rfl), (jin (List.mem_of_getElem? (i := 467) (by decide +kernel)) rfl), (jin (List.mem_of_getElem? (i := 468) (by decide +kernel)) rfl), by decide +kernel⟩
theorem mv_X6_218 : jMV RX6 218 mX6_lackingOfAll 1 := ⟨(jin (List.mem_of_getElem? (i := 470) (by decide +kernel)) rfl), (jin (List.mem_of_getElem? (i := 472) (by decide +kernel)) rfl), (jin (List.mem_of_getElem? (i := 10) (by decide +kernel)) rfl), by decide +kernel⟩
theorem mv_X6_227 : jMV RX6 227 mX5_insert 4 := ⟨(jin (List.mem_of_getElem? (i := 415) (by decide +kernel)) rfl), (jin (List.mem_of_getElem? (i := 416) (by decide +kernel)) rfl), (jin (List.mem_of_getElem? (i := 417) (by decide +kernel)) rfl), by decide +kernel⟩
theorem mv_X6_231 : jMV RX6 231 mX5_join 1 := ⟨(jin (List.mem_of_getElem? (i := 435) (by decide +kernel)) rfl), (jin (List.mem_of_getElem? (i := 436) (by decide +kernel)) rfl), (jin (List.mem_of_getElem? (i := 437) (by decide +kernel)) rfl), by decide +kernel⟩
theorem mv_X6_234 : jMV RX6 234 mX3_pair 2 := ⟨(jin (List.mem_of_getElem? (i := 478) (by decide +kernel)) rfl), (jin (List.mem_of_getElem? (i := 479) (by decide +kernel)) rfl), (jin (List.mem_of_getElem? (i := 480) (by decide +kernel)) rfl), by decide +kernel⟩
theorem mv_X6_238 : jMV RX6 238 mX3_kind 3 := ⟨(jin (List.mem_of_getElem? (i := 495) (by decide +kernel)) rfl), (jin (List.mem_of_getElem? (i := 496) (by decide +kernel)) rfl), (jin (List.mem_of_getElem? (i := 497) (by decide +kernel)) rfl), by decide +kernel⟩
theorem mv_X6_242 : jMV RX6 242 mX3_partner 1 := ⟨(jin (List.mem_of_getElem? (i := 505) (by decide +kernel)) rfl), (jin (List.mem_of_getElem? (i := 500) (by decide +kernel)) rfl), (jin (List.mem_of_getElem? (i := 501) (by decide +kernel)) rfl), by decide +kernel⟩
theorem mv_X6_245 : jMV RX6 245 mX3_later 3 := ⟨(jin (List.mem_of_getElem? (i := 506) (by decide +kernel)) rfl), (jin (List.mem_of_getElem? (i := 507) (by decide +kernel)) rfl), (jin (List.mem_of_getElem? (i := 508) (by decide +kernel)) rfl), by decide +kernel⟩
theorem mv_X6_251 : jMV RX6 251 mX6_gatherFresh 0 := ⟨(jin (List.mem_of_getElem? (i := 518) (by decide +kernel)) rfl), (jin (List.mem_of_getElem? (i := 520) (by decide +kernel)) rfl), (jin (List.mem_of_getElem? (i := 13) (by decide +kernel)) rfl), by decide +kernel⟩
theorem mv_X6_254 : jMV RX6 254 mX5_nth 1 := ⟨(jin (List.mem_of_getElem? (i := 533) (by decide +kernel)) rfl), (jin (List.mem_of_getElem? (i := 534) (by decide +kernel)) rfl), (jin (List.mem_of_getElem? (i := 535) (by decide +kernel)) rfl), by decide +kernel⟩
theorem mv_X6_260 : jMV RX6 260 mX6_addWithout 4 := ⟨(jin (List.mem_of_getElem? (i := 525) (by decide +kernel)) rfl), (jin (List.mem_of_getElem? (i := 527) (by decide +kernel)) rfl), (jin (List.mem_of_getElem? (i := 14) (by decide +kernel)) rfl), by decide +kernel⟩
theorem mv_X6_264 : jMV RX6 264 mX5_append 3 := ⟨(jin (List.mem_of_getElem? (i := 529) (by decide +kernel)) rfl), (jin (List.mem_of_getElem? (i := 530) (by decide +kernel)) rfl), (jin (List.mem_of_getElem? (i := 531) (by decide +kernel)) rfl), by decide +kernel⟩
theorem mv_X6_267 : jMV RX6 267 mX4_begin 2 := ⟨(jin (List.mem_of_getElem? (i := 546) (by decide +kernel)) rfl), (jin (List.mem_of_getElem? (i := 547) (by decide +kernel)) rfl), (jin (List.mem_of_getElem? (i := 548) (by decide +kernel)) rfl), by decide +kernel⟩
theorem mv_X6_269 : jMV RX6 269 mX4_fault 2 := ⟨(jin (List.mem_of_getElem? (i := 559) (by decide +kernel)) rfl), (jin (List.mem_of_getElem? (i := 560) (by decide +kernel)) rfl), (jin (List.mem_of_getElem? (i := 561) (by decide +kernel)) rfl), by decide +kernel⟩
theorem mv_X6_272 : jMV RX6 272 mX4_store 2 := ⟨(jin (List.mem_of_getElem? (i := 563) (by decide +kernel)) rfl), (jin (List.mem_of_getElem? (i := 564) (by decide +kernel)) rfl), (jin (List.mem_of_getElem? (i := 565) (by decide +kernel)) rfl), by decide +kernel⟩
theorem mv_X6_279 : jMV RX6 279 mX4_hasItems 2 := ⟨(jin (List.mem_of_getElem? (i := 576) (by decide +kernel)) rfl), (jin (List.mem_of_getElem? (i := 577) (by decide +kernel)) rfl), (jin (List.mem_of_getElem? (i := 578) (by decide +kernel)) rfl), by decide +kernel⟩
theorem mv_X6_291 : jMV RX6 291 mX6_pulls 1 := ⟨(jin (List.mem_of_getElem? (i := 591) (by decide +kernel)) rfl), (jin (List.mem_of_getElem? (i := 405) (by decide +kernel)) rfl), (jin (List.mem_of_getElem? (i := 406) (by decide +kernel)) rfl), by decide +kernel⟩
theorem mv_X6_294 : jMV RX6 294 mX6_keptEdits 0 := ⟨(jin (List.mem_of_getElem? (i := 592) (by decide +kernel)) rfl), (jin (List.mem_of_getElem? (i := 594) (by decide +kernel)) rfl), (jin (List.mem_of_getElem? (i := 15) (by decide +kernel)) rfl), by decide +kernel⟩
theorem mv_X6_297 : jMV RX6 297 mX6_anew 1 := ⟨(jin (List.mem_of_getElem? (i := 596) (by decide +kernel)) rfl), (jin (List.mem_of_getElem? (i := 515) (by decide +kernel)) rfl), (jin (List.mem_of_getElem? (i := 516) (by decide +kernel)) rfl), by decide +kernel⟩
theorem mv_X6_304 : jMV RX6 304 mX6_count 1 := ⟨(jin (List.mem_of_getElem? (i := 603) (by decide +kernel)) rfl), (jin (List.mem_of_getElem? (i := 588) (by decide +kernel)) rfl), (jin (List.mem_of_getElem? (i := 589) (by decide +kernel)) rfl), by decide +kernel⟩
theorem mv_X6_307 : jMV RX6 307 mX6_digestOfEdits 2 := ⟨(jin (List.mem_of_getElem? (i := 604) (by decide +kernel)) rfl), (jin (List.mem_of_getElem? (i := 606) (by decide +kernel)) rfl), (jin (List.mem_of_getElem? (i := 16) (by decide +kernel)) rfl), by decide +kernel⟩
theorem mv_X6_311 : jMV RX6 311 mX6_digestOfList 2 := ⟨(jin (List.mem_of_getElem? (i := 610) (by decide +kernel)) rfl), (jin (List.mem_of_getElem? (i := 612) (by decide +kernel)) rfl), (jin (List.mem_of_getElem? (i := 17) (by decide +kernel)) rfl), by decide +kernel⟩
theorem mv_X6_314 : jMV RX6 314 mX6_compare 2 := ⟨(jin (List.mem_of_getElem? (i := 619) (by decide +kernel)) rfl), (jin (List.mem_of_getElem? (i := 475) (by decide +kernel)) rfl), (jin (List.mem_of_getElem? (i := 476) (by decide +kernel)) rfl), by decide +kernel⟩
theorem mv_X6_317 : jMV RX6 317 mX6_gone 0 := ⟨(jin (List.mem_of_getElem? (i := 620) (by decide +kernel)) rfl), (jin (List.mem_of_getElem? (i := 511) (by decide +kernel)) rfl), (jin (List.mem_of_getElem? (i := 512) (by decide +kernel)) rfl), by decide +kernel⟩
theorem mv_X6_320 : jMV RX6 320 mX6_saving 1 := ⟨(jin (List.mem_of_getElem? (i := 621) (by decide +kernel)) rfl), (jin (List.mem_of_getElem? (i := 539) (by decide +kernel)) rfl), (jin (List.mem_of_getElem? (i := 540) (by decide +kernel)) rfl), by decide +kernel⟩
theorem mv_X6_323 : jMV RX6 323 mX6_digestOfTold 2 := ⟨(jin (List.mem_of_getElem? (i := 622) (by decide +kernel)) rfl), (jin (List.mem_of_getElem? (i := 624) (by decide +kernel)) rfl), (jin (List.mem_of_getElem? (i := 18) (by decide +kernel)) rfl), by decide +kernel⟩
theorem mv_X6_326 : jMV RX6 326 mX6_number 4 := ⟨(jin (List.mem_of_getElem? (i := 627) (by decide +kernel)) rfl), (jin (List.mem_of_getElem? (i := 394) (by decide +kernel)) rfl), (jin (List.mem_of_getElem? (i := 395) (by decide +kernel)) rfl), by decide +kernel⟩
theorem mv_X6_329 : jMV RX6 329 mX6_info 3 := ⟨(jin (List.mem_of_getElem? (i := 608) (by decide +kernel)) rfl), (jin (List.mem_of_getElem? (i := 306) (by decide +kernel)) rfl), (jin (List.mem_of_getElem? (i := 307) (by decide +kernel)) rfl), by decide +kernel⟩
theorem mv_X6_332 : jMV RX6 332 mX6_still 3 := ⟨(jin (List.mem_of_getElem? (i := 609) (by decide +kernel)) rfl), (jin (List.mem_of_getElem? (i := 365) (by decide +kernel)) rfl), (jin (List.mem_of_getElem? (i := 366) (by decide +kernel)) rfl), by decide +kernel⟩
theorem mv_X6_335 : jMV RX6 335 mX6_pull 3 := ⟨(jin (List.mem_of_getElem? (i := 614) (by decide +kernel)) rfl), (jin (List.mem_of_getElem? (i := 441) (by decide +kernel)) rfl), (jin (List.mem_of_getElem? (i := 442) (by decide +kernel)) rfl), by decide +kernel⟩
theorem mv_X6_338 : jMV RX6 338 mX6_waste 1 := ⟨(jin (List.mem_of_getElem? (i := 615) (by decide +kernel)) rfl), (jin (List.mem_of_getElem? (i := 449) (by decide +kernel)) rfl), (jin (List.mem_of_getElem? (i := 450) (by decide +kernel)) rfl), by decide +kernel⟩
theorem mv_X6_341 : jMV RX6 341 mX6_total 2 := ⟨(jin (List.mem_of_getElem? (i := 616) (by decide +kernel)) rfl), (jin (List.mem_of_getElem? (i := 463) (by decide +kernel)) rfl), (jin (List.mem_of_getElem? (i := 464) (by decide +kernel)) rfl), by decide +kernel⟩
theorem mv_X6_344 : jMV RX6 344 mX6_shows 3 := ⟨(jin (List.mem_of_getElem? (i := 617) (by decide +kernel)) rfl), (jin (List.mem_of_getElem? (i := 326) (by decide +kernel)) rfl), (jin (List.mem_of_getElem? (i := 327) (by decide +kernel)) rfl), by decide +kernel⟩
theorem mv_X6_347 : jMV RX6 347 mX6_seen 4 := ⟨(jin (List.mem_of_getElem? (i := 618) (by decide +kernel)) rfl), (jin (List.mem_of_getElem? (i := 339) (by decide +kernel)) rfl), (jin (List.mem_of_getElem? (i := 340) (by decide +kernel)) rfl), by decide +kernel⟩
theorem mv_X6_350 : jMV RX6 350 mX6_told 2 := ⟨(jin (List.mem_of_getElem? (i := 626) (by decide +kernel)) rfl), (jin (List.mem_of_getElem? (i := 380) (by decide +kernel)) rfl), (jin (List.mem_of_getElem? (i := 381) (by decide +kernel)) rfl), by decide +kernel⟩
theorem kc_X6_53 : Cond.constant RX6 53 (nI 100000) ∈ jtb := (jin (List.mem_of_getElem? (i := 201) (by decide +kernel)) rfl)
theorem kc_X6_100 : Cond.constant RX6 100 (nI 200000) ∈ jtb := (jin (List.mem_of_getElem? (i := 284) (by decide +kernel)) rfl)
theorem kc_X6_159 : Cond.constant RX6 159 (nI 300000) ∈ jtb := (jin (List.mem_of_getElem? (i := 342) (by decide +kernel)) rfl)
theorem kc_X6_173 : Cond.constant RX6 173 (nI 10000000) ∈ jtb := (jin (List.mem_of_getElem? (i := 383) (by decide +kernel)) rfl)
theorem kl_X6_300 : Cond.constantLong RX6 300 17 ∈ jtb := (jin (List.mem_of_getElem? (i := 601) (by decide +kernel)) rfl)
theorem kl_X6_302 : Cond.constantLong RX6 302 31 ∈ jtb := (jin (List.mem_of_getElem? (i := 602) (by decide +kernel)) rfl)
theorem kc_X6_275 : Cond.constant RX6 275 (-2147483648) ∈ jtb := (jin (List.mem_of_getElem? (i := 571) (by decide +kernel)) rfl)
theorem fp_X6_76 : jFP RX6 76 0 1 .int := ⟨RX1, TX1, 2, tyX1, rfl, by decide, in_X1, (jin (List.mem_of_getElem? (i := 172) (by decide +kernel)) rfl), tyX1_ok, nmX1, rfl, by decide +kernel⟩
theorem fp_X6_101 : jFP RX6 101 3 1 .boolean := ⟨RX4, TX4, 4, tyX4, rfl, by decide, in_X4, (jin (List.mem_of_getElem? (i := 187) (by decide +kernel)) rfl), tyX4_ok, nmX4, rfl, by decide +kernel⟩
theorem fp_X6_122 : jFP RX6 122 5 7 .int := ⟨RX6, TX6, 8, tyX6, rfl, by decide, in_X6, (jin (List.mem_of_getElem? (i := 212) (by decide +kernel)) rfl), tyX6_ok, nmX6, rfl, by decide +kernel⟩
theorem fp_X6_194 : jFP RX6 194 4 4 .int := ⟨RX5, TX5, 5, tyX5, rfl, by decide, in_X5, (jin (List.mem_of_getElem? (i := 102) (by decide +kernel)) rfl), tyX5_ok, nmX5, rfl, by decide +kernel⟩
theorem ms_X0_9 : jMS RX0 9 mX0_rate 1 := ⟨(jin (List.mem_of_getElem? (i := 387) (by decide +kernel)) rfl), (jin (List.mem_of_getElem? (i := 388) (by decide +kernel)) rfl), by decide +kernel⟩
theorem ms_X0_13 : jMS RX0 13 mX0_leftOutBefore 1 := ⟨(jin (List.mem_of_getElem? (i := 390) (by decide +kernel)) rfl), (jin (List.mem_of_getElem? (i := 391) (by decide +kernel)) rfl), by decide +kernel⟩
theorem fl_X1_11 : jFL RX1 11 0 0 := ⟨RX1, TX1, 2, rfl, by decide, in_X1, (jin (List.mem_of_getElem? (i := 168) (by decide +kernel)) rfl)⟩
theorem fl_X1_18 : jFL RX1 18 0 1 := ⟨RX1, TX1, 2, rfl, by decide, in_X1, (jin (List.mem_of_getElem? (i := 171) (by decide +kernel)) rfl)⟩
theorem fl_X1_26 : jFL RX1 26 1 0 := ⟨RX2, TX2, 5, rfl, by decide, in_X2, (jin (List.mem_of_getElem? (i := 141) (by decide +kernel)) rfl)⟩
theorem fl_X1_32 : jFL RX1 32 1 2 := ⟨RX2, TX2, 5, rfl, by decide, in_X2, (jin (List.mem_of_getElem? (i := 148) (by decide +kernel)) rfl)⟩
theorem mv_X1_22 : jMV RX1 22 mX1_isFull 0 := ⟨(jin (List.mem_of_getElem? (i := 255) (by decide +kernel)) rfl), (jin (List.mem_of_getElem? (i := 248) (by decide +kernel)) rfl), (jin (List.mem_of_getElem? (i := 249) (by decide +kernel)) rfl), by decide +kernel⟩
theorem mv_X1_41 : jMV RX1 41 mX1_begin 1 := ⟨(jin (List.mem_of_getElem? (i := 363) (by decide +kernel)) rfl), (jin (List.mem_of_getElem? (i := 310) (by decide +kernel)) rfl), (jin (List.mem_of_getElem? (i := 311) (by decide +kernel)) rfl), by decide +kernel⟩
theorem mv_X1_45 : jMV RX1 45 mX2_times 1 := ⟨(jin (List.mem_of_getElem? (i := 347) (by decide +kernel)) rfl), (jin (List.mem_of_getElem? (i := 348) (by decide +kernel)) rfl), (jin (List.mem_of_getElem? (i := 349) (by decide +kernel)) rfl), by decide +kernel⟩
theorem mv_X1_48 : jMV RX1 48 mX2_firstShowing 1 := ⟨(jin (List.mem_of_getElem? (i := 359) (by decide +kernel)) rfl), (jin (List.mem_of_getElem? (i := 360) (by decide +kernel)) rfl), (jin (List.mem_of_getElem? (i := 361) (by decide +kernel)) rfl), by decide +kernel⟩
theorem mv_X1_51 : jMV RX1 51 mX2_frameAt 1 := ⟨(jin (List.mem_of_getElem? (i := 460) (by decide +kernel)) rfl), (jin (List.mem_of_getElem? (i := 318) (by decide +kernel)) rfl), (jin (List.mem_of_getElem? (i := 319) (by decide +kernel)) rfl), by decide +kernel⟩
theorem mv_X1_54 : jMV RX1 54 mX1_firstShowing 2 := ⟨(jin (List.mem_of_getElem? (i := 461) (by decide +kernel)) rfl), (jin (List.mem_of_getElem? (i := 356) (by decide +kernel)) rfl), (jin (List.mem_of_getElem? (i := 357) (by decide +kernel)) rfl), by decide +kernel⟩
theorem fp_X1_18 : jFP RX1 18 0 1 .int := ⟨RX1, TX1, 2, tyX1, rfl, by decide, in_X1, (jin (List.mem_of_getElem? (i := 171) (by decide +kernel)) rfl), tyX1_ok, nmX1, rfl, by decide +kernel⟩
theorem fp_X1_26 : jFP RX1 26 1 0 .int := ⟨RX2, TX2, 5, tyX2, rfl, by decide, in_X2, (jin (List.mem_of_getElem? (i := 141) (by decide +kernel)) rfl), tyX2_ok, nmX2, rfl, by decide +kernel⟩
theorem fp_X1_29 : jFP RX1 29 1 1 .int := ⟨RX2, TX2, 5, tyX2, rfl, by decide, in_X2, (jin (List.mem_of_getElem? (i := 145) (by decide +kernel)) rfl), tyX2_ok, nmX2, rfl, by decide +kernel⟩
theorem fp_X1_32 : jFP RX1 32 1 2 .int := ⟨RX2, TX2, 5, tyX2, rfl, by decide, in_X2, (jin (List.mem_of_getElem? (i := 148) (by decide +kernel)) rfl), tyX2_ok, nmX2, rfl, by decide +kernel⟩
theorem fp_X1_35 : jFP RX1 35 1 3 .int := ⟨RX2, TX2, 5, tyX2, rfl, by decide, in_X2, (jin (List.mem_of_getElem? (i := 152) (by decide +kernel)) rfl), tyX2_ok, nmX2, rfl, by decide +kernel⟩
theorem fp_X1_38 : jFP RX1 38 1 4 .int := ⟨RX2, TX2, 5, tyX2, rfl, by decide, in_X2, (jin (List.mem_of_getElem? (i := 155) (by decide +kernel)) rfl), tyX2_ok, nmX2, rfl, by decide +kernel⟩
theorem fl_X2_9 : jFL RX2 9 1 2 := ⟨RX2, TX2, 5, rfl, by decide, in_X2, (jin (List.mem_of_getElem? (i := 147) (by decide +kernel)) rfl)⟩
theorem fl_X2_15 : jFL RX2 15 1 4 := ⟨RX2, TX2, 5, rfl, by decide, in_X2, (jin (List.mem_of_getElem? (i := 154) (by decide +kernel)) rfl)⟩
theorem fl_X2_18 : jFL RX2 18 1 1 := ⟨RX2, TX2, 5, rfl, by decide, in_X2, (jin (List.mem_of_getElem? (i := 144) (by decide +kernel)) rfl)⟩
theorem fl_X2_21 : jFL RX2 21 1 3 := ⟨RX2, TX2, 5, rfl, by decide, in_X2, (jin (List.mem_of_getElem? (i := 151) (by decide +kernel)) rfl)⟩
theorem fl_X2_41 : jFL RX2 41 1 0 := ⟨RX2, TX2, 5, rfl, by decide, in_X2, (jin (List.mem_of_getElem? (i := 142) (by decide +kernel)) rfl)⟩
theorem mv_X2_24 : jMV RX2 24 mX2_frameAt 1 := ⟨(jin (List.mem_of_getElem? (i := 317) (by decide +kernel)) rfl), (jin (List.mem_of_getElem? (i := 318) (by decide +kernel)) rfl), (jin (List.mem_of_getElem? (i := 319) (by decide +kernel)) rfl), by decide +kernel⟩
theorem mv_X2_28 : jMV RX2 28 mX2_last 0 := ⟨(jin (List.mem_of_getElem? (i := 372) (by decide +kernel)) rfl), (jin (List.mem_of_getElem? (i := 322) (by decide +kernel)) rfl), (jin (List.mem_of_getElem? (i := 323) (by decide +kernel)) rfl), by decide +kernel⟩
theorem mv_X2_32 : jMV RX2 32 mX2_first 0 := ⟨(jin (List.mem_of_getElem? (i := 373) (by decide +kernel)) rfl), (jin (List.mem_of_getElem? (i := 314) (by decide +kernel)) rfl), (jin (List.mem_of_getElem? (i := 315) (by decide +kernel)) rfl), by decide +kernel⟩
theorem mv_X2_35 : jMV RX2 35 mX2_reach 0 := ⟨(jin (List.mem_of_getElem? (i := 378) (by decide +kernel)) rfl), (jin (List.mem_of_getElem? (i := 369) (by decide +kernel)) rfl), (jin (List.mem_of_getElem? (i := 370) (by decide +kernel)) rfl), by decide +kernel⟩
theorem mv_X2_38 : jMV RX2 38 mX2_firstAtLeast 1 := ⟨(jin (List.mem_of_getElem? (i := 351) (by decide +kernel)) rfl), (jin (List.mem_of_getElem? (i := 353) (by decide +kernel)) rfl), (jin (List.mem_of_getElem? (i := 3) (by decide +kernel)) rfl), by decide +kernel⟩
theorem fp_X2_9 : jFP RX2 9 1 2 .int := ⟨RX2, TX2, 5, tyX2, rfl, by decide, in_X2, (jin (List.mem_of_getElem? (i := 147) (by decide +kernel)) rfl), tyX2_ok, nmX2, rfl, by decide +kernel⟩
theorem fp_X2_15 : jFP RX2 15 1 4 .int := ⟨RX2, TX2, 5, tyX2, rfl, by decide, in_X2, (jin (List.mem_of_getElem? (i := 154) (by decide +kernel)) rfl), tyX2_ok, nmX2, rfl, by decide +kernel⟩
theorem fp_X2_18 : jFP RX2 18 1 1 .int := ⟨RX2, TX2, 5, tyX2, rfl, by decide, in_X2, (jin (List.mem_of_getElem? (i := 144) (by decide +kernel)) rfl), tyX2_ok, nmX2, rfl, by decide +kernel⟩
theorem fp_X2_21 : jFP RX2 21 1 3 .int := ⟨RX2, TX2, 5, tyX2, rfl, by decide, in_X2, (jin (List.mem_of_getElem? (i := 151) (by decide +kernel)) rfl), tyX2_ok, nmX2, rfl, by decide +kernel⟩
theorem fl_X3_9 : jFL RX3 9 2 0 := ⟨RX3, TX3, 2, rfl, by decide, in_X3, (jin (List.mem_of_getElem? (i := 121) (by decide +kernel)) rfl)⟩
theorem fl_X3_21 : jFL RX3 21 2 1 := ⟨RX3, TX3, 2, rfl, by decide, in_X3, (jin (List.mem_of_getElem? (i := 122) (by decide +kernel)) rfl)⟩
theorem fl_X3_29 : jFL RX3 29 0 1 := ⟨RX1, TX1, 2, rfl, by decide, in_X1, (jin (List.mem_of_getElem? (i := 173) (by decide +kernel)) rfl)⟩
theorem fl_X3_34 : jFL RX3 34 0 0 := ⟨RX1, TX1, 2, rfl, by decide, in_X1, (jin (List.mem_of_getElem? (i := 169) (by decide +kernel)) rfl)⟩
theorem fl_X3_48 : jFL RX3 48 1 2 := ⟨RX2, TX2, 5, rfl, by decide, in_X2, (jin (List.mem_of_getElem? (i := 149) (by decide +kernel)) rfl)⟩
theorem ms_X3_15 : jMS RX3 15 mJ7_fill_53178 2 := ⟨(jin (List.mem_of_getElem? (i := 482) (by decide +kernel)) rfl), (jin (List.mem_of_getElem? (i := 203) (by decide +kernel)) rfl), by decide +kernel⟩
theorem ms_X3_51 : jMN RX3 51 mX6_isBelow 2 "CutListDesk" := ⟨fun _ h => h.2, (jin (List.mem_of_getElem? (i := 235) (by decide +kernel)) rfl), by decide +kernel⟩
theorem mv_X3_25 : jMV RX3 25 mX3_takeEach 3 := ⟨(jin (List.mem_of_getElem? (i := 483) (by decide +kernel)) rfl), (jin (List.mem_of_getElem? (i := 485) (by decide +kernel)) rfl), (jin (List.mem_of_getElem? (i := 11) (by decide +kernel)) rfl), by decide +kernel⟩
theorem mv_X3_38 : jMV RX3 38 mX3_takeFor 4 := ⟨(jin (List.mem_of_getElem? (i := 487) (by decide +kernel)) rfl), (jin (List.mem_of_getElem? (i := 489) (by decide +kernel)) rfl), (jin (List.mem_of_getElem? (i := 12) (by decide +kernel)) rfl), by decide +kernel⟩
theorem mv_X3_42 : jMV RX3 42 mX2_isLike 1 := ⟨(jin (List.mem_of_getElem? (i := 491) (by decide +kernel)) rfl), (jin (List.mem_of_getElem? (i := 492) (by decide +kernel)) rfl), (jin (List.mem_of_getElem? (i := 493) (by decide +kernel)) rfl), by decide +kernel⟩
theorem mv_X3_55 : jMV RX3 55 mX3_partner 1 := ⟨(jin (List.mem_of_getElem? (i := 499) (by decide +kernel)) rfl), (jin (List.mem_of_getElem? (i := 500) (by decide +kernel)) rfl), (jin (List.mem_of_getElem? (i := 501) (by decide +kernel)) rfl), by decide +kernel⟩
theorem mv_X3_59 : jMV RX3 59 mX1_begin 1 := ⟨(jin (List.mem_of_getElem? (i := 504) (by decide +kernel)) rfl), (jin (List.mem_of_getElem? (i := 310) (by decide +kernel)) rfl), (jin (List.mem_of_getElem? (i := 311) (by decide +kernel)) rfl), by decide +kernel⟩
theorem fp_X3_21 : jFP RX3 21 2 1 .int := ⟨RX3, TX3, 2, tyX3, rfl, by decide, in_X3, (jin (List.mem_of_getElem? (i := 122) (by decide +kernel)) rfl), tyX3_ok, nmX3, rfl, by decide +kernel⟩
theorem fl_X4_9 : jFL RX4 9 3 0 := ⟨RX4, TX4, 4, rfl, by decide, in_X4, (jin (List.mem_of_getElem? (i := 184) (by decide +kernel)) rfl)⟩
theorem fl_X4_15 : jFL RX4 15 3 1 := ⟨RX4, TX4, 4, rfl, by decide, in_X4, (jin (List.mem_of_getElem? (i := 186) (by decide +kernel)) rfl)⟩
theorem fl_X4_19 : jFL RX4 19 3 2 := ⟨RX4, TX4, 4, rfl, by decide, in_X4, (jin (List.mem_of_getElem? (i := 188) (by decide +kernel)) rfl)⟩
theorem fl_X4_23 : jFL RX4 23 3 3 := ⟨RX4, TX4, 4, rfl, by decide, in_X4, (jin (List.mem_of_getElem? (i := 190) (by decide +kernel)) rfl)⟩
theorem ms_X4_26 : jMS RX4 26 mJ7_fill_53178 2 := ⟨(jin (List.mem_of_getElem? (i := 550) (by decide +kernel)) rfl), (jin (List.mem_of_getElem? (i := 203) (by decide +kernel)) rfl), by decide +kernel⟩
theorem ms_X4_32 : jMN RX4 32 mX6_isBelow 2 "CutListDesk" := ⟨fun _ h => h.1, (jin (List.mem_of_getElem? (i := 235) (by decide +kernel)) rfl), by decide +kernel⟩
theorem fp_X4_15 : jFP RX4 15 3 1 .boolean := ⟨RX4, TX4, 4, tyX4, rfl, by decide, in_X4, (jin (List.mem_of_getElem? (i := 186) (by decide +kernel)) rfl), tyX4_ok, nmX4, rfl, by decide +kernel⟩
theorem fp_X4_19 : jFP RX4 19 3 2 .int := ⟨RX4, TX4, 4, tyX4, rfl, by decide, in_X4, (jin (List.mem_of_getElem? (i := 188) (by decide +kernel)) rfl), tyX4_ok, nmX4, rfl, by decide +kernel⟩
theorem fp_X4_23 : jFP RX4 23 3 3 .int := ⟨RX4, TX4, 4, tyX4, rfl, by decide, in_X4, (jin (List.mem_of_getElem? (i := 190) (by decide +kernel)) rfl), tyX4_ok, nmX4, rfl, by decide +kernel⟩
theorem fl_X5_9 : jFL RX5 9 4 0 := ⟨RX5, TX5, 5, rfl, by decide, in_X5, (jin (List.mem_of_getElem? (i := 93) (by decide +kernel)) rfl)⟩
theorem fl_X5_15 : jFL RX5 15 4 1 := ⟨RX5, TX5, 5, rfl, by decide, in_X5, (jin (List.mem_of_getElem? (i := 95) (by decide +kernel)) rfl)⟩
theorem fl_X5_18 : jFL RX5 18 4 2 := ⟨RX5, TX5, 5, rfl, by decide, in_X5, (jin (List.mem_of_getElem? (i := 97) (by decide +kernel)) rfl)⟩
theorem fl_X5_21 : jFL RX5 21 4 3 := ⟨RX5, TX5, 5, rfl, by decide, in_X5, (jin (List.mem_of_getElem? (i := 99) (by decide +kernel)) rfl)⟩
theorem fl_X5_24 : jFL RX5 24 4 4 := ⟨RX5, TX5, 5, rfl, by decide, in_X5, (jin (List.mem_of_getElem? (i := 101) (by decide +kernel)) rfl)⟩
theorem ms_X5_44 : Cond.methodLink RX5 44 Lib.Math.max.name ∈ jtb := (jin (List.mem_of_getElem? (i := 439) (by decide +kernel)) rfl)
theorem mv_X5_28 : jMV RX5 28 mX5_isFull 0 := ⟨(jin (List.mem_of_getElem? (i := 419) (by decide +kernel)) rfl), (jin (List.mem_of_getElem? (i := 421) (by decide +kernel)) rfl), (jin (List.mem_of_getElem? (i := 5) (by decide +kernel)) rfl), by decide +kernel⟩
theorem mv_X5_32 : jMV RX5 32 mX5_isBehind 3 := ⟨(jin (List.mem_of_getElem? (i := 423) (by decide +kernel)) rfl), (jin (List.mem_of_getElem? (i := 425) (by decide +kernel)) rfl), (jin (List.mem_of_getElem? (i := 6) (by decide +kernel)) rfl), by decide +kernel⟩
theorem mv_X5_36 : jMV RX5 36 mX5_move 2 := ⟨(jin (List.mem_of_getElem? (i := 427) (by decide +kernel)) rfl), (jin (List.mem_of_getElem? (i := 429) (by decide +kernel)) rfl), (jin (List.mem_of_getElem? (i := 7) (by decide +kernel)) rfl), by decide +kernel⟩
theorem mv_X5_40 : jMV RX5 40 mX5_fill 5 := ⟨(jin (List.mem_of_getElem? (i := 431) (by decide +kernel)) rfl), (jin (List.mem_of_getElem? (i := 433) (by decide +kernel)) rfl), (jin (List.mem_of_getElem? (i := 8) (by decide +kernel)) rfl), by decide +kernel⟩
theorem kc_X5_50 : Cond.constant RX5 50 (nI 1000000) ∈ jtb := (jin (List.mem_of_getElem? (i := 537) (by decide +kernel)) rfl)
theorem fp_X5_24 : jFP RX5 24 4 4 .int := ⟨RX5, TX5, 5, tyX5, rfl, by decide, in_X5, (jin (List.mem_of_getElem? (i := 101) (by decide +kernel)) rfl), tyX5_ok, nmX5, rfl, by decide +kernel⟩
theorem mv_L_13 : jMV RL 13 mX6_edit 6 := ⟨(jin (List.mem_of_getElem? (i := 230) (by decide +kernel)) rfl), (jin (List.mem_of_getElem? (i := 231) (by decide +kernel)) rfl), (jin (List.mem_of_getElem? (i := 232) (by decide +kernel)) rfl), by decide +kernel⟩
theorem mv_L_17 : jMV RL 17 mX7_edit 6 := ⟨(jin (List.mem_of_getElem? (i := 700) (by decide +kernel)) rfl), (jin (List.mem_of_getElem? (i := 701) (by decide +kernel)) rfl), (jin (List.mem_of_getElem? (i := 702) (by decide +kernel)) rfl), by decide +kernel⟩
theorem mv_L_18 : jMV RL 18 mX6_back 1 := ⟨(jin (List.mem_of_getElem? (i := 256) (by decide +kernel)) rfl), (jin (List.mem_of_getElem? (i := 257) (by decide +kernel)) rfl), (jin (List.mem_of_getElem? (i := 258) (by decide +kernel)) rfl), by decide +kernel⟩
theorem mv_L_22 : jMV RL 22 mX7_back 1 := ⟨(jin (List.mem_of_getElem? (i := 721) (by decide +kernel)) rfl), (jin (List.mem_of_getElem? (i := 722) (by decide +kernel)) rfl), (jin (List.mem_of_getElem? (i := 723) (by decide +kernel)) rfl), by decide +kernel⟩
theorem mv_L_23 : jMV RL 23 mX6_trim 4 := ⟨(jin (List.mem_of_getElem? (i := 260) (by decide +kernel)) rfl), (jin (List.mem_of_getElem? (i := 261) (by decide +kernel)) rfl), (jin (List.mem_of_getElem? (i := 262) (by decide +kernel)) rfl), by decide +kernel⟩
theorem mv_L_27 : jMV RL 27 mX7_trim 4 := ⟨(jin (List.mem_of_getElem? (i := 725) (by decide +kernel)) rfl), (jin (List.mem_of_getElem? (i := 726) (by decide +kernel)) rfl), (jin (List.mem_of_getElem? (i := 727) (by decide +kernel)) rfl), by decide +kernel⟩
theorem mv_L_28 : jMV RL 28 mX6_set 2 := ⟨(jin (List.mem_of_getElem? (i := 276) (by decide +kernel)) rfl), (jin (List.mem_of_getElem? (i := 277) (by decide +kernel)) rfl), (jin (List.mem_of_getElem? (i := 278) (by decide +kernel)) rfl), by decide +kernel⟩
theorem mv_L_32 : jMV RL 32 mX7_set 2 := ⟨(jin (List.mem_of_getElem? (i := 733) (by decide +kernel)) rfl), (jin (List.mem_of_getElem? (i := 734) (by decide +kernel)) rfl), (jin (List.mem_of_getElem? (i := 735) (by decide +kernel)) rfl), by decide +kernel⟩
theorem mv_L_33 : jMV RL 33 mX6_reel 2 := ⟨(jin (List.mem_of_getElem? (i := 280) (by decide +kernel)) rfl), (jin (List.mem_of_getElem? (i := 281) (by decide +kernel)) rfl), (jin (List.mem_of_getElem? (i := 282) (by decide +kernel)) rfl), by decide +kernel⟩
theorem mv_L_36 : jMV RL 36 mX7_reel 2 := ⟨(jin (List.mem_of_getElem? (i := 740) (by decide +kernel)) rfl), (jin (List.mem_of_getElem? (i := 741) (by decide +kernel)) rfl), (jin (List.mem_of_getElem? (i := 742) (by decide +kernel)) rfl), by decide +kernel⟩
theorem mv_L_37 : jMV RL 37 mX6_swap 0 := ⟨(jin (List.mem_of_getElem? (i := 285) (by decide +kernel)) rfl), (jin (List.mem_of_getElem? (i := 286) (by decide +kernel)) rfl), (jin (List.mem_of_getElem? (i := 287) (by decide +kernel)) rfl), by decide +kernel⟩
theorem mv_L_41 : jMV RL 41 mX7_swap 0 := ⟨(jin (List.mem_of_getElem? (i := 745) (by decide +kernel)) rfl), (jin (List.mem_of_getElem? (i := 746) (by decide +kernel)) rfl), (jin (List.mem_of_getElem? (i := 747) (by decide +kernel)) rfl), by decide +kernel⟩
theorem mv_L_42 : jMV RL 42 mX6_read 2 := ⟨(jin (List.mem_of_getElem? (i := 289) (by decide +kernel)) rfl), (jin (List.mem_of_getElem? (i := 290) (by decide +kernel)) rfl), (jin (List.mem_of_getElem? (i := 291) (by decide +kernel)) rfl), by decide +kernel⟩
theorem mv_L_45 : jMV RL 45 mX7_read 2 := ⟨(jin (List.mem_of_getElem? (i := 752) (by decide +kernel)) rfl), (jin (List.mem_of_getElem? (i := 753) (by decide +kernel)) rfl), (jin (List.mem_of_getElem? (i := 754) (by decide +kernel)) rfl), by decide +kernel⟩
theorem mv_L_46 : jMV RL 46 mX6_info 3 := ⟨(jin (List.mem_of_getElem? (i := 305) (by decide +kernel)) rfl), (jin (List.mem_of_getElem? (i := 306) (by decide +kernel)) rfl), (jin (List.mem_of_getElem? (i := 307) (by decide +kernel)) rfl), by decide +kernel⟩
theorem mv_L_50 : jMV RL 50 mX7_info 3 := ⟨(jin (List.mem_of_getElem? (i := 763) (by decide +kernel)) rfl), (jin (List.mem_of_getElem? (i := 764) (by decide +kernel)) rfl), (jin (List.mem_of_getElem? (i := 765) (by decide +kernel)) rfl), by decide +kernel⟩
theorem mv_L_51 : jMV RL 51 mX6_shows 3 := ⟨(jin (List.mem_of_getElem? (i := 325) (by decide +kernel)) rfl), (jin (List.mem_of_getElem? (i := 326) (by decide +kernel)) rfl), (jin (List.mem_of_getElem? (i := 327) (by decide +kernel)) rfl), by decide +kernel⟩
theorem mv_L_54 : jMV RL 54 mX7_shows 3 := ⟨(jin (List.mem_of_getElem? (i := 783) (by decide +kernel)) rfl), (jin (List.mem_of_getElem? (i := 784) (by decide +kernel)) rfl), (jin (List.mem_of_getElem? (i := 785) (by decide +kernel)) rfl), by decide +kernel⟩
theorem mv_L_55 : jMV RL 55 mX6_seen 4 := ⟨(jin (List.mem_of_getElem? (i := 338) (by decide +kernel)) rfl), (jin (List.mem_of_getElem? (i := 339) (by decide +kernel)) rfl), (jin (List.mem_of_getElem? (i := 340) (by decide +kernel)) rfl), by decide +kernel⟩
theorem mv_L_58 : jMV RL 58 mX7_seen 4 := ⟨(jin (List.mem_of_getElem? (i := 791) (by decide +kernel)) rfl), (jin (List.mem_of_getElem? (i := 792) (by decide +kernel)) rfl), (jin (List.mem_of_getElem? (i := 793) (by decide +kernel)) rfl), by decide +kernel⟩
theorem mv_L_59 : jMV RL 59 mX6_still 3 := ⟨(jin (List.mem_of_getElem? (i := 364) (by decide +kernel)) rfl), (jin (List.mem_of_getElem? (i := 365) (by decide +kernel)) rfl), (jin (List.mem_of_getElem? (i := 366) (by decide +kernel)) rfl), by decide +kernel⟩
theorem mv_L_62 : jMV RL 62 mX7_still 3 := ⟨(jin (List.mem_of_getElem? (i := 800) (by decide +kernel)) rfl), (jin (List.mem_of_getElem? (i := 801) (by decide +kernel)) rfl), (jin (List.mem_of_getElem? (i := 802) (by decide +kernel)) rfl), by decide +kernel⟩
theorem mv_L_63 : jMV RL 63 mX6_told 2 := ⟨(jin (List.mem_of_getElem? (i := 379) (by decide +kernel)) rfl), (jin (List.mem_of_getElem? (i := 380) (by decide +kernel)) rfl), (jin (List.mem_of_getElem? (i := 381) (by decide +kernel)) rfl), by decide +kernel⟩
theorem mv_L_66 : jMV RL 66 mX7_told 2 := ⟨(jin (List.mem_of_getElem? (i := 808) (by decide +kernel)) rfl), (jin (List.mem_of_getElem? (i := 809) (by decide +kernel)) rfl), (jin (List.mem_of_getElem? (i := 810) (by decide +kernel)) rfl), by decide +kernel⟩
theorem mv_L_67 : jMV RL 67 mX6_number 4 := ⟨(jin (List.mem_of_getElem? (i := 393) (by decide +kernel)) rfl), (jin (List.mem_of_getElem? (i := 394) (by decide +kernel)) rfl), (jin (List.mem_of_getElem? (i := 395) (by decide +kernel)) rfl), by decide +kernel⟩
theorem mv_L_70 : jMV RL 70 mX7_number 4 := ⟨(jin (List.mem_of_getElem? (i := 825) (by decide +kernel)) rfl), (jin (List.mem_of_getElem? (i := 826) (by decide +kernel)) rfl), (jin (List.mem_of_getElem? (i := 827) (by decide +kernel)) rfl), by decide +kernel⟩
theorem mv_L_71 : jMV RL 71 mX6_pulls 1 := ⟨(jin (List.mem_of_getElem? (i := 404) (by decide +kernel)) rfl), (jin (List.mem_of_getElem? (i := 405) (by decide +kernel)) rfl), (jin (List.mem_of_getElem? (i := 406) (by decide +kernel)) rfl), by decide +kernel⟩
theorem mv_L_74 : jMV RL 74 mX7_pulls 1 := ⟨(jin (List.mem_of_getElem? (i := 833) (by decide +kernel)) rfl), (jin (List.mem_of_getElem? (i := 834) (by decide +kernel)) rfl), (jin (List.mem_of_getElem? (i := 835) (by decide +kernel)) rfl), by decide +kernel⟩
theorem mv_L_75 : jMV RL 75 mX6_pull 3 := ⟨(jin (List.mem_of_getElem? (i := 440) (by decide +kernel)) rfl), (jin (List.mem_of_getElem? (i := 441) (by decide +kernel)) rfl), (jin (List.mem_of_getElem? (i := 442) (by decide +kernel)) rfl), by decide +kernel⟩
theorem mv_L_78 : jMV RL 78 mX7_pull 3 := ⟨(jin (List.mem_of_getElem? (i := 871) (by decide +kernel)) rfl), (jin (List.mem_of_getElem? (i := 872) (by decide +kernel)) rfl), (jin (List.mem_of_getElem? (i := 873) (by decide +kernel)) rfl), by decide +kernel⟩
theorem mv_L_79 : jMV RL 79 mX6_waste 1 := ⟨(jin (List.mem_of_getElem? (i := 448) (by decide +kernel)) rfl), (jin (List.mem_of_getElem? (i := 449) (by decide +kernel)) rfl), (jin (List.mem_of_getElem? (i := 450) (by decide +kernel)) rfl), by decide +kernel⟩
theorem mv_L_82 : jMV RL 82 mX7_waste 1 := ⟨(jin (List.mem_of_getElem? (i := 883) (by decide +kernel)) rfl), (jin (List.mem_of_getElem? (i := 884) (by decide +kernel)) rfl), (jin (List.mem_of_getElem? (i := 885) (by decide +kernel)) rfl), by decide +kernel⟩
theorem mv_L_83 : jMV RL 83 mX6_total 2 := ⟨(jin (List.mem_of_getElem? (i := 462) (by decide +kernel)) rfl), (jin (List.mem_of_getElem? (i := 463) (by decide +kernel)) rfl), (jin (List.mem_of_getElem? (i := 464) (by decide +kernel)) rfl), by decide +kernel⟩
theorem mv_L_86 : jMV RL 86 mX7_total 2 := ⟨(jin (List.mem_of_getElem? (i := 903) (by decide +kernel)) rfl), (jin (List.mem_of_getElem? (i := 904) (by decide +kernel)) rfl), (jin (List.mem_of_getElem? (i := 905) (by decide +kernel)) rfl), by decide +kernel⟩
theorem mv_L_87 : jMV RL 87 mX6_compare 2 := ⟨(jin (List.mem_of_getElem? (i := 474) (by decide +kernel)) rfl), (jin (List.mem_of_getElem? (i := 475) (by decide +kernel)) rfl), (jin (List.mem_of_getElem? (i := 476) (by decide +kernel)) rfl), by decide +kernel⟩
theorem mv_L_90 : jMV RL 90 mX7_compare 2 := ⟨(jin (List.mem_of_getElem? (i := 911) (by decide +kernel)) rfl), (jin (List.mem_of_getElem? (i := 912) (by decide +kernel)) rfl), (jin (List.mem_of_getElem? (i := 913) (by decide +kernel)) rfl), by decide +kernel⟩
theorem mv_L_91 : jMV RL 91 mX6_gone 0 := ⟨(jin (List.mem_of_getElem? (i := 510) (by decide +kernel)) rfl), (jin (List.mem_of_getElem? (i := 511) (by decide +kernel)) rfl), (jin (List.mem_of_getElem? (i := 512) (by decide +kernel)) rfl), by decide +kernel⟩
theorem mv_L_94 : jMV RL 94 mX7_gone 0 := ⟨(jin (List.mem_of_getElem? (i := 934) (by decide +kernel)) rfl), (jin (List.mem_of_getElem? (i := 935) (by decide +kernel)) rfl), (jin (List.mem_of_getElem? (i := 936) (by decide +kernel)) rfl), by decide +kernel⟩
theorem mv_L_95 : jMV RL 95 mX6_anew 1 := ⟨(jin (List.mem_of_getElem? (i := 514) (by decide +kernel)) rfl), (jin (List.mem_of_getElem? (i := 515) (by decide +kernel)) rfl), (jin (List.mem_of_getElem? (i := 516) (by decide +kernel)) rfl), by decide +kernel⟩
theorem mv_L_98 : jMV RL 98 mX7_anew 1 := ⟨(jin (List.mem_of_getElem? (i := 942) (by decide +kernel)) rfl), (jin (List.mem_of_getElem? (i := 943) (by decide +kernel)) rfl), (jin (List.mem_of_getElem? (i := 944) (by decide +kernel)) rfl), by decide +kernel⟩
theorem mv_L_99 : jMV RL 99 mX6_saving 1 := ⟨(jin (List.mem_of_getElem? (i := 538) (by decide +kernel)) rfl), (jin (List.mem_of_getElem? (i := 539) (by decide +kernel)) rfl), (jin (List.mem_of_getElem? (i := 540) (by decide +kernel)) rfl), by decide +kernel⟩
theorem mv_L_102 : jMV RL 102 mX7_saving 1 := ⟨(jin (List.mem_of_getElem? (i := 955) (by decide +kernel)) rfl), (jin (List.mem_of_getElem? (i := 956) (by decide +kernel)) rfl), (jin (List.mem_of_getElem? (i := 957) (by decide +kernel)) rfl), by decide +kernel⟩
theorem mv_L_103 : jMV RL 103 mX6_sheet 3 := ⟨(jin (List.mem_of_getElem? (i := 542) (by decide +kernel)) rfl), (jin (List.mem_of_getElem? (i := 543) (by decide +kernel)) rfl), (jin (List.mem_of_getElem? (i := 544) (by decide +kernel)) rfl), by decide +kernel⟩
theorem mv_L_106 : jMV RL 106 mX7_sheet 3 := ⟨(jin (List.mem_of_getElem? (i := 963) (by decide +kernel)) rfl), (jin (List.mem_of_getElem? (i := 964) (by decide +kernel)) rfl), (jin (List.mem_of_getElem? (i := 965) (by decide +kernel)) rfl), by decide +kernel⟩
theorem mv_L_107 : jMV RL 107 mX6_lose 1 := ⟨(jin (List.mem_of_getElem? (i := 551) (by decide +kernel)) rfl), (jin (List.mem_of_getElem? (i := 552) (by decide +kernel)) rfl), (jin (List.mem_of_getElem? (i := 553) (by decide +kernel)) rfl), by decide +kernel⟩
theorem mv_L_110 : jMV RL 110 mX7_lose 1 := ⟨(jin (List.mem_of_getElem? (i := 967) (by decide +kernel)) rfl), (jin (List.mem_of_getElem? (i := 968) (by decide +kernel)) rfl), (jin (List.mem_of_getElem? (i := 969) (by decide +kernel)) rfl), by decide +kernel⟩
theorem mv_L_111 : jMV RL 111 mX6_put 4 := ⟨(jin (List.mem_of_getElem? (i := 555) (by decide +kernel)) rfl), (jin (List.mem_of_getElem? (i := 556) (by decide +kernel)) rfl), (jin (List.mem_of_getElem? (i := 557) (by decide +kernel)) rfl), by decide +kernel⟩
theorem mv_L_114 : jMV RL 114 mX7_put 4 := ⟨(jin (List.mem_of_getElem? (i := 971) (by decide +kernel)) rfl), (jin (List.mem_of_getElem? (i := 972) (by decide +kernel)) rfl), (jin (List.mem_of_getElem? (i := 973) (by decide +kernel)) rfl), by decide +kernel⟩
theorem mv_L_115 : jMV RL 115 mX6_get 3 := ⟨(jin (List.mem_of_getElem? (i := 567) (by decide +kernel)) rfl), (jin (List.mem_of_getElem? (i := 568) (by decide +kernel)) rfl), (jin (List.mem_of_getElem? (i := 569) (by decide +kernel)) rfl), by decide +kernel⟩
theorem mv_L_118 : jMV RL 118 mX7_get 3 := ⟨(jin (List.mem_of_getElem? (i := 983) (by decide +kernel)) rfl), (jin (List.mem_of_getElem? (i := 984) (by decide +kernel)) rfl), (jin (List.mem_of_getElem? (i := 985) (by decide +kernel)) rfl), by decide +kernel⟩
theorem mv_L_119 : jMV RL 119 mX6_copy 5 := ⟨(jin (List.mem_of_getElem? (i := 572) (by decide +kernel)) rfl), (jin (List.mem_of_getElem? (i := 573) (by decide +kernel)) rfl), (jin (List.mem_of_getElem? (i := 574) (by decide +kernel)) rfl), by decide +kernel⟩
theorem mv_L_123 : jMV RL 123 mX7_copy 5 := ⟨(jin (List.mem_of_getElem? (i := 988) (by decide +kernel)) rfl), (jin (List.mem_of_getElem? (i := 989) (by decide +kernel)) rfl), (jin (List.mem_of_getElem? (i := 990) (by decide +kernel)) rfl), by decide +kernel⟩
theorem mv_L_124 : jMV RL 124 mX6_write 2 := ⟨(jin (List.mem_of_getElem? (i := 583) (by decide +kernel)) rfl), (jin (List.mem_of_getElem? (i := 584) (by decide +kernel)) rfl), (jin (List.mem_of_getElem? (i := 585) (by decide +kernel)) rfl), by decide +kernel⟩
theorem mv_L_127 : jMV RL 127 mX7_write 2 := ⟨(jin (List.mem_of_getElem? (i := 992) (by decide +kernel)) rfl), (jin (List.mem_of_getElem? (i := 993) (by decide +kernel)) rfl), (jin (List.mem_of_getElem? (i := 994) (by decide +kernel)) rfl), by decide +kernel⟩
theorem mv_L_128 : jMV RL 128 mX6_count 1 := ⟨(jin (List.mem_of_getElem? (i := 587) (by decide +kernel)) rfl), (jin (List.mem_of_getElem? (i := 588) (by decide +kernel)) rfl), (jin (List.mem_of_getElem? (i := 589) (by decide +kernel)) rfl), by decide +kernel⟩
theorem mv_L_131 : jMV RL 131 mX7_count 1 := ⟨(jin (List.mem_of_getElem? (i := 996) (by decide +kernel)) rfl), (jin (List.mem_of_getElem? (i := 997) (by decide +kernel)) rfl), (jin (List.mem_of_getElem? (i := 998) (by decide +kernel)) rfl), by decide +kernel⟩
theorem mv_L_132 : jMV RL 132 mX6_digest 0 := ⟨(jin (List.mem_of_getElem? (i := 597) (by decide +kernel)) rfl), (jin (List.mem_of_getElem? (i := 598) (by decide +kernel)) rfl), (jin (List.mem_of_getElem? (i := 599) (by decide +kernel)) rfl), by decide +kernel⟩
theorem mv_L_136 : jMV RL 136 mX7_digest 0 := ⟨(jin (List.mem_of_getElem? (i := 1004) (by decide +kernel)) rfl), (jin (List.mem_of_getElem? (i := 1005) (by decide +kernel)) rfl), (jin (List.mem_of_getElem? (i := 1006) (by decide +kernel)) rfl), by decide +kernel⟩
theorem fl_X7_7 : jFL RX7 7 6 0 := ⟨RX7, TX7, 21, rfl, by decide, in_X7, (jin (List.mem_of_getElem? (i := 635) (by decide +kernel)) rfl)⟩
theorem fl_X7_13 : jFL RX7 13 6 1 := ⟨RX7, TX7, 21, rfl, by decide, in_X7, (jin (List.mem_of_getElem? (i := 636) (by decide +kernel)) rfl)⟩
theorem fl_X7_16 : jFL RX7 16 6 2 := ⟨RX7, TX7, 21, rfl, by decide, in_X7, (jin (List.mem_of_getElem? (i := 637) (by decide +kernel)) rfl)⟩
theorem fl_X7_19 : jFL RX7 19 6 3 := ⟨RX7, TX7, 21, rfl, by decide, in_X7, (jin (List.mem_of_getElem? (i := 638) (by decide +kernel)) rfl)⟩
theorem fl_X7_22 : jFL RX7 22 6 4 := ⟨RX7, TX7, 21, rfl, by decide, in_X7, (jin (List.mem_of_getElem? (i := 639) (by decide +kernel)) rfl)⟩
theorem fl_X7_25 : jFL RX7 25 6 5 := ⟨RX7, TX7, 21, rfl, by decide, in_X7, (jin (List.mem_of_getElem? (i := 640) (by decide +kernel)) rfl)⟩
theorem fl_X7_28 : jFL RX7 28 6 6 := ⟨RX7, TX7, 21, rfl, by decide, in_X7, (jin (List.mem_of_getElem? (i := 641) (by decide +kernel)) rfl)⟩
theorem fl_X7_31 : jFL RX7 31 6 7 := ⟨RX7, TX7, 21, rfl, by decide, in_X7, (jin (List.mem_of_getElem? (i := 642) (by decide +kernel)) rfl)⟩
theorem fl_X7_34 : jFL RX7 34 6 8 := ⟨RX7, TX7, 21, rfl, by decide, in_X7, (jin (List.mem_of_getElem? (i := 643) (by decide +kernel)) rfl)⟩
theorem fl_X7_37 : jFL RX7 37 6 9 := ⟨RX7, TX7, 21, rfl, by decide, in_X7, (jin (List.mem_of_getElem? (i := 644) (by decide +kernel)) rfl)⟩
theorem fl_X7_40 : jFL RX7 40 6 10 := ⟨RX7, TX7, 21, rfl, by decide, in_X7, (jin (List.mem_of_getElem? (i := 645) (by decide +kernel)) rfl)⟩
theorem fl_X7_43 : jFL RX7 43 6 11 := ⟨RX7, TX7, 21, rfl, by decide, in_X7, (jin (List.mem_of_getElem? (i := 646) (by decide +kernel)) rfl)⟩
theorem fl_X7_46 : jFL RX7 46 6 12 := ⟨RX7, TX7, 21, rfl, by decide, in_X7, (jin (List.mem_of_getElem? (i := 647) (by decide +kernel)) rfl)⟩
theorem fl_X7_49 : jFL RX7 49 6 13 := ⟨RX7, TX7, 21, rfl, by decide, in_X7, (jin (List.mem_of_getElem? (i := 648) (by decide +kernel)) rfl)⟩
theorem fl_X7_52 : jFL RX7 52 6 15 := ⟨RX7, TX7, 21, rfl, by decide, in_X7, (jin (List.mem_of_getElem? (i := 650) (by decide +kernel)) rfl)⟩
theorem fl_X7_56 : jFL RX7 56 6 16 := ⟨RX7, TX7, 21, rfl, by decide, in_X7, (jin (List.mem_of_getElem? (i := 651) (by decide +kernel)) rfl)⟩
theorem fl_X7_59 : jFL RX7 59 6 17 := ⟨RX7, TX7, 21, rfl, by decide, in_X7, (jin (List.mem_of_getElem? (i := 652) (by decide +kernel)) rfl)⟩
theorem fl_X7_62 : jFL RX7 62 6 18 := ⟨RX7, TX7, 21, rfl, by decide, in_X7, (jin (List.mem_of_getElem? (i := 653) (by decide +kernel)) rfl)⟩
theorem fl_X7_65 : jFL RX7 65 6 19 := ⟨RX7, TX7, 21, rfl, by decide, in_X7, (jin (List.mem_of_getElem? (i := 654) (by decide +kernel)) rfl)⟩
theorem fl_X7_196 : jFL RX7 196 6 14 := ⟨RX7, TX7, 21, rfl, by decide, in_X7, (jin (List.mem_of_getElem? (i := 649) (by decide +kernel)) rfl)⟩
theorem fl_X7_228 : jFL RX7 228 6 20 := ⟨RX7, TX7, 21, rfl, by decide, in_X7, (jin (List.mem_of_getElem? (i := 655) (by decide +kernel)) rfl)⟩
theorem ms_X7_69 : jMS RX7 69 mX7_in 3 := ⟨(jin (List.mem_of_getElem? (i := 707) (by decide +kernel)) rfl), (jin (List.mem_of_getElem? (i := 708) (by decide +kernel)) rfl), by decide +kernel⟩
theorem ms_X7_74 : jMS RX7 74 mX7_isReel 1 := ⟨(jin (List.mem_of_getElem? (i := 714) (by decide +kernel)) rfl), (jin (List.mem_of_getElem? (i := 715) (by decide +kernel)) rfl), by decide +kernel⟩
theorem ms_X7_78 : jMS RX7 78 mX7_isWell 2 := ⟨(jin (List.mem_of_getElem? (i := 717) (by decide +kernel)) rfl), (jin (List.mem_of_getElem? (i := 718) (by decide +kernel)) rfl), by decide +kernel⟩
theorem ms_X7_82 : jMS RX7 82 mX7_isList 1 := ⟨(jin (List.mem_of_getElem? (i := 704) (by decide +kernel)) rfl), (jin (List.mem_of_getElem? (i := 705) (by decide +kernel)) rfl), by decide +kernel⟩
theorem ms_X7_92 : jMS RX7 92 mX7_isSetting 2 := ⟨(jin (List.mem_of_getElem? (i := 737) (by decide +kernel)) rfl), (jin (List.mem_of_getElem? (i := 738) (by decide +kernel)) rfl), by decide +kernel⟩
theorem ms_X7_96 : jMS RX7 96 mX7_swaps 1 := ⟨(jin (List.mem_of_getElem? (i := 749) (by decide +kernel)) rfl), (jin (List.mem_of_getElem? (i := 750) (by decide +kernel)) rfl), by decide +kernel⟩
theorem ms_X7_100 : jMS RX7 100 mX7_isSheet 1 := ⟨(jin (List.mem_of_getElem? (i := 756) (by decide +kernel)) rfl), (jin (List.mem_of_getElem? (i := 757) (by decide +kernel)) rfl), by decide +kernel⟩
theorem ms_X7_149 : jMS RX7 149 mX7_min 2 := ⟨(jin (List.mem_of_getElem? (i := 856) (by decide +kernel)) rfl), (jin (List.mem_of_getElem? (i := 857) (by decide +kernel)) rfl), by decide +kernel⟩
theorem ms_X7_152 : jMS RX7 152 mX7_max 2 := ⟨(jin (List.mem_of_getElem? (i := 845) (by decide +kernel)) rfl), (jin (List.mem_of_getElem? (i := 846) (by decide +kernel)) rfl), by decide +kernel⟩
theorem ms_X7_200 : jMS RX7 200 mX7_isIn 2 := ⟨(jin (List.mem_of_getElem? (i := 923) (by decide +kernel)) rfl), (jin (List.mem_of_getElem? (i := 924) (by decide +kernel)) rfl), by decide +kernel⟩
theorem mv_X7_85 : jMV RX7 85 mX7_adds 6 := ⟨(jin (List.mem_of_getElem? (i := 710) (by decide +kernel)) rfl), (jin (List.mem_of_getElem? (i := 712) (by decide +kernel)) rfl), (jin (List.mem_of_getElem? (i := 19) (by decide +kernel)) rfl), by decide +kernel⟩
theorem mv_X7_89 : jMV RX7 89 mX7_isEdit 2 := ⟨(jin (List.mem_of_getElem? (i := 729) (by decide +kernel)) rfl), (jin (List.mem_of_getElem? (i := 731) (by decide +kernel)) rfl), (jin (List.mem_of_getElem? (i := 20) (by decide +kernel)) rfl), by decide +kernel⟩
theorem mv_X7_103 : jMV RX7 103 mX7_meets 1 := ⟨(jin (List.mem_of_getElem? (i := 759) (by decide +kernel)) rfl), (jin (List.mem_of_getElem? (i := 761) (by decide +kernel)) rfl), (jin (List.mem_of_getElem? (i := 21) (by decide +kernel)) rfl), by decide +kernel⟩
theorem mv_X7_107 : jMV RX7 107 mX7_frameOf 2 := ⟨(jin (List.mem_of_getElem? (i := 779) (by decide +kernel)) rfl), (jin (List.mem_of_getElem? (i := 781) (by decide +kernel)) rfl), (jin (List.mem_of_getElem? (i := 25) (by decide +kernel)) rfl), by decide +kernel⟩
theorem mv_X7_111 : jMV RX7 111 mX7_beginOf 2 := ⟨(jin (List.mem_of_getElem? (i := 771) (by decide +kernel)) rfl), (jin (List.mem_of_getElem? (i := 773) (by decide +kernel)) rfl), (jin (List.mem_of_getElem? (i := 23) (by decide +kernel)) rfl), by decide +kernel⟩
theorem mv_X7_114 : jMV RX7 114 mX7_lastOf 1 := ⟨(jin (List.mem_of_getElem? (i := 775) (by decide +kernel)) rfl), (jin (List.mem_of_getElem? (i := 777) (by decide +kernel)) rfl), (jin (List.mem_of_getElem? (i := 24) (by decide +kernel)) rfl), by decide +kernel⟩
theorem mv_X7_117 : jMV RX7 117 mX7_infoOf 3 := ⟨(jin (List.mem_of_getElem? (i := 767) (by decide +kernel)) rfl), (jin (List.mem_of_getElem? (i := 769) (by decide +kernel)) rfl), (jin (List.mem_of_getElem? (i := 22) (by decide +kernel)) rfl), by decide +kernel⟩
theorem mv_X7_121 : jMV RX7 121 mX7_showsOf 3 := ⟨(jin (List.mem_of_getElem? (i := 787) (by decide +kernel)) rfl), (jin (List.mem_of_getElem? (i := 789) (by decide +kernel)) rfl), (jin (List.mem_of_getElem? (i := 26) (by decide +kernel)) rfl), by decide +kernel⟩
theorem mv_X7_125 : jMV RX7 125 mX7_seenOf 4 := ⟨(jin (List.mem_of_getElem? (i := 796) (by decide +kernel)) rfl), (jin (List.mem_of_getElem? (i := 798) (by decide +kernel)) rfl), (jin (List.mem_of_getElem? (i := 27) (by decide +kernel)) rfl), by decide +kernel⟩
theorem mv_X7_129 : jMV RX7 129 mX7_stillOf 2 := ⟨(jin (List.mem_of_getElem? (i := 804) (by decide +kernel)) rfl), (jin (List.mem_of_getElem? (i := 806) (by decide +kernel)) rfl), (jin (List.mem_of_getElem? (i := 28) (by decide +kernel)) rfl), by decide +kernel⟩
theorem mv_X7_132 : jMV RX7 132 mX7_numbered 1 := ⟨(jin (List.mem_of_getElem? (i := 817) (by decide +kernel)) rfl), (jin (List.mem_of_getElem? (i := 819) (by decide +kernel)) rfl), (jin (List.mem_of_getElem? (i := 30) (by decide +kernel)) rfl), by decide +kernel⟩
theorem mv_X7_135 : jMV RX7 135 mX7_aSecond 0 := ⟨(jin (List.mem_of_getElem? (i := 821) (by decide +kernel)) rfl), (jin (List.mem_of_getElem? (i := 823) (by decide +kernel)) rfl), (jin (List.mem_of_getElem? (i := 31) (by decide +kernel)) rfl), by decide +kernel⟩
theorem mv_X7_140 : jMV RX7 140 mX7_toldOf 2 := ⟨(jin (List.mem_of_getElem? (i := 813) (by decide +kernel)) rfl), (jin (List.mem_of_getElem? (i := 815) (by decide +kernel)) rfl), (jin (List.mem_of_getElem? (i := 29) (by decide +kernel)) rfl), by decide +kernel⟩
theorem mv_X7_143 : jMV RX7 143 mX7_numberOf 4 := ⟨(jin (List.mem_of_getElem? (i := 829) (by decide +kernel)) rfl), (jin (List.mem_of_getElem? (i := 831) (by decide +kernel)) rfl), (jin (List.mem_of_getElem? (i := 32) (by decide +kernel)) rfl), by decide +kernel⟩
theorem mv_X7_146 : jMV RX7 146 mX7_areNear 2 := ⟨(jin (List.mem_of_getElem? (i := 852) (by decide +kernel)) rfl), (jin (List.mem_of_getElem? (i := 854) (by decide +kernel)) rfl), (jin (List.mem_of_getElem? (i := 36) (by decide +kernel)) rfl), by decide +kernel⟩
theorem mv_X7_155 : jMV RX7 155 mX7_copies 2 := ⟨(jin (List.mem_of_getElem? (i := 859) (by decide +kernel)) rfl), (jin (List.mem_of_getElem? (i := 861) (by decide +kernel)) rfl), (jin (List.mem_of_getElem? (i := 37) (by decide +kernel)) rfl), by decide +kernel⟩
theorem mv_X7_159 : jMV RX7 159 mX7_isAhead 2 := ⟨(jin (List.mem_of_getElem? (i := 867) (by decide +kernel)) rfl), (jin (List.mem_of_getElem? (i := 869) (by decide +kernel)) rfl), (jin (List.mem_of_getElem? (i := 39) (by decide +kernel)) rfl), by decide +kernel⟩
theorem mv_X7_162 : jMV RX7 162 mX7_joins 1 := ⟨(jin (List.mem_of_getElem? (i := 848) (by decide +kernel)) rfl), (jin (List.mem_of_getElem? (i := 850) (by decide +kernel)) rfl), (jin (List.mem_of_getElem? (i := 35) (by decide +kernel)) rfl), by decide +kernel⟩
theorem mv_X7_165 : jMV RX7 165 mX7_orders 1 := ⟨(jin (List.mem_of_getElem? (i := 863) (by decide +kernel)) rfl), (jin (List.mem_of_getElem? (i := 865) (by decide +kernel)) rfl), (jin (List.mem_of_getElem? (i := 38) (by decide +kernel)) rfl), by decide +kernel⟩
theorem mv_X7_169 : jMV RX7 169 mX7_pullsOf 2 := ⟨(jin (List.mem_of_getElem? (i := 841) (by decide +kernel)) rfl), (jin (List.mem_of_getElem? (i := 843) (by decide +kernel)) rfl), (jin (List.mem_of_getElem? (i := 34) (by decide +kernel)) rfl), by decide +kernel⟩
theorem mv_X7_172 : jMV RX7 172 mX7_manyPulls 1 := ⟨(jin (List.mem_of_getElem? (i := 837) (by decide +kernel)) rfl), (jin (List.mem_of_getElem? (i := 839) (by decide +kernel)) rfl), (jin (List.mem_of_getElem? (i := 33) (by decide +kernel)) rfl), by decide +kernel⟩
theorem mv_X7_175 : jMV RX7 175 mX7_lacking 1 := ⟨(jin (List.mem_of_getElem? (i := 879) (by decide +kernel)) rfl), (jin (List.mem_of_getElem? (i := 881) (by decide +kernel)) rfl), (jin (List.mem_of_getElem? (i := 41) (by decide +kernel)) rfl), by decide +kernel⟩
theorem mv_X7_178 : jMV RX7 178 mX7_pullFor 3 := ⟨(jin (List.mem_of_getElem? (i := 875) (by decide +kernel)) rfl), (jin (List.mem_of_getElem? (i := 877) (by decide +kernel)) rfl), (jin (List.mem_of_getElem? (i := 40) (by decide +kernel)) rfl), by decide +kernel⟩
theorem mv_X7_181 : jMV RX7 181 mX7_isShown 3 := ⟨(jin (List.mem_of_getElem? (i := 899) (by decide +kernel)) rfl), (jin (List.mem_of_getElem? (i := 901) (by decide +kernel)) rfl), (jin (List.mem_of_getElem? (i := 45) (by decide +kernel)) rfl), by decide +kernel⟩
theorem mv_X7_184 : jMV RX7 184 mX7_framesNow 1 := ⟨(jin (List.mem_of_getElem? (i := 891) (by decide +kernel)) rfl), (jin (List.mem_of_getElem? (i := 893) (by decide +kernel)) rfl), (jin (List.mem_of_getElem? (i := 43) (by decide +kernel)) rfl), by decide +kernel⟩
theorem mv_X7_187 : jMV RX7 187 mX7_freshOf 2 := ⟨(jin (List.mem_of_getElem? (i := 895) (by decide +kernel)) rfl), (jin (List.mem_of_getElem? (i := 897) (by decide +kernel)) rfl), (jin (List.mem_of_getElem? (i := 44) (by decide +kernel)) rfl), by decide +kernel⟩
theorem mv_X7_190 : jMV RX7 190 mX7_wasteOf 1 := ⟨(jin (List.mem_of_getElem? (i := 887) (by decide +kernel)) rfl), (jin (List.mem_of_getElem? (i := 889) (by decide +kernel)) rfl), (jin (List.mem_of_getElem? (i := 42) (by decide +kernel)) rfl), by decide +kernel⟩
theorem mv_X7_193 : jMV RX7 193 mX7_totalOf 2 := ⟨(jin (List.mem_of_getElem? (i := 907) (by decide +kernel)) rfl), (jin (List.mem_of_getElem? (i := 909) (by decide +kernel)) rfl), (jin (List.mem_of_getElem? (i := 46) (by decide +kernel)) rfl), by decide +kernel⟩
theorem mv_X7_203 : jMV RX7 203 mX7_isLike 2 := ⟨(jin (List.mem_of_getElem? (i := 926) (by decide +kernel)) rfl), (jin (List.mem_of_getElem? (i := 928) (by decide +kernel)) rfl), (jin (List.mem_of_getElem? (i := 49) (by decide +kernel)) rfl), by decide +kernel⟩
theorem mv_X7_206 : jMV RX7 206 mX7_compares 0 := ⟨(jin (List.mem_of_getElem? (i := 919) (by decide +kernel)) rfl), (jin (List.mem_of_getElem? (i := 921) (by decide +kernel)) rfl), (jin (List.mem_of_getElem? (i := 48) (by decide +kernel)) rfl), by decide +kernel⟩
theorem mv_X7_209 : jMV RX7 209 mX7_kindOf 1 := ⟨(jin (List.mem_of_getElem? (i := 930) (by decide +kernel)) rfl), (jin (List.mem_of_getElem? (i := 932) (by decide +kernel)) rfl), (jin (List.mem_of_getElem? (i := 50) (by decide +kernel)) rfl), by decide +kernel⟩
theorem mv_X7_212 : jMV RX7 212 mX7_compareOf 2 := ⟨(jin (List.mem_of_getElem? (i := 915) (by decide +kernel)) rfl), (jin (List.mem_of_getElem? (i := 917) (by decide +kernel)) rfl), (jin (List.mem_of_getElem? (i := 47) (by decide +kernel)) rfl), by decide +kernel⟩
theorem mv_X7_215 : jMV RX7 215 mX7_goneOf 0 := ⟨(jin (List.mem_of_getElem? (i := 938) (by decide +kernel)) rfl), (jin (List.mem_of_getElem? (i := 940) (by decide +kernel)) rfl), (jin (List.mem_of_getElem? (i := 51) (by decide +kernel)) rfl), by decide +kernel⟩
theorem mv_X7_218 : jMV RX7 218 mX7_isPulled 2 := ⟨(jin (List.mem_of_getElem? (i := 950) (by decide +kernel)) rfl), (jin (List.mem_of_getElem? (i := 952) (by decide +kernel)) rfl), (jin (List.mem_of_getElem? (i := 53) (by decide +kernel)) rfl), by decide +kernel⟩
theorem mv_X7_222 : jMV RX7 222 mX7_anewOf 1 := ⟨(jin (List.mem_of_getElem? (i := 946) (by decide +kernel)) rfl), (jin (List.mem_of_getElem? (i := 948) (by decide +kernel)) rfl), (jin (List.mem_of_getElem? (i := 52) (by decide +kernel)) rfl), by decide +kernel⟩
theorem mv_X7_225 : jMV RX7 225 mX7_savingOf 1 := ⟨(jin (List.mem_of_getElem? (i := 959) (by decide +kernel)) rfl), (jin (List.mem_of_getElem? (i := 961) (by decide +kernel)) rfl), (jin (List.mem_of_getElem? (i := 54) (by decide +kernel)) rfl), by decide +kernel⟩
theorem mv_X7_231 : jMV RX7 231 mX7_lacks 3 := ⟨(jin (List.mem_of_getElem? (i := 975) (by decide +kernel)) rfl), (jin (List.mem_of_getElem? (i := 977) (by decide +kernel)) rfl), (jin (List.mem_of_getElem? (i := 55) (by decide +kernel)) rfl), by decide +kernel⟩
theorem mv_X7_234 : jMV RX7 234 mX7_keep 3 := ⟨(jin (List.mem_of_getElem? (i := 979) (by decide +kernel)) rfl), (jin (List.mem_of_getElem? (i := 981) (by decide +kernel)) rfl), (jin (List.mem_of_getElem? (i := 56) (by decide +kernel)) rfl), by decide +kernel⟩
theorem mv_X7_239 : jMV RX7 239 mX7_keptOf 0 := ⟨(jin (List.mem_of_getElem? (i := 1000) (by decide +kernel)) rfl), (jin (List.mem_of_getElem? (i := 1002) (by decide +kernel)) rfl), (jin (List.mem_of_getElem? (i := 57) (by decide +kernel)) rfl), by decide +kernel⟩
theorem mv_X7_246 : jMV RX7 246 mX7_count 1 := ⟨(jin (List.mem_of_getElem? (i := 1010) (by decide +kernel)) rfl), (jin (List.mem_of_getElem? (i := 997) (by decide +kernel)) rfl), (jin (List.mem_of_getElem? (i := 998) (by decide +kernel)) rfl), by decide +kernel⟩
theorem mv_X7_249 : jMV RX7 249 mX7_listDigest 2 := ⟨(jin (List.mem_of_getElem? (i := 1011) (by decide +kernel)) rfl), (jin (List.mem_of_getElem? (i := 1013) (by decide +kernel)) rfl), (jin (List.mem_of_getElem? (i := 58) (by decide +kernel)) rfl), by decide +kernel⟩
theorem mv_X7_253 : jMV RX7 253 mX7_toldDigest 2 := ⟨(jin (List.mem_of_getElem? (i := 1015) (by decide +kernel)) rfl), (jin (List.mem_of_getElem? (i := 1017) (by decide +kernel)) rfl), (jin (List.mem_of_getElem? (i := 59) (by decide +kernel)) rfl), by decide +kernel⟩
theorem mv_X7_256 : jMV RX7 256 mX7_number 4 := ⟨(jin (List.mem_of_getElem? (i := 1019) (by decide +kernel)) rfl), (jin (List.mem_of_getElem? (i := 826) (by decide +kernel)) rfl), (jin (List.mem_of_getElem? (i := 827) (by decide +kernel)) rfl), by decide +kernel⟩
theorem kc_X7_68 : Cond.constant RX7 68 (nI 100000) ∈ jtb := (jin (List.mem_of_getElem? (i := 634) (by decide +kernel)) rfl)
theorem kc_X7_73 : Cond.constant RX7 73 (nI 199999) ∈ jtb := (jin (List.mem_of_getElem? (i := 720) (by decide +kernel)) rfl)
theorem kc_X7_95 : Cond.constant RX7 95 (nI 200000) ∈ jtb := (jin (List.mem_of_getElem? (i := 744) (by decide +kernel)) rfl)
theorem kc_X7_124 : Cond.constant RX7 124 (nI 299999) ∈ jtb := (jin (List.mem_of_getElem? (i := 795) (by decide +kernel)) rfl)
theorem kc_X7_139 : Cond.constant RX7 139 (nI 9999999) ∈ jtb := (jin (List.mem_of_getElem? (i := 812) (by decide +kernel)) rfl)
theorem kc_X7_221 : Cond.constant RX7 221 (nI 1000000) ∈ jtb := (jin (List.mem_of_getElem? (i := 954) (by decide +kernel)) rfl)
theorem kc_X7_238 : Cond.constant RX7 238 (-2147483648) ∈ jtb := (jin (List.mem_of_getElem? (i := 987) (by decide +kernel)) rfl)
theorem kl_X7_242 : Cond.constantLong RX7 242 31 ∈ jtb := (jin (List.mem_of_getElem? (i := 1009) (by decide +kernel)) rfl)
theorem kl_X7_244 : Cond.constantLong RX7 244 17 ∈ jtb := (jin (List.mem_of_getElem? (i := 1008) (by decide +kernel)) rfl)
theorem fp_X7_196 : jFP RX7 196 6 14 .int := ⟨RX7, TX7, 21, tyX7, rfl, by decide, in_X7, (jin (List.mem_of_getElem? (i := 649) (by decide +kernel)) rfl), tyX7_ok, nmX7, rfl, by decide +kernel⟩
theorem fp_X7_228 : jFP RX7 228 6 20 .int := ⟨RX7, TX7, 21, tyX7, rfl, by decide, in_X7, (jin (List.mem_of_getElem? (i := 655) (by decide +kernel)) rfl), tyX7_ok, nmX7, rfl, by decide +kernel⟩
theorem jx_max_s : Cond.static Lib.Math.max.name ∈ jtb := (jin (List.mem_of_getElem? (i := 413) (by decide +kernel)) rfl)
theorem jx_max_c : Cond.code Lib.Math.max.name Lib.Math.max.code 2 (some .int) ∈ jtb := (jin (List.mem_of_getElem? (i := 414) (by decide +kernel)) rfl)
theorem jx_min_s : Cond.static Lib.Math.min.name ∈ jtb := (jin (List.mem_of_getElem? (i := 523) (by decide +kernel)) rfl)
theorem jx_min_c : Cond.code Lib.Math.min.name Lib.Math.min.code 2 (some .int) ∈ jtb := (jin (List.mem_of_getElem? (i := 524) (by decide +kernel)) rfl)
theorem jx_math_i : Cond.initialized "java/lang/Math" ∈ jtb := (jin (List.mem_of_getElem? (i := 70) (by decide +kernel)) rfl)
theorem jx_cpy_n : Cond.native arraycopyName ∈ jtb := (jin (List.mem_of_getElem? (i := 582) (by decide +kernel)) rfl)
theorem jx_cpy_s : Cond.static arraycopyName ∈ jtb := (jin (List.mem_of_getElem? (i := 581) (by decide +kernel)) rfl)
theorem jx_sys_i : Cond.initialized "java/lang/System" ∈ jtb := (jin (List.mem_of_getElem? (i := 71) (by decide +kernel)) rfl)
