/-- one call of the script, from its case on: it comes back to the loop's end with the relation kept -/
def lGo (l : Launch) (pc : Nat) : Prop := ∀ (p : Program) (e : Env) (s : State) (m : MethodId) (args : Array Value) (below : List Frame) (meth : Method) (c : Code) (D : va_G) (cy : Nat → ClassId) (A : Nat → Prop) (za zv ad hh : Nat → Nat) (aa : Nat → Nat → Nat) (pa : Nat → Nat) (h : Nat) (a : Nat → Nat) (ho b L : Nat) (xs : Nat → Int32) (d0 : Drawn) (_ : lE D cy za zv A b L xs p s m args meth c) (_ : s.drawn.sameBut d0 lw_cs) (B : Int) (F : FS) (M : RS) (f : Nat → Int64) (i : Int32) (_ : eAll B F M) (_ : B + 16400 ≤ 35000000) (_ : vp_in (i + 1) L) (_ : vp_in (i + 2) L) (_ : vp_in (i + 3) L) (H : Heap) (locs : List Loc) (ls : Array Slot) (cells slots : Nat) (Q : State → Prop) (_ : cells + 1 ≤ room_1.cells ∧ slots + 6 ≤ room_1.slots)
    (_ : lv_has ls 9 [(0, .ref b), (1, .ref (ad 0)), (2, .ref h), (3, .ref ho), (4, .int i)]) (_ : va_P D vwCl (wLW cy ad hh aa pa h a ho F M f) H) (_ : va_D A (wLW cy ad hh aa pa h a ho F M f)) (_ : va_S A s.heap H locs)
    (_ : ∀ (d1 : Drawn), s.drawn.sameBut d1 lw_cs → ∀ (F' : FS) (M' : RS) (f' : Nat → Int64) (H1 : Heap) (locs1 : List Loc) (ls1 : Array Slot), eAll (B + 16400) F' M' → lv_has ls1 9 [(0, .ref b), (1, .ref (ad 0)), (2, .ref h), (3, .ref ho), (4, .int i)] → va_P D vwCl (wLW cy ad hh aa pa h a ho F' M' f') H1 → va_D A (wLW cy ad hh aa pa h a ho F' M' f') → va_S A s.heap H1 locs1 → W p l e room_1 (s.setDrawn d1) m args below meth c H1 locs1 (cells + 1) (slots + 6) Q (F0 m 2200 ls1 [])),
    W p l e room_1 (s.setDrawn d0) m args below meth c H locs cells slots Q (F0 m pc ls [])
theorem hlL_appendText : yL_appendText.cls ≠ "java/lang/invoke/MethodHandle" ∧ yL_appendText.cls ≠ "java/lang/invoke/VarHandle" ∧ (parseMethodDescriptor yL_appendText.desc).map (fun d => d.parameters.length) = some 3 := by decide +kernel
theorem hlX10_appendText : yX10_appendText.cls = RX10 ∧ yX10_appendText.cls ≠ "java/lang/invoke/MethodHandle" ∧ yX10_appendText.cls ≠ "java/lang/invoke/VarHandle" ∧ (parseMethodDescriptor yX10_appendText.desc).map (fun d => d.parameters.length) = some 1 := by decide +kernel
theorem hlX10_thrown : yX10_thrown.cls = RX10 ∧ yX10_thrown.cls ≠ "java/lang/invoke/MethodHandle" ∧ yX10_thrown.cls ≠ "java/lang/invoke/VarHandle" ∧ (parseMethodDescriptor yX10_thrown.desc).map (fun d => d.parameters.length) = some 0 := by decide +kernel
theorem hlL_truncateText : yL_truncateText.cls ≠ "java/lang/invoke/MethodHandle" ∧ yL_truncateText.cls ≠ "java/lang/invoke/VarHandle" ∧ (parseMethodDescriptor yL_truncateText.desc).map (fun d => d.parameters.length) = some 3 := by decide +kernel
theorem hlX10_truncateText : yX10_truncateText.cls = RX10 ∧ yX10_truncateText.cls ≠ "java/lang/invoke/MethodHandle" ∧ yX10_truncateText.cls ≠ "java/lang/invoke/VarHandle" ∧ (parseMethodDescriptor yX10_truncateText.desc).map (fun d => d.parameters.length) = some 1 := by decide +kernel
theorem hlX9_load : yX9_load.cls = RX9 ∧ yX9_load.cls ≠ "java/lang/invoke/MethodHandle" ∧ yX9_load.cls ≠ "java/lang/invoke/VarHandle" ∧ (parseMethodDescriptor yX9_load.desc).map (fun d => d.parameters.length) = some 0 := by decide +kernel
theorem hlX10_load : yX10_load.cls = RX10 ∧ yX10_load.cls ≠ "java/lang/invoke/MethodHandle" ∧ yX10_load.cls ≠ "java/lang/invoke/VarHandle" ∧ (parseMethodDescriptor yX10_load.desc).map (fun d => d.parameters.length) = some 0 := by decide +kernel
theorem hlX9_play : yX9_play.cls = RX9 ∧ yX9_play.cls ≠ "java/lang/invoke/MethodHandle" ∧ yX9_play.cls ≠ "java/lang/invoke/VarHandle" ∧ (parseMethodDescriptor yX9_play.desc).map (fun d => d.parameters.length) = some 0 := by decide +kernel
theorem hlX10_play : yX10_play.cls = RX10 ∧ yX10_play.cls ≠ "java/lang/invoke/MethodHandle" ∧ yX10_play.cls ≠ "java/lang/invoke/VarHandle" ∧ (parseMethodDescriptor yX10_play.desc).map (fun d => d.parameters.length) = some 0 := by decide +kernel
theorem hlX9_errorCode : yX9_errorCode.cls = RX9 ∧ yX9_errorCode.cls ≠ "java/lang/invoke/MethodHandle" ∧ yX9_errorCode.cls ≠ "java/lang/invoke/VarHandle" ∧ (parseMethodDescriptor yX9_errorCode.desc).map (fun d => d.parameters.length) = some 0 := by decide +kernel
theorem hlX10_errorCode : yX10_errorCode.cls = RX10 ∧ yX10_errorCode.cls ≠ "java/lang/invoke/MethodHandle" ∧ yX10_errorCode.cls ≠ "java/lang/invoke/VarHandle" ∧ (parseMethodDescriptor yX10_errorCode.desc).map (fun d => d.parameters.length) = some 0 := by decide +kernel
theorem hlX9_errorPosition : yX9_errorPosition.cls = RX9 ∧ yX9_errorPosition.cls ≠ "java/lang/invoke/MethodHandle" ∧ yX9_errorPosition.cls ≠ "java/lang/invoke/VarHandle" ∧ (parseMethodDescriptor yX9_errorPosition.desc).map (fun d => d.parameters.length) = some 0 := by decide +kernel
theorem hlX10_errorPosition : yX10_errorPosition.cls = RX10 ∧ yX10_errorPosition.cls ≠ "java/lang/invoke/MethodHandle" ∧ yX10_errorPosition.cls ≠ "java/lang/invoke/VarHandle" ∧ (parseMethodDescriptor yX10_errorPosition.desc).map (fun d => d.parameters.length) = some 0 := by decide +kernel
theorem hlL_count : yL_count.cls ≠ "java/lang/invoke/MethodHandle" ∧ yL_count.cls ≠ "java/lang/invoke/VarHandle" ∧ (parseMethodDescriptor yL_count.desc).map (fun d => d.parameters.length) = some 3 := by decide +kernel
theorem hlX10_count : yX10_count.cls = RX10 ∧ yX10_count.cls ≠ "java/lang/invoke/MethodHandle" ∧ yX10_count.cls ≠ "java/lang/invoke/VarHandle" ∧ (parseMethodDescriptor yX10_count.desc).map (fun d => d.parameters.length) = some 1 := by decide +kernel
theorem hlL_setting : yL_setting.cls ≠ "java/lang/invoke/MethodHandle" ∧ yL_setting.cls ≠ "java/lang/invoke/VarHandle" ∧ (parseMethodDescriptor yL_setting.desc).map (fun d => d.parameters.length) = some 3 := by decide +kernel
theorem hlX10_setting : yX10_setting.cls = RX10 ∧ yX10_setting.cls ≠ "java/lang/invoke/MethodHandle" ∧ yX10_setting.cls ≠ "java/lang/invoke/VarHandle" ∧ (parseMethodDescriptor yX10_setting.desc).map (fun d => d.parameters.length) = some 1 := by decide +kernel
theorem hlL_kind : yL_kind.cls ≠ "java/lang/invoke/MethodHandle" ∧ yL_kind.cls ≠ "java/lang/invoke/VarHandle" ∧ (parseMethodDescriptor yL_kind.desc).map (fun d => d.parameters.length) = some 4 := by decide +kernel
theorem hlX10_kind : yX10_kind.cls = RX10 ∧ yX10_kind.cls ≠ "java/lang/invoke/MethodHandle" ∧ yX10_kind.cls ≠ "java/lang/invoke/VarHandle" ∧ (parseMethodDescriptor yX10_kind.desc).map (fun d => d.parameters.length) = some 2 := by decide +kernel
theorem hlL_car : yL_car.cls ≠ "java/lang/invoke/MethodHandle" ∧ yL_car.cls ≠ "java/lang/invoke/VarHandle" ∧ (parseMethodDescriptor yL_car.desc).map (fun d => d.parameters.length) = some 4 := by decide +kernel
theorem hlX10_car : yX10_car.cls = RX10 ∧ yX10_car.cls ≠ "java/lang/invoke/MethodHandle" ∧ yX10_car.cls ≠ "java/lang/invoke/VarHandle" ∧ (parseMethodDescriptor yX10_car.desc).map (fun d => d.parameters.length) = some 2 := by decide +kernel
theorem hlX9_queued : yX9_queued.cls = RX9 ∧ yX9_queued.cls ≠ "java/lang/invoke/MethodHandle" ∧ yX9_queued.cls ≠ "java/lang/invoke/VarHandle" ∧ (parseMethodDescriptor yX9_queued.desc).map (fun d => d.parameters.length) = some 1 := by decide +kernel
theorem hlX10_queued : yX10_queued.cls = RX10 ∧ yX10_queued.cls ≠ "java/lang/invoke/MethodHandle" ∧ yX10_queued.cls ≠ "java/lang/invoke/VarHandle" ∧ (parseMethodDescriptor yX10_queued.desc).map (fun d => d.parameters.length) = some 1 := by decide +kernel
theorem hlL_standing : yL_standing.cls ≠ "java/lang/invoke/MethodHandle" ∧ yL_standing.cls ≠ "java/lang/invoke/VarHandle" ∧ (parseMethodDescriptor yL_standing.desc).map (fun d => d.parameters.length) = some 4 := by decide +kernel
theorem hlX10_standing : yX10_standing.cls = RX10 ∧ yX10_standing.cls ≠ "java/lang/invoke/MethodHandle" ∧ yX10_standing.cls ≠ "java/lang/invoke/VarHandle" ∧ (parseMethodDescriptor yX10_standing.desc).map (fun d => d.parameters.length) = some 2 := by decide +kernel
theorem hlL_lane : yL_lane.cls ≠ "java/lang/invoke/MethodHandle" ∧ yL_lane.cls ≠ "java/lang/invoke/VarHandle" ∧ (parseMethodDescriptor yL_lane.desc).map (fun d => d.parameters.length) = some 4 := by decide +kernel
theorem hlX10_lane : yX10_lane.cls = RX10 ∧ yX10_lane.cls ≠ "java/lang/invoke/MethodHandle" ∧ yX10_lane.cls ≠ "java/lang/invoke/VarHandle" ∧ (parseMethodDescriptor yX10_lane.desc).map (fun d => d.parameters.length) = some 2 := by decide +kernel
theorem hlL_call : yL_call.cls ≠ "java/lang/invoke/MethodHandle" ∧ yL_call.cls ≠ "java/lang/invoke/VarHandle" ∧ (parseMethodDescriptor yL_call.desc).map (fun d => d.parameters.length) = some 4 := by decide +kernel
theorem hlX10_call : yX10_call.cls = RX10 ∧ yX10_call.cls ≠ "java/lang/invoke/MethodHandle" ∧ yX10_call.cls ≠ "java/lang/invoke/VarHandle" ∧ (parseMethodDescriptor yX10_call.desc).map (fun d => d.parameters.length) = some 2 := by decide +kernel
theorem hlL_account : yL_account.cls ≠ "java/lang/invoke/MethodHandle" ∧ yL_account.cls ≠ "java/lang/invoke/VarHandle" ∧ (parseMethodDescriptor yL_account.desc).map (fun d => d.parameters.length) = some 3 := by decide +kernel
theorem hlX10_account : yX10_account.cls = RX10 ∧ yX10_account.cls ≠ "java/lang/invoke/MethodHandle" ∧ yX10_account.cls ≠ "java/lang/invoke/VarHandle" ∧ (parseMethodDescriptor yX10_account.desc).map (fun d => d.parameters.length) = some 1 := by decide +kernel
theorem hlL_tide : yL_tide.cls ≠ "java/lang/invoke/MethodHandle" ∧ yL_tide.cls ≠ "java/lang/invoke/VarHandle" ∧ (parseMethodDescriptor yL_tide.desc).map (fun d => d.parameters.length) = some 3 := by decide +kernel
theorem hlX10_tide : yX10_tide.cls = RX10 ∧ yX10_tide.cls ≠ "java/lang/invoke/MethodHandle" ∧ yX10_tide.cls ≠ "java/lang/invoke/VarHandle" ∧ (parseMethodDescriptor yX10_tide.desc).map (fun d => d.parameters.length) = some 1 := by decide +kernel
theorem hlL_deck : yL_deck.cls ≠ "java/lang/invoke/MethodHandle" ∧ yL_deck.cls ≠ "java/lang/invoke/VarHandle" ∧ (parseMethodDescriptor yL_deck.desc).map (fun d => d.parameters.length) = some 3 := by decide +kernel
theorem hlX10_deck : yX10_deck.cls = RX10 ∧ yX10_deck.cls ≠ "java/lang/invoke/MethodHandle" ∧ yX10_deck.cls ≠ "java/lang/invoke/VarHandle" ∧ (parseMethodDescriptor yX10_deck.desc).map (fun d => d.parameters.length) = some 1 := by decide +kernel
theorem hlX9_slope : yX9_slope.cls = RX9 ∧ yX9_slope.cls ≠ "java/lang/invoke/MethodHandle" ∧ yX9_slope.cls ≠ "java/lang/invoke/VarHandle" ∧ (parseMethodDescriptor yX9_slope.desc).map (fun d => d.parameters.length) = some 0 := by decide +kernel
theorem hlX10_slope : yX10_slope.cls = RX10 ∧ yX10_slope.cls ≠ "java/lang/invoke/MethodHandle" ∧ yX10_slope.cls ≠ "java/lang/invoke/VarHandle" ∧ (parseMethodDescriptor yX10_slope.desc).map (fun d => d.parameters.length) = some 0 := by decide +kernel
theorem hlX9_lip : yX9_lip.cls = RX9 ∧ yX9_lip.cls ≠ "java/lang/invoke/MethodHandle" ∧ yX9_lip.cls ≠ "java/lang/invoke/VarHandle" ∧ (parseMethodDescriptor yX9_lip.desc).map (fun d => d.parameters.length) = some 0 := by decide +kernel
theorem hlX10_lip : yX10_lip.cls = RX10 ∧ yX10_lip.cls ≠ "java/lang/invoke/MethodHandle" ∧ yX10_lip.cls ≠ "java/lang/invoke/VarHandle" ∧ (parseMethodDescriptor yX10_lip.desc).map (fun d => d.parameters.length) = some 0 := by decide +kernel
theorem hlX9_waterIn : yX9_waterIn.cls = RX9 ∧ yX9_waterIn.cls ≠ "java/lang/invoke/MethodHandle" ∧ yX9_waterIn.cls ≠ "java/lang/invoke/VarHandle" ∧ (parseMethodDescriptor yX9_waterIn.desc).map (fun d => d.parameters.length) = some 1 := by decide +kernel
theorem hlX10_waterIn : yX10_waterIn.cls = RX10 ∧ yX10_waterIn.cls ≠ "java/lang/invoke/MethodHandle" ∧ yX10_waterIn.cls ≠ "java/lang/invoke/VarHandle" ∧ (parseMethodDescriptor yX10_waterIn.desc).map (fun d => d.parameters.length) = some 1 := by decide +kernel
theorem hlX9_list : yX9_list.cls = RX9 ∧ yX9_list.cls ≠ "java/lang/invoke/MethodHandle" ∧ yX9_list.cls ≠ "java/lang/invoke/VarHandle" ∧ (parseMethodDescriptor yX9_list.desc).map (fun d => d.parameters.length) = some 0 := by decide +kernel
theorem hlX10_list : yX10_list.cls = RX10 ∧ yX10_list.cls ≠ "java/lang/invoke/MethodHandle" ∧ yX10_list.cls ≠ "java/lang/invoke/VarHandle" ∧ (parseMethodDescriptor yX10_list.desc).map (fun d => d.parameters.length) = some 0 := by decide +kernel
theorem hlX9_heaviest : yX9_heaviest.cls = RX9 ∧ yX9_heaviest.cls ≠ "java/lang/invoke/MethodHandle" ∧ yX9_heaviest.cls ≠ "java/lang/invoke/VarHandle" ∧ (parseMethodDescriptor yX9_heaviest.desc).map (fun d => d.parameters.length) = some 0 := by decide +kernel
theorem hlX10_heaviest : yX10_heaviest.cls = RX10 ∧ yX10_heaviest.cls ≠ "java/lang/invoke/MethodHandle" ∧ yX10_heaviest.cls ≠ "java/lang/invoke/VarHandle" ∧ (parseMethodDescriptor yX10_heaviest.desc).map (fun d => d.parameters.length) = some 0 := by decide +kernel
theorem hlL_whyNot : yL_whyNot.cls ≠ "java/lang/invoke/MethodHandle" ∧ yL_whyNot.cls ≠ "java/lang/invoke/VarHandle" ∧ (parseMethodDescriptor yL_whyNot.desc).map (fun d => d.parameters.length) = some 3 := by decide +kernel
theorem hlX10_whyNot : yX10_whyNot.cls = RX10 ∧ yX10_whyNot.cls ≠ "java/lang/invoke/MethodHandle" ∧ yX10_whyNot.cls ≠ "java/lang/invoke/VarHandle" ∧ (parseMethodDescriptor yX10_whyNot.desc).map (fun d => d.parameters.length) = some 1 := by decide +kernel
theorem hlL_laneFor : yL_laneFor.cls ≠ "java/lang/invoke/MethodHandle" ∧ yL_laneFor.cls ≠ "java/lang/invoke/VarHandle" ∧ (parseMethodDescriptor yL_laneFor.desc).map (fun d => d.parameters.length) = some 3 := by decide +kernel
theorem hlX10_laneFor : yX10_laneFor.cls = RX10 ∧ yX10_laneFor.cls ≠ "java/lang/invoke/MethodHandle" ∧ yX10_laneFor.cls ≠ "java/lang/invoke/VarHandle" ∧ (parseMethodDescriptor yX10_laneFor.desc).map (fun d => d.parameters.length) = some 1 := by decide +kernel
theorem hlX9_startIn : yX9_startIn.cls = RX9 ∧ yX9_startIn.cls ≠ "java/lang/invoke/MethodHandle" ∧ yX9_startIn.cls ≠ "java/lang/invoke/VarHandle" ∧ (parseMethodDescriptor yX9_startIn.desc).map (fun d => d.parameters.length) = some 0 := by decide +kernel
theorem hlX10_startIn : yX10_startIn.cls = RX10 ∧ yX10_startIn.cls ≠ "java/lang/invoke/MethodHandle" ∧ yX10_startIn.cls ≠ "java/lang/invoke/VarHandle" ∧ (parseMethodDescriptor yX10_startIn.desc).map (fun d => d.parameters.length) = some 0 := by decide +kernel
theorem hlL_boardIn : yL_boardIn.cls ≠ "java/lang/invoke/MethodHandle" ∧ yL_boardIn.cls ≠ "java/lang/invoke/VarHandle" ∧ (parseMethodDescriptor yL_boardIn.desc).map (fun d => d.parameters.length) = some 3 := by decide +kernel
theorem hlX10_boardIn : yX10_boardIn.cls = RX10 ∧ yX10_boardIn.cls ≠ "java/lang/invoke/MethodHandle" ∧ yX10_boardIn.cls ≠ "java/lang/invoke/VarHandle" ∧ (parseMethodDescriptor yX10_boardIn.desc).map (fun d => d.parameters.length) = some 1 := by decide +kernel
theorem hlX9_wakesIn : yX9_wakesIn.cls = RX9 ∧ yX9_wakesIn.cls ≠ "java/lang/invoke/MethodHandle" ∧ yX9_wakesIn.cls ≠ "java/lang/invoke/VarHandle" ∧ (parseMethodDescriptor yX9_wakesIn.desc).map (fun d => d.parameters.length) = some 0 := by decide +kernel
theorem hlX10_wakesIn : yX10_wakesIn.cls = RX10 ∧ yX10_wakesIn.cls ≠ "java/lang/invoke/MethodHandle" ∧ yX10_wakesIn.cls ≠ "java/lang/invoke/VarHandle" ∧ (parseMethodDescriptor yX10_wakesIn.desc).map (fun d => d.parameters.length) = some 0 := by decide +kernel
theorem hlL_easyIn : yL_easyIn.cls ≠ "java/lang/invoke/MethodHandle" ∧ yL_easyIn.cls ≠ "java/lang/invoke/VarHandle" ∧ (parseMethodDescriptor yL_easyIn.desc).map (fun d => d.parameters.length) = some 3 := by decide +kernel
theorem hlX10_easyIn : yX10_easyIn.cls = RX10 ∧ yX10_easyIn.cls ≠ "java/lang/invoke/MethodHandle" ∧ yX10_easyIn.cls ≠ "java/lang/invoke/VarHandle" ∧ (parseMethodDescriptor yX10_easyIn.desc).map (fun d => d.parameters.length) = some 1 := by decide +kernel
theorem hlL_bestFirst : yL_bestFirst.cls ≠ "java/lang/invoke/MethodHandle" ∧ yL_bestFirst.cls ≠ "java/lang/invoke/VarHandle" ∧ (parseMethodDescriptor yL_bestFirst.desc).map (fun d => d.parameters.length) = some 3 := by decide +kernel
theorem hlX10_bestFirst : yX10_bestFirst.cls = RX10 ∧ yX10_bestFirst.cls ≠ "java/lang/invoke/MethodHandle" ∧ yX10_bestFirst.cls ≠ "java/lang/invoke/VarHandle" ∧ (parseMethodDescriptor yX10_bestFirst.desc).map (fun d => d.parameters.length) = some 1 := by decide +kernel
theorem hlL_tick : yL_tick.cls ≠ "java/lang/invoke/MethodHandle" ∧ yL_tick.cls ≠ "java/lang/invoke/VarHandle" ∧ (parseMethodDescriptor yL_tick.desc).map (fun d => d.parameters.length) = some 3 := by decide +kernel
theorem hlX10_tick : yX10_tick.cls = RX10 ∧ yX10_tick.cls ≠ "java/lang/invoke/MethodHandle" ∧ yX10_tick.cls ≠ "java/lang/invoke/VarHandle" ∧ (parseMethodDescriptor yX10_tick.desc).map (fun d => d.parameters.length) = some 1 := by decide +kernel
theorem hlL_arrive : yL_arrive.cls ≠ "java/lang/invoke/MethodHandle" ∧ yL_arrive.cls ≠ "java/lang/invoke/VarHandle" ∧ (parseMethodDescriptor yL_arrive.desc).map (fun d => d.parameters.length) = some 4 := by decide +kernel
theorem hlX10_arrive : yX10_arrive.cls = RX10 ∧ yX10_arrive.cls ≠ "java/lang/invoke/MethodHandle" ∧ yX10_arrive.cls ≠ "java/lang/invoke/VarHandle" ∧ (parseMethodDescriptor yX10_arrive.desc).map (fun d => d.parameters.length) = some 2 := by decide +kernel
theorem hlL_wave : yL_wave.cls ≠ "java/lang/invoke/MethodHandle" ∧ yL_wave.cls ≠ "java/lang/invoke/VarHandle" ∧ (parseMethodDescriptor yL_wave.desc).map (fun d => d.parameters.length) = some 3 := by decide +kernel
theorem hlX10_wave : yX10_wave.cls = RX10 ∧ yX10_wave.cls ≠ "java/lang/invoke/MethodHandle" ∧ yX10_wave.cls ≠ "java/lang/invoke/VarHandle" ∧ (parseMethodDescriptor yX10_wave.desc).map (fun d => d.parameters.length) = some 1 := by decide +kernel
theorem hlL_dismiss : yL_dismiss.cls ≠ "java/lang/invoke/MethodHandle" ∧ yL_dismiss.cls ≠ "java/lang/invoke/VarHandle" ∧ (parseMethodDescriptor yL_dismiss.desc).map (fun d => d.parameters.length) = some 3 := by decide +kernel
theorem hlX10_dismiss : yX10_dismiss.cls = RX10 ∧ yX10_dismiss.cls ≠ "java/lang/invoke/MethodHandle" ∧ yX10_dismiss.cls ≠ "java/lang/invoke/VarHandle" ∧ (parseMethodDescriptor yX10_dismiss.desc).map (fun d => d.parameters.length) = some 1 := by decide +kernel
theorem hlL_unload : yL_unload.cls ≠ "java/lang/invoke/MethodHandle" ∧ yL_unload.cls ≠ "java/lang/invoke/VarHandle" ∧ (parseMethodDescriptor yL_unload.desc).map (fun d => d.parameters.length) = some 3 := by decide +kernel
theorem hlX10_unload : yX10_unload.cls = RX10 ∧ yX10_unload.cls ≠ "java/lang/invoke/MethodHandle" ∧ yX10_unload.cls ≠ "java/lang/invoke/VarHandle" ∧ (parseMethodDescriptor yX10_unload.desc).map (fun d => d.parameters.length) = some 1 := by decide +kernel
theorem hlX9_setGate : yX9_setGate.cls = RX9 ∧ yX9_setGate.cls ≠ "java/lang/invoke/MethodHandle" ∧ yX9_setGate.cls ≠ "java/lang/invoke/VarHandle" ∧ (parseMethodDescriptor yX9_setGate.desc).map (fun d => d.parameters.length) = some 1 := by decide +kernel
theorem hlX10_setGate : yX10_setGate.cls = RX10 ∧ yX10_setGate.cls ≠ "java/lang/invoke/MethodHandle" ∧ yX10_setGate.cls ≠ "java/lang/invoke/VarHandle" ∧ (parseMethodDescriptor yX10_setGate.desc).map (fun d => d.parameters.length) = some 1 := by decide +kernel
theorem hlL_crank : yL_crank.cls ≠ "java/lang/invoke/MethodHandle" ∧ yL_crank.cls ≠ "java/lang/invoke/VarHandle" ∧ (parseMethodDescriptor yL_crank.desc).map (fun d => d.parameters.length) = some 3 := by decide +kernel
theorem hlX10_crank : yX10_crank.cls = RX10 ∧ yX10_crank.cls ≠ "java/lang/invoke/MethodHandle" ∧ yX10_crank.cls ≠ "java/lang/invoke/VarHandle" ∧ (parseMethodDescriptor yX10_crank.desc).map (fun d => d.parameters.length) = some 1 := by decide +kernel
theorem hlL_setWinch : yL_setWinch.cls ≠ "java/lang/invoke/MethodHandle" ∧ yL_setWinch.cls ≠ "java/lang/invoke/VarHandle" ∧ (parseMethodDescriptor yL_setWinch.desc).map (fun d => d.parameters.length) = some 5 := by decide +kernel
theorem hlX10_setWinch : yX10_setWinch.cls = RX10 ∧ yX10_setWinch.cls ≠ "java/lang/invoke/MethodHandle" ∧ yX10_setWinch.cls ≠ "java/lang/invoke/VarHandle" ∧ (parseMethodDescriptor yX10_setWinch.desc).map (fun d => d.parameters.length) = some 3 := by decide +kernel
theorem hlL_setCross : yL_setCross.cls ≠ "java/lang/invoke/MethodHandle" ∧ yL_setCross.cls ≠ "java/lang/invoke/VarHandle" ∧ (parseMethodDescriptor yL_setCross.desc).map (fun d => d.parameters.length) = some 4 := by decide +kernel
theorem hlX10_setCross : yX10_setCross.cls = RX10 ∧ yX10_setCross.cls ≠ "java/lang/invoke/MethodHandle" ∧ yX10_setCross.cls ≠ "java/lang/invoke/VarHandle" ∧ (parseMethodDescriptor yX10_setCross.desc).map (fun d => d.parameters.length) = some 2 := by decide +kernel
theorem hlX9_writeLanes : yX9_writeLanes.cls = RX9 ∧ yX9_writeLanes.cls ≠ "java/lang/invoke/MethodHandle" ∧ yX9_writeLanes.cls ≠ "java/lang/invoke/VarHandle" ∧ (parseMethodDescriptor yX9_writeLanes.desc).map (fun d => d.parameters.length) = some 0 := by decide +kernel
theorem hlX10_writeLanes : yX10_writeLanes.cls = RX10 ∧ yX10_writeLanes.cls ≠ "java/lang/invoke/MethodHandle" ∧ yX10_writeLanes.cls ≠ "java/lang/invoke/VarHandle" ∧ (parseMethodDescriptor yX10_writeLanes.desc).map (fun d => d.parameters.length) = some 0 := by decide +kernel
theorem hlX9_output : yX9_output.cls = RX9 ∧ yX9_output.cls ≠ "java/lang/invoke/MethodHandle" ∧ yX9_output.cls ≠ "java/lang/invoke/VarHandle" ∧ (parseMethodDescriptor yX9_output.desc).map (fun d => d.parameters.length) = some 1 := by decide +kernel
theorem hlX10_output : yX10_output.cls = RX10 ∧ yX10_output.cls ≠ "java/lang/invoke/MethodHandle" ∧ yX10_output.cls ≠ "java/lang/invoke/VarHandle" ∧ (parseMethodDescriptor yX10_output.desc).map (fun d => d.parameters.length) = some 1 := by decide +kernel
theorem hlX9_undo : yX9_undo.cls = RX9 ∧ yX9_undo.cls ≠ "java/lang/invoke/MethodHandle" ∧ yX9_undo.cls ≠ "java/lang/invoke/VarHandle" ∧ (parseMethodDescriptor yX9_undo.desc).map (fun d => d.parameters.length) = some 0 := by decide +kernel
theorem hlX10_undo : yX10_undo.cls = RX10 ∧ yX10_undo.cls ≠ "java/lang/invoke/MethodHandle" ∧ yX10_undo.cls ≠ "java/lang/invoke/VarHandle" ∧ (parseMethodDescriptor yX10_undo.desc).map (fun d => d.parameters.length) = some 0 := by decide +kernel
theorem hlL_save : yL_save.cls ≠ "java/lang/invoke/MethodHandle" ∧ yL_save.cls ≠ "java/lang/invoke/VarHandle" ∧ (parseMethodDescriptor yL_save.desc).map (fun d => d.parameters.length) = some 2 := by decide +kernel
theorem hlX10_save : yX10_save.cls = RX10 ∧ yX10_save.cls ≠ "java/lang/invoke/MethodHandle" ∧ yX10_save.cls ≠ "java/lang/invoke/VarHandle" ∧ (parseMethodDescriptor yX10_save.desc).map (fun d => d.parameters.length) = some 1 := by decide +kernel
theorem hlL_restore : yL_restore.cls ≠ "java/lang/invoke/MethodHandle" ∧ yL_restore.cls ≠ "java/lang/invoke/VarHandle" ∧ (parseMethodDescriptor yL_restore.desc).map (fun d => d.parameters.length) = some 2 := by decide +kernel
theorem hlX10_restore : yX10_restore.cls = RX10 ∧ yX10_restore.cls ≠ "java/lang/invoke/MethodHandle" ∧ yX10_restore.cls ≠ "java/lang/invoke/VarHandle" ∧ (parseMethodDescriptor yX10_restore.desc).map (fun d => d.parameters.length) = some 1 := by decide +kernel
set_option maxHeartbeats 4000000 in
set_option maxRecDepth 100000 in
theorem lk0 (l : Launch) (hfl : l.stackTraces = false) : lGo l 232 := by
  intro p e s m args below meth c D cy A za zv ad hh aa pa h a ho b L xs d0 E0 hd0 B F M f i hAl hB hi1 hi2 hi3 H locs ls cells slots Q hf hl hP hD hS kk
  obtain ⟨hx, hb, hml, hown, hts, hK, hA, hZ, hN, hX, hbl, hbA⟩ := E0.draw d0
  refine lv_aload_n hx hb dL_law_232 rfl (lv_at hl 1 rfl) ?_
  refine lv_aload_n hx hb dL_law_233 rfl (lv_at hl 0 rfl) ?_
  refine lv_iload hx hb dL_law_234 (lv_at hl 4 rfl) ?_
  refine lv_iconst (v := 1) hx hb dL_law_236 rfl ?_
  refine lv_iadd hx hb dL_law_237 ?_
  refine va_sld hx hb hX hbl hbA hS hi1 dL_law_238 ?_
  refine lv_aload_n hx hb dL_law_239 rfl (lv_at hl 3 rfl) ?_
  obtain ⟨F1, M1, b1, hAl1, e2, h1⟩ := lz_1 (c_appendText hAl ((xs (i + 1).toNatClampNeg))) f
  have hAl2 := hAl1.mono (B' := B + 16400) (by omega) (by omega)
  refine lw_H (As := [.ref (ad 0), .int (xs (i + 1).toNatClampNeg), .ref ho]) (rest := []) ⟨hx, hb, hml, hown, hts⟩ (cL_appendTextM l hfl D cy za zv ad hh aa pa ho H.size F f ((xs (i + 1).toNatClampNeg)) _ h1) (vx_cwSW 3 hts gL_law_L_appendText rfl rfl rfl hlL_appendText ⟨Nat.le_of_ble_eq_true rfl, Nat.le_of_ble_eq_true rfl⟩) hN hZ hK hP hD hS hA rfl hl.1 rfl (Nat.le_of_ble_eq_true rfl) dL_law_240 hf (fun r q H locs hq hP hD hS => ?_)
  obtain ⟨F2, f2⟩ := q
  obtain ⟨hq1, hq2, hq3⟩ := hq
  replace hq2 : F2 = F1 := hq2
  subst hq2
  replace hq3 : r = 0 → f2 (Int32.toNatClampNeg 0) = b1.toInt64 := hq3
  replace hP : va_P D vwCl (wLW cy ad hh aa pa h a ho F2 M f2) H := hP
  replace hD : va_D A (wLW cy ad hh aa pa h a ho F2 M f2) := hD
  refine lv_istore (lv' := [(5, .int r), (0, .ref b), (1, .ref (ad 0)), (2, .ref h), (3, .ref ho), (4, .int i)]) hx hb dL_law_243 hl (by decide) rfl (fun ls hl => ?_)
  refine lv_aload_n hx hb dL_law_245 rfl (lv_at hl 3 rfl) ?_
  refine lv_aload_n hx hb dL_law_246 rfl (lv_at hl 1 rfl) ?_
  refine lv_iload hx hb dL_law_247 (lv_at hl 5 rfl) ?_
  refine lv_iconst (v := 1) hx hb dL_law_249 rfl ?_
  refine lv_iadd hx hb dL_law_250 ?_
  refine va_sld hx hb hX hbl hbA hS hi1 dL_law_251 ?_
  refine lw_MI e2 (As := [.int (xs (i + 1).toNatClampNeg)]) (rest := []) ⟨hx, hb, hml, hown, hts⟩ (cX10_appendTextM l D cy h a H.size M ((xs (i + 1).toNatClampNeg))) (cwV 1 hts gL_law_X10_appendText rfl rfl rfl hlX10_appendText ⟨Nat.le_of_ble_eq_true rfl, Nat.le_of_ble_eq_true rfl⟩) hK hP hD hS hA rfl hl.1 rfl (Nat.le_of_ble_eq_true rfl) dL_law_252 hf (fun H locs hP hD hS => ?_)
  refine lv_istore (lv' := [(6, .int b1), (5, .int r), (0, .ref b), (1, .ref (ad 0)), (2, .ref h), (3, .ref ho), (4, .int i)]) hx hb dL_law_255 hl (by decide) rfl (fun ls hl => ?_)
  refine lv_aload_n hx hb dL_law_257 rfl (lv_at hl 4 rfl) ?_
  refine lw_MR (o := fX10_thrown M1) (r0 := mTh M1) rfl (As := []) (rest := []) ⟨hx, hb, hml, hown, hts⟩ (cX10_thrownM l D cy h a H.size M1) (cwV 0 hts gL_law_X10_thrown rfl rfl rfl hlX10_thrown ⟨Nat.le_of_ble_eq_true rfl, Nat.le_of_ble_eq_true rfl⟩) hK hP hD hS hA rfl hl.1 rfl (Nat.le_of_ble_eq_true rfl) dL_law_258 hf (fun H locs hP hD hS => ?_)
  refine lv_iload hx hb dL_law_261 (lv_at hl 1 rfl) ?_
  refine lv_icmp_eq (tgt := 268) hx hb dL_law_263 (by decide) (fun _ => ?_) (fun c => absurd hq1.symm c)
  refine lv_iload hx hb dL_law_268 (lv_at hl 1 rfl) ?_
  refine lv_if_ne (tgt := 285) hx hb dL_law_270 (by decide) (fun c270 => ?_) (fun c270 => ?_)
  · refine lv_goto (tgt := 2200) hx hb dL_law_285 (by decide) ?_
    exact kk d0 hd0 F2 M1 f2 H locs ls hAl2 (lv_sub hl [2, 3, 4, 5, 6] rfl) hP hD hS
  · refine lv_aload_n hx hb dL_law_273 rfl (lv_at hl 5 rfl) ?_
    refine lv_iconst (v := 0) hx hb dL_law_274 rfl ?_
    refine va_lald (ws := wLW cy ad hh aa pa h a ho F2 M1 f2) (cA := cy 3) (n := 1) (f := f2) hx hb hK.1 hP 0 3 rfl rfl (inb_vp (by decide)) dL_law_275 ?_
    refine lv_iload hx hb dL_law_276 (lv_at hl 0 rfl) ?_
    refine lv_i2l (v := b1.toInt64) hx hb dL_law_278 rfl ?_
    refine W.lcmp hx hb dL_law_279 ?_
    refine lv_if_eq (tgt := 285) hx hb dL_law_280 (by decide) (fun _ => ?_) (fun c => absurd (by rw [hq3 c270]; exact lg_cmp_self _) c)
    refine lv_goto (tgt := 2200) hx hb dL_law_285 (by decide) ?_
    exact kk d0 hd0 F2 M1 f2 H locs ls hAl2 (lv_sub hl [2, 3, 4, 5, 6] rfl) hP hD hS
set_option maxHeartbeats 4000000 in
set_option maxRecDepth 100000 in
theorem lk2 (l : Launch) (hfl : l.stackTraces = false) : lGo l 344 := by
  intro p e s m args below meth c D cy A za zv ad hh aa pa h a ho b L xs d0 E0 hd0 B F M f i hAl hB hi1 hi2 hi3 H locs ls cells slots Q hf hl hP hD hS kk
  obtain ⟨hx, hb, hml, hown, hts, hK, hA, hZ, hN, hX, hbl, hbA⟩ := E0.draw d0
  have hf0 : cells ≤ room_1.cells ∧ slots ≤ room_1.slots := ⟨Nat.le_trans (Nat.le_add_right _ _) hf.1, Nat.le_trans (Nat.le_add_right _ _) hf.2⟩
  refine lv_aload_n hx hb dL_law_344 rfl (lv_at hl 1 rfl) ?_
  obtain ⟨r1, F1, M1, e1, e2, hAl1⟩ := c_load hAl 
  have hAl2 := hAl1.mono (B' := B + 16400) (by omega) (by omega)
  refine lw_XZ e1 (As := []) (rest := []) ⟨hx, hb, hml, hown, hts⟩ (cX9_loadM l D cy za zv ad hh aa pa H.size F ) (cwV 0 hts gL_law_X9_load rfl rfl rfl hlX9_load ⟨Nat.le_of_ble_eq_true rfl, Nat.le_of_ble_eq_true rfl⟩) hZ hK hP hD hS hA rfl hl.1 rfl (Nat.le_of_ble_eq_true rfl) dL_law_345 hf0 (fun H locs hP hD hS => ?_)
  refine lv_aload_n hx hb dL_law_348 rfl (lv_at hl 2 rfl) ?_
  refine lw_MZ e2 (As := []) (rest := [.int r1]) ⟨hx, hb, hml, hown, hts⟩ (cX10_loadM l D cy za zv h a H.size M ) (cwV 0 hts gL_law_X10_load rfl rfl rfl hlX10_load ⟨Nat.le_of_ble_eq_true rfl, Nat.le_of_ble_eq_true rfl⟩) hZ hK hP hD hS hA rfl hl.1 rfl (Nat.le_of_ble_eq_true rfl) dL_law_349 hf0 (fun H locs hP hD hS => ?_)
  refine lv_icmp_eq (tgt := 2200) hx hb dL_law_352 (by decide) (fun _ => ?_) (fun c => absurd rfl c)
  refine W.widen (k := cells + 1) (n := slots + 6) (Nat.le_add_right _ _) (Nat.le_add_right _ _) ?_
  exact kk d0 hd0 F1 M1 f H locs ls hAl2 (lv_sub hl [0, 1, 2, 3, 4] rfl) hP hD hS
set_option maxHeartbeats 4000000 in
set_option maxRecDepth 100000 in
theorem lk12 (l : Launch) (hfl : l.stackTraces = false) : lGo l 737 := by
  intro p e s m args below meth c D cy A za zv ad hh aa pa h a ho b L xs d0 E0 hd0 B F M f i hAl hB hi1 hi2 hi3 H locs ls cells slots Q hf hl hP hD hS kk
  obtain ⟨hx, hb, hml, hown, hts, hK, hA, hZ, hN, hX, hbl, hbA⟩ := E0.draw d0
  refine lv_aload_n hx hb dL_law_737 rfl (lv_at hl 1 rfl) ?_
  refine lv_aload_n hx hb dL_law_738 rfl (lv_at hl 0 rfl) ?_
  refine lv_iload hx hb dL_law_739 (lv_at hl 4 rfl) ?_
  refine lv_iconst (v := 1) hx hb dL_law_741 rfl ?_
  refine lv_iadd hx hb dL_law_742 ?_
  refine va_sld hx hb hX hbl hbA hS hi1 dL_law_743 ?_
  refine lv_aload_n hx hb dL_law_744 rfl (lv_at hl 0 rfl) ?_
  refine lv_iload hx hb dL_law_745 (lv_at hl 4 rfl) ?_
  refine lv_iconst (v := 2) hx hb dL_law_747 rfl ?_
  refine lv_iadd hx hb dL_law_748 ?_
  refine va_sld hx hb hX hbl hbA hS hi2 dL_law_749 ?_
  refine lv_if_eq (tgt := 757) hx hb dL_law_750 (by decide) (fun c750 => ?_) (fun c750 => ?_)
  · refine lv_iconst (v := 0) hx hb dL_law_757 rfl ?_
    refine lv_aload_n hx hb dL_law_758 rfl (lv_at hl 3 rfl) ?_
    obtain ⟨F1, M1, b1, hAl1, e2, h1⟩ := lz_1 (c_lane hAl ((xs (i + 1).toNatClampNeg)) (0)) f
    have hAl2 := hAl1.mono (B' := B + 16400) (by omega) (by omega)
    refine lw_H (As := [.ref (ad 0), .int (xs (i + 1).toNatClampNeg), .int 0, .ref ho]) (rest := []) ⟨hx, hb, hml, hown, hts⟩ (cL_laneM l hfl D cy za zv ad hh aa pa ho H.size F f ((xs (i + 1).toNatClampNeg)) (0) _ h1) (vx_cwSW 4 hts gL_law_L_lane rfl rfl rfl hlL_lane ⟨Nat.le_of_ble_eq_true rfl, Nat.le_of_ble_eq_true rfl⟩) hN hZ hK hP hD hS hA rfl hl.1 rfl (Nat.le_of_ble_eq_true rfl) dL_law_759 hf (fun r q H locs hq hP hD hS => ?_)
    obtain ⟨F2, f2⟩ := q
    obtain ⟨hq1, hq2, hq3⟩ := hq
    replace hq2 : F2 = F1 := hq2
    subst hq2
    replace hq3 : r = 0 → f2 (Int32.toNatClampNeg 0) = b1.toInt64 := hq3
    replace hP : va_P D vwCl (wLW cy ad hh aa pa h a ho F2 M f2) H := hP
    replace hD : va_D A (wLW cy ad hh aa pa h a ho F2 M f2) := hD
    refine lv_istore (lv' := [(5, .int r), (0, .ref b), (1, .ref (ad 0)), (2, .ref h), (3, .ref ho), (4, .int i)]) hx hb dL_law_762 hl (by decide) rfl (fun ls hl => ?_)
    refine lv_aload_n hx hb dL_law_764 rfl (lv_at hl 3 rfl) ?_
    refine lv_aload_n hx hb dL_law_765 rfl (lv_at hl 1 rfl) ?_
    refine lv_iload hx hb dL_law_766 (lv_at hl 5 rfl) ?_
    refine lv_iconst (v := 1) hx hb dL_law_768 rfl ?_
    refine lv_iadd hx hb dL_law_769 ?_
    refine va_sld hx hb hX hbl hbA hS hi1 dL_law_770 ?_
    refine lv_aload_n hx hb dL_law_771 rfl (lv_at hl 1 rfl) ?_
    refine lv_iload hx hb dL_law_772 (lv_at hl 5 rfl) ?_
    refine lv_iconst (v := 2) hx hb dL_law_774 rfl ?_
    refine lv_iadd hx hb dL_law_775 ?_
    refine va_sld hx hb hX hbl hbA hS hi2 dL_law_776 ?_
    refine lv_if_eq (tgt := 784) hx hb dL_law_777 (by decide) (fun _ => ?_) (fun c => absurd c750 c)
    refine lv_iconst (v := 0) hx hb dL_law_784 rfl ?_
    refine lw_MI e2 (As := [.int (xs (i + 1).toNatClampNeg), .int 0]) (rest := []) ⟨hx, hb, hml, hown, hts⟩ (cX10_laneM l D cy h a H.size M ((xs (i + 1).toNatClampNeg)) (0)) (cwV 2 hts gL_law_X10_lane rfl rfl rfl hlX10_lane ⟨Nat.le_of_ble_eq_true rfl, Nat.le_of_ble_eq_true rfl⟩) hK hP hD hS hA rfl hl.1 rfl (Nat.le_of_ble_eq_true rfl) dL_law_785 hf (fun H locs hP hD hS => ?_)
    refine lv_istore (lv' := [(6, .int b1), (5, .int r), (0, .ref b), (1, .ref (ad 0)), (2, .ref h), (3, .ref ho), (4, .int i)]) hx hb dL_law_788 hl (by decide) rfl (fun ls hl => ?_)
    refine lv_aload_n hx hb dL_law_790 rfl (lv_at hl 4 rfl) ?_
    refine lw_MR (o := fX10_thrown M1) (r0 := mTh M1) rfl (As := []) (rest := []) ⟨hx, hb, hml, hown, hts⟩ (cX10_thrownM l D cy h a H.size M1) (cwV 0 hts gL_law_X10_thrown rfl rfl rfl hlX10_thrown ⟨Nat.le_of_ble_eq_true rfl, Nat.le_of_ble_eq_true rfl⟩) hK hP hD hS hA rfl hl.1 rfl (Nat.le_of_ble_eq_true rfl) dL_law_791 hf (fun H locs hP hD hS => ?_)
    refine lv_iload hx hb dL_law_794 (lv_at hl 1 rfl) ?_
    refine lv_icmp_eq (tgt := 801) hx hb dL_law_796 (by decide) (fun _ => ?_) (fun c => absurd hq1.symm c)
    refine lv_iload hx hb dL_law_801 (lv_at hl 1 rfl) ?_
    refine lv_if_ne (tgt := 818) hx hb dL_law_803 (by decide) (fun c803 => ?_) (fun c803 => ?_)
    · refine lv_goto (tgt := 2200) hx hb dL_law_818 (by decide) ?_
      exact kk d0 hd0 F2 M1 f2 H locs ls hAl2 (lv_sub hl [2, 3, 4, 5, 6] rfl) hP hD hS
    · refine lv_aload_n hx hb dL_law_806 rfl (lv_at hl 5 rfl) ?_
      refine lv_iconst (v := 0) hx hb dL_law_807 rfl ?_
      refine va_lald (ws := wLW cy ad hh aa pa h a ho F2 M1 f2) (cA := cy 3) (n := 1) (f := f2) hx hb hK.1 hP 0 3 rfl rfl (inb_vp (by decide)) dL_law_808 ?_
      refine lv_iload hx hb dL_law_809 (lv_at hl 0 rfl) ?_
      refine lv_i2l (v := b1.toInt64) hx hb dL_law_811 rfl ?_
      refine W.lcmp hx hb dL_law_812 ?_
      refine lv_if_eq (tgt := 818) hx hb dL_law_813 (by decide) (fun _ => ?_) (fun c => absurd (by rw [hq3 c803]; exact lg_cmp_self _) c)
      refine lv_goto (tgt := 2200) hx hb dL_law_818 (by decide) ?_
      exact kk d0 hd0 F2 M1 f2 H locs ls hAl2 (lv_sub hl [2, 3, 4, 5, 6] rfl) hP hD hS
  · refine lv_iconst (v := 1) hx hb dL_law_753 rfl ?_
    refine lv_goto (tgt := 758) hx hb dL_law_754 (by decide) ?_
    refine lv_aload_n hx hb dL_law_758 rfl (lv_at hl 3 rfl) ?_
    obtain ⟨F1, M1, b1, hAl1, e2, h1⟩ := lz_1 (c_lane hAl ((xs (i + 1).toNatClampNeg)) (1)) f
    have hAl2 := hAl1.mono (B' := B + 16400) (by omega) (by omega)
    refine lw_H (As := [.ref (ad 0), .int (xs (i + 1).toNatClampNeg), .int 1, .ref ho]) (rest := []) ⟨hx, hb, hml, hown, hts⟩ (cL_laneM l hfl D cy za zv ad hh aa pa ho H.size F f ((xs (i + 1).toNatClampNeg)) (1) _ h1) (vx_cwSW 4 hts gL_law_L_lane rfl rfl rfl hlL_lane ⟨Nat.le_of_ble_eq_true rfl, Nat.le_of_ble_eq_true rfl⟩) hN hZ hK hP hD hS hA rfl hl.1 rfl (Nat.le_of_ble_eq_true rfl) dL_law_759 hf (fun r q H locs hq hP hD hS => ?_)
    obtain ⟨F2, f2⟩ := q
    obtain ⟨hq1, hq2, hq3⟩ := hq
    replace hq2 : F2 = F1 := hq2
    subst hq2
    replace hq3 : r = 0 → f2 (Int32.toNatClampNeg 0) = b1.toInt64 := hq3
    replace hP : va_P D vwCl (wLW cy ad hh aa pa h a ho F2 M f2) H := hP
    replace hD : va_D A (wLW cy ad hh aa pa h a ho F2 M f2) := hD
    refine lv_istore (lv' := [(5, .int r), (0, .ref b), (1, .ref (ad 0)), (2, .ref h), (3, .ref ho), (4, .int i)]) hx hb dL_law_762 hl (by decide) rfl (fun ls hl => ?_)
    refine lv_aload_n hx hb dL_law_764 rfl (lv_at hl 3 rfl) ?_
    refine lv_aload_n hx hb dL_law_765 rfl (lv_at hl 1 rfl) ?_
    refine lv_iload hx hb dL_law_766 (lv_at hl 5 rfl) ?_
    refine lv_iconst (v := 1) hx hb dL_law_768 rfl ?_
    refine lv_iadd hx hb dL_law_769 ?_
    refine va_sld hx hb hX hbl hbA hS hi1 dL_law_770 ?_
    refine lv_aload_n hx hb dL_law_771 rfl (lv_at hl 1 rfl) ?_
    refine lv_iload hx hb dL_law_772 (lv_at hl 5 rfl) ?_
    refine lv_iconst (v := 2) hx hb dL_law_774 rfl ?_
    refine lv_iadd hx hb dL_law_775 ?_
    refine va_sld hx hb hX hbl hbA hS hi2 dL_law_776 ?_
    refine lv_if_eq (tgt := 784) hx hb dL_law_777 (by decide) (fun c => absurd c c750) (fun _ => ?_)
    refine lv_iconst (v := 1) hx hb dL_law_780 rfl ?_
    refine lv_goto (tgt := 785) hx hb dL_law_781 (by decide) ?_
    refine lw_MI e2 (As := [.int (xs (i + 1).toNatClampNeg), .int 1]) (rest := []) ⟨hx, hb, hml, hown, hts⟩ (cX10_laneM l D cy h a H.size M ((xs (i + 1).toNatClampNeg)) (1)) (cwV 2 hts gL_law_X10_lane rfl rfl rfl hlX10_lane ⟨Nat.le_of_ble_eq_true rfl, Nat.le_of_ble_eq_true rfl⟩) hK hP hD hS hA rfl hl.1 rfl (Nat.le_of_ble_eq_true rfl) dL_law_785 hf (fun H locs hP hD hS => ?_)
    refine lv_istore (lv' := [(6, .int b1), (5, .int r), (0, .ref b), (1, .ref (ad 0)), (2, .ref h), (3, .ref ho), (4, .int i)]) hx hb dL_law_788 hl (by decide) rfl (fun ls hl => ?_)
    refine lv_aload_n hx hb dL_law_790 rfl (lv_at hl 4 rfl) ?_
    refine lw_MR (o := fX10_thrown M1) (r0 := mTh M1) rfl (As := []) (rest := []) ⟨hx, hb, hml, hown, hts⟩ (cX10_thrownM l D cy h a H.size M1) (cwV 0 hts gL_law_X10_thrown rfl rfl rfl hlX10_thrown ⟨Nat.le_of_ble_eq_true rfl, Nat.le_of_ble_eq_true rfl⟩) hK hP hD hS hA rfl hl.1 rfl (Nat.le_of_ble_eq_true rfl) dL_law_791 hf (fun H locs hP hD hS => ?_)
    refine lv_iload hx hb dL_law_794 (lv_at hl 1 rfl) ?_
    refine lv_icmp_eq (tgt := 801) hx hb dL_law_796 (by decide) (fun _ => ?_) (fun c => absurd hq1.symm c)
    refine lv_iload hx hb dL_law_801 (lv_at hl 1 rfl) ?_
    refine lv_if_ne (tgt := 818) hx hb dL_law_803 (by decide) (fun c803 => ?_) (fun c803 => ?_)
    · refine lv_goto (tgt := 2200) hx hb dL_law_818 (by decide) ?_
      exact kk d0 hd0 F2 M1 f2 H locs ls hAl2 (lv_sub hl [2, 3, 4, 5, 6] rfl) hP hD hS
    · refine lv_aload_n hx hb dL_law_806 rfl (lv_at hl 5 rfl) ?_
      refine lv_iconst (v := 0) hx hb dL_law_807 rfl ?_
      refine va_lald (ws := wLW cy ad hh aa pa h a ho F2 M1 f2) (cA := cy 3) (n := 1) (f := f2) hx hb hK.1 hP 0 3 rfl rfl (inb_vp (by decide)) dL_law_808 ?_
      refine lv_iload hx hb dL_law_809 (lv_at hl 0 rfl) ?_
      refine lv_i2l (v := b1.toInt64) hx hb dL_law_811 rfl ?_
      refine W.lcmp hx hb dL_law_812 ?_
      refine lv_if_eq (tgt := 818) hx hb dL_law_813 (by decide) (fun _ => ?_) (fun c => absurd (by rw [hq3 c803]; exact lg_cmp_self _) c)
      refine lv_goto (tgt := 2200) hx hb dL_law_818 (by decide) ?_
      exact kk d0 hd0 F2 M1 f2 H locs ls hAl2 (lv_sub hl [2, 3, 4, 5, 6] rfl) hP hD hS
set_option maxHeartbeats 4000000 in
set_option maxRecDepth 100000 in
theorem lk43 (l : Launch) (hfl : l.stackTraces = false) : lGo l 2128 := by
  intro p e s m args below meth c D cy A za zv ad hh aa pa h a ho b L xs d0 E0 hd0 B F M f i hAl hB hi1 hi2 hi3 H locs ls cells slots Q hf hl hP hD hS kk
  obtain ⟨hx, hb, hml, hown, hts, hK, hA, hZ, hN, hX, hbl, hbA⟩ := E0.draw d0
  refine lv_aload_n hx hb dL_law_2128 rfl (lv_at hl 1 rfl) ?_
  refine lv_aload_n hx hb dL_law_2129 rfl (lv_at hl 0 rfl) ?_
  refine lv_iload hx hb dL_law_2130 (lv_at hl 4 rfl) ?_
  refine lv_iconst (v := 1) hx hb dL_law_2132 rfl ?_
  refine lv_iadd hx hb dL_law_2133 ?_
  refine va_sld hx hb hX hbl hbA hS hi1 dL_law_2134 ?_
  obtain ⟨F1, M1, hAl1, e2, h1⟩ := lz_v1 (c_save hAl ((xs (i + 1).toNatClampNeg)))
  have hAl2 := hAl1.mono (B' := B + 16400) (by omega) (by omega)
  refine lw_Hv (As := [.ref (ad 0), .int (xs (i + 1).toNatClampNeg)]) (rest := []) ⟨hx, hb, hml, hown, hts⟩ (cL_saveM l hfl D cy za zv ad hh aa pa H.size F ((xs (i + 1).toNatClampNeg)) _ h1) (vx_cwSW 2 hts gL_law_L_save rfl rfl rfl hlL_save ⟨Nat.le_of_ble_eq_true rfl, Nat.le_of_ble_eq_true rfl⟩) hN hZ hK hP hD hS hA rfl hl.1 rfl (Nat.le_of_ble_eq_true rfl) dL_law_2135 hf (fun r q H locs hq hP hD hS => ?_)
  obtain ⟨hq1, hq2⟩ := hq
  subst hq2
  refine lv_istore (lv' := [(5, .int r), (0, .ref b), (1, .ref (ad 0)), (2, .ref h), (3, .ref ho), (4, .int i)]) hx hb dL_law_2138 hl (by decide) rfl (fun ls hl => ?_)
  refine lv_aload_n hx hb dL_law_2140 rfl (lv_at hl 3 rfl) ?_
  refine lv_aload_n hx hb dL_law_2141 rfl (lv_at hl 1 rfl) ?_
  refine lv_iload hx hb dL_law_2142 (lv_at hl 5 rfl) ?_
  refine lv_iconst (v := 1) hx hb dL_law_2144 rfl ?_
  refine lv_iadd hx hb dL_law_2145 ?_
  refine va_sld hx hb hX hbl hbA hS hi1 dL_law_2146 ?_
  refine lw_MV e2 (As := [.int (xs (i + 1).toNatClampNeg)]) (rest := []) ⟨hx, hb, hml, hown, hts⟩ (cX10_saveM l D cy h a H.size M ((xs (i + 1).toNatClampNeg))) (cwV 1 hts gL_law_X10_save rfl rfl rfl hlX10_save ⟨Nat.le_of_ble_eq_true rfl, Nat.le_of_ble_eq_true rfl⟩) hK hP hD hS hA rfl hl.1 rfl (Nat.le_of_ble_eq_true rfl) dL_law_2147 hf (fun H locs hP hD hS => ?_)
  refine lv_aload_n hx hb dL_law_2150 rfl (lv_at hl 3 rfl) ?_
  refine lw_MR (o := fX10_thrown M1) (r0 := mTh M1) rfl (As := []) (rest := []) ⟨hx, hb, hml, hown, hts⟩ (cX10_thrownM l D cy h a H.size M1) (cwV 0 hts gL_law_X10_thrown rfl rfl rfl hlX10_thrown ⟨Nat.le_of_ble_eq_true rfl, Nat.le_of_ble_eq_true rfl⟩) hK hP hD hS hA rfl hl.1 rfl (Nat.le_of_ble_eq_true rfl) dL_law_2151 hf (fun H locs hP hD hS => ?_)
  refine lv_iload hx hb dL_law_2154 (lv_at hl 0 rfl) ?_
  refine lv_icmp_eq (tgt := 2161) hx hb dL_law_2156 (by decide) (fun _ => ?_) (fun c => absurd hq1.symm c)
  refine lv_goto (tgt := 2200) hx hb dL_law_2161 (by decide) ?_
  exact kk d0 hd0 q M1 f H locs ls hAl2 (lv_sub hl [1, 2, 3, 4, 5] rfl) hP hD hS
set_option maxHeartbeats 4000000 in
set_option maxRecDepth 100000 in
theorem lk4 (l : Launch) (hfl : l.stackTraces = false) : lGo l 370 := by
  intro p e s m args below meth c D cy A za zv ad hh aa pa h a ho b L xs d0 E0 hd0 B F M f i hAl hB hi1 hi2 hi3 H locs ls cells slots Q hf hl hP hD hS kk
  obtain ⟨hx, hb, hml, hown, hts, hK, hA, hZ, hN, hX, hbl, hbA⟩ := E0.draw d0
  have hf0 : cells ≤ room_1.cells ∧ slots ≤ room_1.slots := ⟨Nat.le_trans (Nat.le_add_right _ _) hf.1, Nat.le_trans (Nat.le_add_right _ _) hf.2⟩
  refine lv_aload_n hx hb dL_law_370 rfl (lv_at hl 1 rfl) ?_
  obtain ⟨r1, M1, e1, e2, hAl1⟩ := c_errorCode hAl 
  have hAl2 := hAl1.mono (B' := B + 16400) (by omega) (by omega)
  refine lw_XR e1 (As := []) (rest := []) ⟨hx, hb, hml, hown, hts⟩ (cX9_errorCodeM l D cy ad hh aa pa H.size F ) (cwV 0 hts gL_law_X9_errorCode rfl rfl rfl hlX9_errorCode ⟨Nat.le_of_ble_eq_true rfl, Nat.le_of_ble_eq_true rfl⟩) hK hP hD hS hA rfl hl.1 rfl (Nat.le_of_ble_eq_true rfl) dL_law_371 hf0 (fun H locs hP hD hS => ?_)
  refine lv_aload_n hx hb dL_law_374 rfl (lv_at hl 2 rfl) ?_
  refine lw_MI e2 (As := []) (rest := [.int r1]) ⟨hx, hb, hml, hown, hts⟩ (cX10_errorCodeM l D cy h a H.size M ) (cwV 0 hts gL_law_X10_errorCode rfl rfl rfl hlX10_errorCode ⟨Nat.le_of_ble_eq_true rfl, Nat.le_of_ble_eq_true rfl⟩) hK hP hD hS hA rfl hl.1 rfl (Nat.le_of_ble_eq_true rfl) dL_law_375 hf0 (fun H locs hP hD hS => ?_)
  refine lv_icmp_eq (tgt := 2200) hx hb dL_law_378 (by decide) (fun _ => ?_) (fun c => absurd rfl c)
  refine W.widen (k := cells + 1) (n := slots + 6) (Nat.le_add_right _ _) (Nat.le_add_right _ _) ?_
  exact kk d0 hd0 F M1 f H locs ls hAl2 (lv_sub hl [0, 1, 2, 3, 4] rfl) hP hD hS
