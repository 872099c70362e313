def wsA : List Cond := lw_tbl.filter goodWord
theorem wsA_good : ∀ w ∈ wsA, goodWord w = true := fun w h => (List.mem_filter.mp h).2
theorem wl_0 {i : Nat} {w : Cond} (h : (k2_sels lw_privs)[i]? = some w) : w ∈ lw_tbl := List.mem_append_left _ (List.mem_of_getElem? h)
theorem wl_1 {i : Nat} {w : Cond} (h : tables_1_1[i]? = some w) : w ∈ lw_tbl := List.mem_append_right _ (List.mem_append_left _ (List.mem_of_getElem? h))
theorem wl_2 {i : Nat} {w : Cond} (h : tables_1_2[i]? = some w) : w ∈ lw_tbl := List.mem_append_right _ (List.mem_append_right _ (List.mem_append_left _ (List.mem_of_getElem? h)))
theorem wl_3 {i : Nat} {w : Cond} (h : tables_1_3[i]? = some w) : w ∈ lw_tbl := List.mem_append_right _ (List.mem_append_right _ (List.mem_append_right _ (List.mem_of_getElem? h)))
theorem wm_0 {i : Nat} {w : Cond} (h : (k2_sels lw_privs)[i]? = some w) (g : goodWord w = true) : w ∈ wsA := List.mem_filter.mpr ⟨wl_0 h, g⟩
theorem wm_1 {i : Nat} {w : Cond} (h : tables_1_1[i]? = some w) (g : goodWord w = true) : w ∈ wsA := List.mem_filter.mpr ⟨wl_1 h, g⟩
theorem wm_2 {i : Nat} {w : Cond} (h : tables_1_2[i]? = some w) (g : goodWord w = true) : w ∈ wsA := List.mem_filter.mpr ⟨wl_2 h, g⟩
theorem wm_3 {i : Nat} {w : Cond} (h : tables_1_3[i]? = some w) (g : goodWord w = true) : w ∈ wsA := List.mem_filter.mpr ⟨wl_3 h, g⟩
set_option maxRecDepth 20000 in
theorem inAX : ∀ w ∈ u_ws RX TX 17, w ∈ wsA := by
  intro w hw
  obtain ⟨k, hk, rfl⟩ := List.mem_map.mp hw
  have hk : k < 17 := List.mem_range.mp hk
  have hk : k = 0 ∨ k = 1 ∨ k = 2 ∨ k = 3 ∨ k = 4 ∨ k = 5 ∨ k = 6 ∨ k = 7 ∨ k = 8 ∨ k = 9 ∨ k = 10 ∨ k = 11 ∨ k = 12 ∨ k = 13 ∨ k = 14 ∨ k = 15 ∨ k = 16 := by omega
  rcases hk with rfl | rfl | rfl | rfl | rfl | rfl | rfl | rfl | rfl | rfl | rfl | rfl | rfl | rfl | rfl | rfl | rfl
  · exact wm_1 (i := 71) rfl rfl
  · exact wm_1 (i := 73) rfl rfl
  · exact wm_1 (i := 75) rfl rfl
  · exact wm_1 (i := 77) rfl rfl
  · exact wm_1 (i := 79) rfl rfl
  · exact wm_1 (i := 81) rfl rfl
  · exact wm_1 (i := 83) rfl rfl
  · exact wm_1 (i := 85) rfl rfl
  · exact wm_1 (i := 87) rfl rfl
  · exact wm_1 (i := 89) rfl rfl
  · exact wm_1 (i := 91) rfl rfl
  · exact wm_1 (i := 93) rfl rfl
  · exact wm_1 (i := 95) rfl rfl
  · exact wm_1 (i := 97) rfl rfl
  · exact wm_1 (i := 99) rfl rfl
  · exact wm_1 (i := 101) rfl rfl
  · exact wm_1 (i := 103) rfl rfl
set_option maxRecDepth 20000 in
theorem inAK : ∀ w ∈ u_ws RK TK 2, w ∈ wsA := by
  intro w hw
  obtain ⟨k, hk, rfl⟩ := List.mem_map.mp hw
  have hk : k < 2 := List.mem_range.mp hk
  have hk : k = 0 ∨ k = 1 := by omega
  rcases hk with rfl | rfl
  · exact wm_1 (i := 24) rfl rfl
  · exact wm_1 (i := 26) rfl rfl
set_option maxRecDepth 20000 in
theorem inAP : ∀ w ∈ u_ws RP TP 3, w ∈ wsA := by
  intro w hw
  obtain ⟨k, hk, rfl⟩ := List.mem_map.mp hw
  have hk : k < 3 := List.mem_range.mp hk
  have hk : k = 0 ∨ k = 1 ∨ k = 2 := by omega
  rcases hk with rfl | rfl | rfl
  · exact wm_1 (i := 47) rfl rfl
  · exact wm_1 (i := 49) rfl rfl
  · exact wm_1 (i := 51) rfl rfl
set_option maxRecDepth 20000 in
theorem inAM : ∀ w ∈ u_ws RM TM 21, w ∈ wsA := by
  intro w hw
  obtain ⟨k, hk, rfl⟩ := List.mem_map.mp hw
  have hk : k < 21 := List.mem_range.mp hk
  have hk : k = 0 ∨ k = 1 ∨ k = 2 ∨ k = 3 ∨ k = 4 ∨ k = 5 ∨ k = 6 ∨ k = 7 ∨ k = 8 ∨ k = 9 ∨ k = 10 ∨ k = 11 ∨ k = 12 ∨ k = 13 ∨ k = 14 ∨ k = 15 ∨ k = 16 ∨ k = 17 ∨ k = 18 ∨ k = 19 ∨ k = 20 := by omega
  rcases hk with rfl | rfl | rfl | rfl | rfl | rfl | rfl | rfl | rfl | rfl | rfl | rfl | rfl | rfl | rfl | rfl | rfl | rfl | rfl | rfl | rfl
  · exact wm_2 (i := 150) rfl rfl
  · exact wm_2 (i := 152) rfl rfl
  · exact wm_2 (i := 154) rfl rfl
  · exact wm_2 (i := 156) rfl rfl
  · exact wm_2 (i := 158) rfl rfl
  · exact wm_2 (i := 160) rfl rfl
  · exact wm_2 (i := 162) rfl rfl
  · exact wm_2 (i := 164) rfl rfl
  · exact wm_2 (i := 166) rfl rfl
  · exact wm_2 (i := 168) rfl rfl
  · exact wm_2 (i := 170) rfl rfl
  · exact wm_2 (i := 172) rfl rfl
  · exact wm_2 (i := 174) rfl rfl
  · exact wm_2 (i := 176) rfl rfl
  · exact wm_2 (i := 178) rfl rfl
  · exact wm_2 (i := 180) rfl rfl
  · exact wm_2 (i := 182) rfl rfl
  · exact wm_2 (i := 184) rfl rfl
  · exact wm_2 (i := 186) rfl rfl
  · exact wm_2 (i := 188) rfl rfl
  · exact wm_2 (i := 190) rfl rfl
set_option maxRecDepth 20000 in
theorem fl_K_K_flag : Cond.fieldLink RK 7 "MicroEight$Keyboard" "flag" "Z" ∈ wsA := (wm_1 (i := 20) rfl rfl)
set_option maxRecDepth 20000 in
theorem fl_K_K_buffer : Cond.fieldLink RK 13 "MicroEight$Keyboard" "buffer" "I" ∈ wsA := (wm_1 (i := 22) rfl rfl)
set_option maxRecDepth 20000 in
theorem fl_M_M_core : Cond.fieldLink RM 7 "MicroEightModel" "core" "[I" ∈ wsA := (wm_2 (i := 129) rfl rfl)
set_option maxRecDepth 20000 in
theorem fl_M_M_print : Cond.fieldLink RM 13 "MicroEightModel" "print" "[I" ∈ wsA := (wm_2 (i := 148) rfl rfl)
set_option maxRecDepth 20000 in
theorem fl_M_M_cap : Cond.fieldLink RM 16 "MicroEightModel" "cap" "I" ∈ wsA := (wm_2 (i := 130) rfl rfl)
set_option maxRecDepth 20000 in
theorem fl_M_M_ready : Cond.fieldLink RM 20 "MicroEightModel" "ready" "Z" ∈ wsA := (wm_2 (i := 132) rfl rfl)
set_option maxRecDepth 20000 in
theorem fl_M_M_at : Cond.fieldLink RM 24 "MicroEightModel" "at" "I" ∈ wsA := (wm_2 (i := 133) rfl rfl)
set_option maxRecDepth 20000 in
theorem fl_M_M_pc : Cond.fieldLink RM 27 "MicroEightModel" "pc" "I" ∈ wsA := (wm_2 (i := 134) rfl rfl)
set_option maxRecDepth 20000 in
theorem fl_M_M_ac : Cond.fieldLink RM 30 "MicroEightModel" "ac" "I" ∈ wsA := (wm_2 (i := 135) rfl rfl)
set_option maxRecDepth 20000 in
theorem fl_M_M_link : Cond.fieldLink RM 33 "MicroEightModel" "link" "I" ∈ wsA := (wm_2 (i := 136) rfl rfl)
set_option maxRecDepth 20000 in
theorem fl_M_M_mq : Cond.fieldLink RM 36 "MicroEightModel" "mq" "I" ∈ wsA := (wm_2 (i := 137) rfl rfl)
set_option maxRecDepth 20000 in
theorem fl_M_M_ma : Cond.fieldLink RM 39 "MicroEightModel" "ma" "I" ∈ wsA := (wm_2 (i := 138) rfl rfl)
set_option maxRecDepth 20000 in
theorem fl_M_M_mb : Cond.fieldLink RM 42 "MicroEightModel" "mb" "I" ∈ wsA := (wm_2 (i := 139) rfl rfl)
set_option maxRecDepth 20000 in
theorem fl_M_M_ir : Cond.fieldLink RM 45 "MicroEightModel" "ir" "I" ∈ wsA := (wm_2 (i := 140) rfl rfl)
set_option maxRecDepth 20000 in
theorem fl_M_M_ion : Cond.fieldLink RM 48 "MicroEightModel" "ion" "Z" ∈ wsA := (wm_2 (i := 141) rfl rfl)
set_option maxRecDepth 20000 in
theorem fl_M_M_delay : Cond.fieldLink RM 51 "MicroEightModel" "delay" "Z" ∈ wsA := (wm_2 (i := 142) rfl rfl)
set_option maxRecDepth 20000 in
theorem fl_M_M_halted : Cond.fieldLink RM 54 "MicroEightModel" "halted" "Z" ∈ wsA := (wm_2 (i := 143) rfl rfl)
set_option maxRecDepth 20000 in
theorem fl_M_M_keyFlag : Cond.fieldLink RM 57 "MicroEightModel" "keyFlag" "Z" ∈ wsA := (wm_2 (i := 144) rfl rfl)
set_option maxRecDepth 20000 in
theorem fl_M_M_printFlag : Cond.fieldLink RM 60 "MicroEightModel" "printFlag" "Z" ∈ wsA := (wm_2 (i := 145) rfl rfl)
set_option maxRecDepth 20000 in
theorem fl_M_M_buffer : Cond.fieldLink RM 63 "MicroEightModel" "buffer" "I" ∈ wsA := (wm_2 (i := 146) rfl rfl)
set_option maxRecDepth 20000 in
theorem fl_M_M_printed : Cond.fieldLink RM 66 "MicroEightModel" "printed" "I" ∈ wsA := (wm_2 (i := 147) rfl rfl)
set_option maxRecDepth 20000 in
theorem fl_M_M_made : Cond.fieldLink RM 69 "MicroEightModel" "made" "I" ∈ wsA := (wm_2 (i := 149) rfl rfl)
set_option maxRecDepth 20000 in
theorem fl_M_M_switches : Cond.fieldLink RM 76 "MicroEightModel" "switches" "I" ∈ wsA := (wm_2 (i := 131) rfl rfl)
set_option maxRecDepth 20000 in
theorem fl_P_P_bytes : Cond.fieldLink RP 9 "MicroEight$Printer" "bytes" "[I" ∈ wsA := (wm_1 (i := 42) rfl rfl)
set_option maxRecDepth 20000 in
theorem fl_P_P_count : Cond.fieldLink RP 15 "MicroEight$Printer" "count" "I" ∈ wsA := (wm_1 (i := 43) rfl rfl)
set_option maxRecDepth 20000 in
theorem fl_P_P_flag : Cond.fieldLink RP 19 "MicroEight$Printer" "flag" "Z" ∈ wsA := (wm_1 (i := 45) rfl rfl)
set_option maxRecDepth 20000 in
theorem fl_X_X_core : Cond.fieldLink RX 9 "MicroEight" "core" "[I" ∈ wsA := (wm_1 (i := 54) rfl rfl)
set_option maxRecDepth 20000 in
theorem fl_X_X_keyboard : Cond.fieldLink RX 16 "MicroEight" "keyboard" "LMicroEight$Keyboard;" ∈ wsA := (wm_1 (i := 55) rfl rfl)
set_option maxRecDepth 20000 in
theorem fl_X_X_printer : Cond.fieldLink RX 34 "MicroEight" "printer" "LMicroEight$Printer;" ∈ wsA := (wm_1 (i := 56) rfl rfl)
set_option maxRecDepth 20000 in
theorem fl_X_X_hasMicrocode : Cond.fieldLink RX 38 "MicroEight" "hasMicrocode" "Z" ∈ wsA := (wm_1 (i := 68) rfl rfl)
set_option maxRecDepth 20000 in
theorem fl_X_X_pc : Cond.fieldLink RX 42 "MicroEight" "pc" "I" ∈ wsA := (wm_1 (i := 57) rfl rfl)
set_option maxRecDepth 20000 in
theorem fl_X_X_ac : Cond.fieldLink RX 46 "MicroEight" "ac" "I" ∈ wsA := (wm_1 (i := 58) rfl rfl)
set_option maxRecDepth 20000 in
theorem fl_X_X_link : Cond.fieldLink RX 49 "MicroEight" "link" "I" ∈ wsA := (wm_1 (i := 59) rfl rfl)
set_option maxRecDepth 20000 in
theorem fl_X_X_mq : Cond.fieldLink RX 52 "MicroEight" "mq" "I" ∈ wsA := (wm_1 (i := 60) rfl rfl)
set_option maxRecDepth 20000 in
theorem fl_X_X_ma : Cond.fieldLink RX 55 "MicroEight" "ma" "I" ∈ wsA := (wm_1 (i := 61) rfl rfl)
set_option maxRecDepth 20000 in
theorem fl_X_X_mb : Cond.fieldLink RX 58 "MicroEight" "mb" "I" ∈ wsA := (wm_1 (i := 62) rfl rfl)
set_option maxRecDepth 20000 in
theorem fl_X_X_ir : Cond.fieldLink RX 61 "MicroEight" "ir" "I" ∈ wsA := (wm_1 (i := 63) rfl rfl)
set_option maxRecDepth 20000 in
theorem fl_X_X_ion : Cond.fieldLink RX 64 "MicroEight" "ion" "Z" ∈ wsA := (wm_1 (i := 65) rfl rfl)
set_option maxRecDepth 20000 in
theorem fl_X_X_delay : Cond.fieldLink RX 67 "MicroEight" "delay" "Z" ∈ wsA := (wm_1 (i := 66) rfl rfl)
set_option maxRecDepth 20000 in
theorem fl_X_X_halted : Cond.fieldLink RX 70 "MicroEight" "halted" "Z" ∈ wsA := (wm_1 (i := 67) rfl rfl)
set_option maxRecDepth 20000 in
theorem fl_X_X_stepNumber : Cond.fieldLink RX 73 "MicroEight" "stepNumber" "I" ∈ wsA := (wm_1 (i := 69) rfl rfl)
set_option maxRecDepth 20000 in
theorem fl_X_X_microstepsMade : Cond.fieldLink RX 76 "MicroEight" "microstepsMade" "I" ∈ wsA := (wm_1 (i := 70) rfl rfl)
set_option maxRecDepth 20000 in
theorem fl_X_X_switchWord : Cond.fieldLink RX 95 "MicroEight" "switchWord" "I" ∈ wsA := (wm_1 (i := 64) rfl rfl)
def nw (U : State) : Prop := va_Nw (.fieldLinkNest RX 118 "MicroEight$Keyboard" "buffer" "I" "MicroEight") U ∧ va_Nw (.fieldLinkNest RX 121 "MicroEight$Printer" "count" "I" "MicroEight") U ∧ va_Nw (.fieldLinkNest RX 127 "MicroEight$Keyboard" "flag" "Z" "MicroEight") U ∧ va_Nw (.fieldLinkNest RX 130 "MicroEight$Printer" "flag" "Z" "MicroEight") U ∧ va_Nw (.methodLinkNest RX 15 yK_init "MicroEight") U ∧ va_Nw (.methodLinkNest RX 31 yP_init "MicroEight") U ∧ va_Nw (.methodLinkNest RX 79 yK_reset "MicroEight") U ∧ va_Nw (.methodLinkNest RX 82 yP_reset "MicroEight") U ∧ va_Nw (.methodLinkNest RX 98 yK_press "MicroEight") U ∧ va_Nw (.methodLinkNest RX 101 yP_isFull "MicroEight") U ∧ va_Nw (.methodLinkNest RX 124 yP_byteAt "MicroEight") U ∧ va_Nw (.methodLinkNest RX 251 yP_print "MicroEight") U
theorem nw_same {u U : State} (h : u.vm = U.vm) (hN : nw u) : nw U := by
  obtain ⟨h0, h1, h2, h3, h4, h5, h6, h7, h8, h9, h10, h11⟩ := hN
  exact ⟨va_Nw.same rfl h h0, va_Nw.same rfl h h1, va_Nw.same rfl h h2, va_Nw.same rfl h h3, va_Nw.same rfl h h4, va_Nw.same rfl h h5, va_Nw.same rfl h h6, va_Nw.same rfl h h7, va_Nw.same rfl h h8, va_Nw.same rfl h h9, va_Nw.same rfl h h10, va_Nw.same rfl h h11⟩
theorem nw_warm {s U : State} (h : s.WarmedH U.vm) (hN : nw s) : nw U := by
  obtain ⟨h0, h1, h2, h3, h4, h5, h6, h7, h8, h9, h10, h11⟩ := hN
  exact ⟨va_Nw.warmF h h0, va_Nw.warmF h h1, va_Nw.warmF h h2, va_Nw.warmF h h3, va_Nw.warmM h h4, va_Nw.warmM h h5, va_Nw.warmM h h6, va_Nw.warmM h h7, va_Nw.warmM h h8, va_Nw.warmM h h9, va_Nw.warmM h h10, va_Nw.warmM h h11⟩
theorem nw_X_K_buffer {s : State} (hN : nw s) : va_Nw (.fieldLinkNest RX 118 "MicroEight$Keyboard" "buffer" "I" "MicroEight") s := hN.1
theorem nw_X_P_count {s : State} (hN : nw s) : va_Nw (.fieldLinkNest RX 121 "MicroEight$Printer" "count" "I" "MicroEight") s := hN.2.1
theorem nw_X_K_flag {s : State} (hN : nw s) : va_Nw (.fieldLinkNest RX 127 "MicroEight$Keyboard" "flag" "Z" "MicroEight") s := hN.2.2.1
theorem nw_X_P_flag {s : State} (hN : nw s) : va_Nw (.fieldLinkNest RX 130 "MicroEight$Printer" "flag" "Z" "MicroEight") s := hN.2.2.2.1
theorem nw_X_15 {s : State} (hN : nw s) : va_Nw (.methodLinkNest RX 15 yK_init "MicroEight") s := hN.2.2.2.2.1
theorem nw_X_31 {s : State} (hN : nw s) : va_Nw (.methodLinkNest RX 31 yP_init "MicroEight") s := hN.2.2.2.2.2.1
theorem nw_X_79 {s : State} (hN : nw s) : va_Nw (.methodLinkNest RX 79 yK_reset "MicroEight") s := hN.2.2.2.2.2.2.1
theorem nw_X_82 {s : State} (hN : nw s) : va_Nw (.methodLinkNest RX 82 yP_reset "MicroEight") s := hN.2.2.2.2.2.2.2.1
theorem nw_X_98 {s : State} (hN : nw s) : va_Nw (.methodLinkNest RX 98 yK_press "MicroEight") s := hN.2.2.2.2.2.2.2.2.1
theorem nw_X_101 {s : State} (hN : nw s) : va_Nw (.methodLinkNest RX 101 yP_isFull "MicroEight") s := hN.2.2.2.2.2.2.2.2.2.1
theorem nw_X_124 {s : State} (hN : nw s) : va_Nw (.methodLinkNest RX 124 yP_byteAt "MicroEight") s := hN.2.2.2.2.2.2.2.2.2.2.1
theorem nw_X_251 {s : State} (hN : nw s) : va_Nw (.methodLinkNest RX 251 yP_print "MicroEight") s := hN.2.2.2.2.2.2.2.2.2.2.2
set_option maxRecDepth 20000 in
theorem nw_of {args : Array Value} {s : State} (hts : ∀ w ∈ lw_tbl, w.before args s = true) : nw s := ⟨va_Nw.of rfl (hts _ (wl_1 (i := 23) rfl)), va_Nw.of rfl (hts _ (wl_1 (i := 44) rfl)), va_Nw.of rfl (hts _ (wl_1 (i := 21) rfl)), va_Nw.of rfl (hts _ (wl_1 (i := 46) rfl)), va_Nw.of rfl (hts _ (wl_1 (i := 16) rfl)), va_Nw.of rfl (hts _ (wl_1 (i := 38) rfl)), va_Nw.of rfl (hts _ (wl_1 (i := 110) rfl)), va_Nw.of rfl (hts _ (wl_1 (i := 114) rfl)), va_Nw.of rfl (hts _ (wl_1 (i := 153) rfl)), va_Nw.of rfl (hts _ (wl_1 (i := 161) rfl)), va_Nw.of rfl (hts _ (wl_2 (i := 116) rfl)), va_Nw.of rfl (hts _ (wl_2 (i := 85) rfl))⟩
