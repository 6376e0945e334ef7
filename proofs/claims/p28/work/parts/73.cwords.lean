theorem obIm : Cond.instanceMethod objectInit ∈ LW := LW_mk 23 (by decide +kernel) rfl
theorem obCo : Cond.code objectInit ⟨#[0xb1]⟩ 1 none ∈ LW := LW_mk 24 (by decide +kernel) rfl
theorem arInt : Cond.arrayClass .int ∈ LW := LW_mk 53 (by decide +kernel) rfl
theorem obX0 : Cond.methodLink RX0 3 objectInit ∈ LW := (LW_mk 59 (w := Cond.methodLink RX0 3 objectInit) (by decide +kernel) rfl)
theorem fX0_15 : FF RX0 15 0 1 (.array .int) := ⟨RX0, TX0, 4, tyX0, rfl, by decide, uX0, (LW_mk 61 (w := .fieldLink RX0 15 "StuntDesk$Injuries" "people" "[I") (by decide +kernel) rfl), tyX0_ok, nmX0, rfl, rfl, by decide +kernel⟩
theorem fX0_19 : FF RX0 19 0 2 (.array .int) := ⟨RX0, TX0, 4, tyX0, rfl, by decide, uX0, (LW_mk 62 (w := .fieldLink RX0 19 "StuntDesk$Injuries" "parts" "[I") (by decide +kernel) rfl), tyX0_ok, nmX0, rfl, rfl, by decide +kernel⟩
theorem fX0_22 : FF RX0 22 0 3 (.array .int) := ⟨RX0, TX0, 4, tyX0, rfl, by decide, uX0, (LW_mk 63 (w := .fieldLink RX0 22 "StuntDesk$Injuries" "lastDays" "[I") (by decide +kernel) rfl), tyX0_ok, nmX0, rfl, rfl, by decide +kernel⟩
theorem obX1 : Cond.methodLink RX1 3 objectInit ∈ LW := (LW_mk 162 (w := Cond.methodLink RX1 3 objectInit) (by decide +kernel) rfl)
theorem fX1_15 : FF RX1 15 1 1 (.array .int) := ⟨RX1, TX1, 2, tyX1, rfl, by decide, uX1, (LW_mk 164 (w := .fieldLink RX1 15 "StuntDesk$PlanText" "codes" "[I") (by decide +kernel) rfl), tyX1_ok, nmX1, rfl, rfl, by decide +kernel⟩
theorem obX2 : Cond.methodLink RX2 3 objectInit ∈ LW := (LW_mk 36 (w := Cond.methodLink RX2 3 objectInit) (by decide +kernel) rfl)
theorem fX2_15 : FF RX2 15 2 1 (.array .int) := ⟨RX2, TX2, 5, tyX2, rfl, by decide, uX2, (LW_mk 38 (w := .fieldLink RX2 15 "StuntDesk$Rehearsals" "people" "[I") (by decide +kernel) rfl), tyX2_ok, nmX2, rfl, rfl, by decide +kernel⟩
theorem fX2_19 : FF RX2 19 2 2 (.array .int) := ⟨RX2, TX2, 5, tyX2, rfl, by decide, uX2, (LW_mk 39 (w := .fieldLink RX2 19 "StuntDesk$Rehearsals" "kinds" "[I") (by decide +kernel) rfl), tyX2_ok, nmX2, rfl, rfl, by decide +kernel⟩
theorem fX2_22 : FF RX2 22 2 3 (.array .int) := ⟨RX2, TX2, 5, tyX2, rfl, by decide, uX2, (LW_mk 40 (w := .fieldLink RX2 22 "StuntDesk$Rehearsals" "risks" "[I") (by decide +kernel) rfl), tyX2_ok, nmX2, rfl, rfl, by decide +kernel⟩
theorem fX2_25 : FF RX2 25 2 4 (.array .int) := ⟨RX2, TX2, 5, tyX2, rfl, by decide, uX2, (LW_mk 41 (w := .fieldLink RX2 25 "StuntDesk$Rehearsals" "days" "[I") (by decide +kernel) rfl), tyX2_ok, nmX2, rfl, rfl, by decide +kernel⟩
theorem obX4 : Cond.methodLink RX4 3 objectInit ∈ LW := (LW_mk 78 (w := Cond.methodLink RX4 3 objectInit) (by decide +kernel) rfl)
theorem fX4_15 : FF RX4 15 4 1 (.array .int) := ⟨RX4, TX4, 6, tyX4, rfl, by decide, uX4, (LW_mk 82 (w := .fieldLink RX4 15 "StuntDesk$Scenes" "kinds" "[I") (by decide +kernel) rfl), tyX4_ok, nmX4, rfl, rfl, by decide +kernel⟩
theorem fX4_19 : FF RX4 19 4 2 (.array .int) := ⟨RX4, TX4, 6, tyX4, rfl, by decide, uX4, (LW_mk 83 (w := .fieldLink RX4 19 "StuntDesk$Scenes" "risks" "[I") (by decide +kernel) rfl), tyX4_ok, nmX4, rfl, rfl, by decide +kernel⟩
theorem fX4_22 : FF RX4 22 4 3 (.array .int) := ⟨RX4, TX4, 6, tyX4, rfl, by decide, uX4, (LW_mk 84 (w := .fieldLink RX4 22 "StuntDesk$Scenes" "seen" "[I") (by decide +kernel) rfl), tyX4_ok, nmX4, rfl, rfl, by decide +kernel⟩
theorem fX4_25 : FF RX4 25 4 4 (.array .int) := ⟨RX4, TX4, 6, tyX4, rfl, by decide, uX4, (LW_mk 85 (w := .fieldLink RX4 25 "StuntDesk$Scenes" "shotDays" "[I") (by decide +kernel) rfl), tyX4_ok, nmX4, rfl, rfl, by decide +kernel⟩
theorem fX4_28 : FF RX4 28 4 5 (.array .int) := ⟨RX4, TX4, 6, tyX4, rfl, by decide, uX4, (LW_mk 86 (w := .fieldLink RX4 28 "StuntDesk$Scenes" "doers" "[I") (by decide +kernel) rfl), tyX4_ok, nmX4, rfl, rfl, by decide +kernel⟩
theorem obX5 : Cond.methodLink RX5 3 objectInit ∈ LW := (LW_mk 30 (w := Cond.methodLink RX5 3 objectInit) (by decide +kernel) rfl)
theorem fX5_30 : FF RX5 30 5 6 (.array .int) := ⟨RX5, TX5, 11, tyX5, rfl, by decide, uX5, (LW_mk 110 (w := .fieldLink RX5 30 "StuntDesk$State" "sizes" "[I") (by decide +kernel) rfl), tyX5_ok, nmX5, rfl, rfl, by decide +kernel⟩
theorem fX5_34 : FF RX5 34 5 7 (.array .int) := ⟨RX5, TX5, 11, tyX5, rfl, by decide, uX5, (LW_mk 111 (w := .fieldLink RX5 34 "StuntDesk$State" "rehearsalsToday" "[I") (by decide +kernel) rfl), tyX5_ok, nmX5, rfl, rfl, by decide +kernel⟩
theorem clX5_37 : Cond.classLink RX5 37 RX2 ∈ LW := (LW_mk 31 (w := Cond.classLink RX5 37 RX2) (by decide +kernel) rfl)
theorem fX5_40 : FF RX5 40 5 8 (.object "StuntDesk$Rehearsals") := ⟨RX5, TX5, 11, tyX5, rfl, by decide, uX5, (LW_mk 112 (w := .fieldLink RX5 40 "StuntDesk$State" "rehearsals" "LStuntDesk$Rehearsals;") (by decide +kernel) rfl), tyX5_ok, nmX5, rfl, rfl, by decide +kernel⟩
theorem clX5_44 : Cond.classLink RX5 44 RX0 ∈ LW := (LW_mk 54 (w := Cond.classLink RX5 44 RX0) (by decide +kernel) rfl)
theorem fX5_47 : FF RX5 47 5 9 (.object "StuntDesk$Injuries") := ⟨RX5, TX5, 11, tyX5, rfl, by decide, uX5, (LW_mk 114 (w := .fieldLink RX5 47 "StuntDesk$State" "injuries" "LStuntDesk$Injuries;") (by decide +kernel) rfl), tyX5_ok, nmX5, rfl, rfl, by decide +kernel⟩
theorem clX5_51 : Cond.classLink RX5 51 RX4 ∈ LW := (LW_mk 73 (w := Cond.classLink RX5 51 RX4) (by decide +kernel) rfl)
theorem fX5_54 : FF RX5 54 5 10 (.object "StuntDesk$Scenes") := ⟨RX5, TX5, 11, tyX5, rfl, by decide, uX5, (LW_mk 115 (w := .fieldLink RX5 54 "StuntDesk$State" "scenes" "LStuntDesk$Scenes;") (by decide +kernel) rfl), tyX5_ok, nmX5, rfl, rfl, by decide +kernel⟩
theorem obX3 : Cond.methodLink RX3 3 objectInit ∈ LW := (LW_mk 145 (w := Cond.methodLink RX3 3 objectInit) (by decide +kernel) rfl)
theorem clX3_15 : Cond.classLink RX3 15 RX5 ∈ LW := (LW_mk 146 (w := Cond.classLink RX3 15 RX5) (by decide +kernel) rfl)
theorem fX3_17 : FF RX3 17 3 1 (.array (.object "StuntDesk$State")) := ⟨RX3, TX3, 2, tyX3, rfl, by decide, uX3, (LW_mk 151 (w := .fieldLink RX3 17 "StuntDesk$SavedStates" "states" "[LStuntDesk$State;") (by decide +kernel) rfl), tyX3_ok, nmX3, rfl, rfl, by decide +kernel⟩
theorem obX6 : Cond.methodLink RX6 1 objectInit ∈ LW := (LW_mk 22 (w := Cond.methodLink RX6 1 objectInit) (by decide +kernel) rfl)
theorem clX6_7 : Cond.classLink RX6 7 RX5 ∈ LW := (LW_mk 25 (w := Cond.classLink RX6 7 RX5) (by decide +kernel) rfl)
theorem fX6_10 : FF RX6 10 6 0 (.object "StuntDesk$State") := ⟨RX6, TX6, 3, tyX6, rfl, by decide, uX6, (LW_mk 170 (w := .fieldLink RX6 10 "StuntDesk" "now" "LStuntDesk$State;") (by decide +kernel) rfl), tyX6_ok, nmX6, rfl, rfl, by decide +kernel⟩
theorem clX6_16 : Cond.classLink RX6 16 RX3 ∈ LW := (LW_mk 140 (w := Cond.classLink RX6 16 RX3) (by decide +kernel) rfl)
theorem fX6_19 : FF RX6 19 6 1 (.object "StuntDesk$SavedStates") := ⟨RX6, TX6, 3, tyX6, rfl, by decide, uX6, (LW_mk 171 (w := .fieldLink RX6 19 "StuntDesk" "saved" "LStuntDesk$SavedStates;") (by decide +kernel) rfl), tyX6_ok, nmX6, rfl, rfl, by decide +kernel⟩
theorem clX6_23 : Cond.classLink RX6 23 RX1 ∈ LW := (LW_mk 157 (w := Cond.classLink RX6 23 RX1) (by decide +kernel) rfl)
theorem fX6_26 : FF RX6 26 6 2 (.object "StuntDesk$PlanText") := ⟨RX6, TX6, 3, tyX6, rfl, by decide, uX6, (LW_mk 172 (w := .fieldLink RX6 26 "StuntDesk" "text" "LStuntDesk$PlanText;") (by decide +kernel) rfl), tyX6_ok, nmX6, rfl, rfl, by decide +kernel⟩
theorem inX6 : Cond.instantiable RX6 3 ∈ LW := LW_mk 18 (by decide +kernel) rfl
theorem inX5 : Cond.instantiable RX5 11 ∈ LW := LW_mk 26 (by decide +kernel) rfl
theorem inX2 : Cond.instantiable RX2 5 ∈ LW := LW_mk 32 (by decide +kernel) rfl
theorem inX0 : Cond.instantiable RX0 4 ∈ LW := LW_mk 55 (by decide +kernel) rfl
theorem inX4 : Cond.instantiable RX4 6 ∈ LW := LW_mk 74 (by decide +kernel) rfl
theorem inX3 : Cond.instantiable RX3 2 ∈ LW := LW_mk 141 (by decide +kernel) rfl
theorem inX1 : Cond.instantiable RX1 2 ∈ LW := LW_mk 158 (by decide +kernel) rfl
theorem lkX5_39 : Cond.methodLinkNest RX5 39 yX2_init RX6 ∈ NWL := (NWL_mk 33 (w := Cond.methodLinkNest RX5 39 yX2_init RX6) (by decide +kernel) rfl)
theorem kX5_39 {R : Room} {s : State} {args : Array Value} {fr mc ms lo : Nat} (hts : ∀ w ∈ LW, w.before args s = true) (hn : NW s) (hR : fr + 1 ≤ R.frames ∧ 8 + (1 + 11) + lo ≤ R.locals) : va_CN R s args RX5 39 yX2_init RX6 cX2_init 1 none (Cond.code yX2_init cX2_init 1 none :: LW) (rmk fr mc ms lo) mc ms 0 ∧ yX2_init.name = "<init>" ∧ (Cond.instanceMethod yX2_init).before args s = true := ⟨va_cnB 0 hts (LW_GIc w_yX2_init) rfl rfl rfl (hn _ lkX5_39) (hts _ iniX2) ⟨by decide, by decide, by decide +kernel⟩ hR, rfl, hts _ im_yX2_init⟩
theorem lkX5_46 : Cond.methodLinkNest RX5 46 yX0_init RX6 ∈ NWL := (NWL_mk 56 (w := Cond.methodLinkNest RX5 46 yX0_init RX6) (by decide +kernel) rfl)
theorem kX5_46 {R : Room} {s : State} {args : Array Value} {fr mc ms lo : Nat} (hts : ∀ w ∈ LW, w.before args s = true) (hn : NW s) (hR : fr + 1 ≤ R.frames ∧ 8 + (1 + 11) + lo ≤ R.locals) : va_CN R s args RX5 46 yX0_init RX6 cX0_init 1 none (Cond.code yX0_init cX0_init 1 none :: LW) (rmk fr mc ms lo) mc ms 0 ∧ yX0_init.name = "<init>" ∧ (Cond.instanceMethod yX0_init).before args s = true := ⟨va_cnB 0 hts (LW_GIc w_yX0_init) rfl rfl rfl (hn _ lkX5_46) (hts _ iniX0) ⟨by decide, by decide, by decide +kernel⟩ hR, rfl, hts _ im_yX0_init⟩
theorem lkX5_53 : Cond.methodLinkNest RX5 53 yX4_init RX6 ∈ NWL := (NWL_mk 75 (w := Cond.methodLinkNest RX5 53 yX4_init RX6) (by decide +kernel) rfl)
theorem kX5_53 {R : Room} {s : State} {args : Array Value} {fr mc ms lo : Nat} (hts : ∀ w ∈ LW, w.before args s = true) (hn : NW s) (hR : fr + 1 ≤ R.frames ∧ 8 + (1 + 11) + lo ≤ R.locals) : va_CN R s args RX5 53 yX4_init RX6 cX4_init 1 none (Cond.code yX4_init cX4_init 1 none :: LW) (rmk fr mc ms lo) mc ms 0 ∧ yX4_init.name = "<init>" ∧ (Cond.instanceMethod yX4_init).before args s = true := ⟨va_cnB 0 hts (LW_GIc w_yX4_init) rfl rfl rfl (hn _ lkX5_53) (hts _ iniX4) ⟨by decide, by decide, by decide +kernel⟩ hR, rfl, hts _ im_yX4_init⟩
theorem lkX6_25 : Cond.methodLinkNest RX6 25 yX1_init RX6 ∈ NWL := (NWL_mk 159 (w := Cond.methodLinkNest RX6 25 yX1_init RX6) (by decide +kernel) rfl)
theorem kX6_25 {R : Room} {s : State} {args : Array Value} {fr mc ms lo : Nat} (hts : ∀ w ∈ LW, w.before args s = true) (hn : NW s) (hR : fr + 1 ≤ R.frames ∧ 8 + (1 + 11) + lo ≤ R.locals) : va_CN R s args RX6 25 yX1_init RX6 cX1_init 1 none (Cond.code yX1_init cX1_init 1 none :: LW) (rmk fr mc ms lo) mc ms 0 ∧ yX1_init.name = "<init>" ∧ (Cond.instanceMethod yX1_init).before args s = true := ⟨va_cnB 0 hts (LW_GIc w_yX1_init) rfl rfl rfl (hn _ lkX6_25) (hts _ iniX1) ⟨by decide, by decide, by decide +kernel⟩ hR, rfl, hts _ im_yX1_init⟩
