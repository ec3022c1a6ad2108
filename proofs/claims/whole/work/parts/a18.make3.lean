/-! THE MAKING OF THE WORLD: stores, fills, the school's maker. -/
theorem o_in : Cond.instanceMethod Lib.objectInit ∈ ux_T := ux_mem (n := 166) (by decide +kernel) (by decide +kernel)
theorem o_cd : Cond.code Lib.objectInit ⟨#[0xb1]⟩ 1 none ∈ ux_T := ux_mem (n := 167) (by decide +kernel) (by decide +kernel)
theorem w_ai : Cond.arrayClass .int ∈ ux_T := ux_mem (n := 265) (by decide +kernel) (by decide +kernel)
theorem w_ac : Cond.arrayClass .char ∈ ux_T := ux_mem (n := 375) (by decide +kernel) (by decide +kernel)
theorem w_al : Cond.arrayClass .long ∈ ux_T := ux_mem (n := 1848) (by decide +kernel) (by decide +kernel)
theorem w_ad : Cond.arrayClass .double ∈ ux_T := ux_mem (n := 1849) (by decide +kernel) (by decide +kernel)
abbrev iX0_init : ux_I := (cX0_init, 2, RX0, none, [])
theorem kX0_init : ux_lk yX0_init iX0_init 0 := ⟨ux_mem (n := 270) (by decide +kernel) (by decide +kernel), ux_mem (n := 139) (by decide +kernel) (by decide +kernel), ⟨by decide +kernel, by decide +kernel⟩, by decide +kernel, by decide +kernel, rfl⟩
theorem nX0_init : Cond.instanceMethod yX0_init ∈ ux_T := ux_mem (n := 269) (by decide +kernel) (by decide +kernel)
theorem oX0 : Cond.methodLink RX0 3 Lib.objectInit ∈ ux_T := ux_mem (n := 271) (by decide +kernel) (by decide +kernel)
theorem jX0 : Cond.instantiable RX0 (ux_nf 0) ∈ ux_T := ux_mem (n := 267) (by decide +kernel) (by decide +kernel)
theorem zX0 : Cond.initialized RX0 ∈ ux_T := ux_mem (n := 139) (by decide +kernel) (by decide +kernel)
abbrev iX1_init : ux_I := (cX1_init, 1, RX1, none, [])
theorem kX1_init : ux_lk yX1_init iX1_init 0 := ⟨ux_mem (n := 338) (by decide +kernel) (by decide +kernel), ux_mem (n := 141) (by decide +kernel) (by decide +kernel), ⟨by decide +kernel, by decide +kernel⟩, by decide +kernel, by decide +kernel, rfl⟩
theorem nX1_init : Cond.instanceMethod yX1_init ∈ ux_T := ux_mem (n := 337) (by decide +kernel) (by decide +kernel)
theorem oX1 : Cond.methodLink RX1 3 Lib.objectInit ∈ ux_T := ux_mem (n := 339) (by decide +kernel) (by decide +kernel)
theorem jX1 : Cond.instantiable RX1 (ux_nf 1) ∈ ux_T := ux_mem (n := 335) (by decide +kernel) (by decide +kernel)
theorem zX1 : Cond.initialized RX1 ∈ ux_T := ux_mem (n := 141) (by decide +kernel) (by decide +kernel)
abbrev iX2_init : ux_I := (cX2_init, 1, RX2, none, [])
theorem kX2_init : ux_lk yX2_init iX2_init 0 := ⟨ux_mem (n := 380) (by decide +kernel) (by decide +kernel), ux_mem (n := 142) (by decide +kernel) (by decide +kernel), ⟨by decide +kernel, by decide +kernel⟩, by decide +kernel, by decide +kernel, rfl⟩
theorem nX2_init : Cond.instanceMethod yX2_init ∈ ux_T := ux_mem (n := 379) (by decide +kernel) (by decide +kernel)
theorem oX2 : Cond.methodLink RX2 3 Lib.objectInit ∈ ux_T := ux_mem (n := 381) (by decide +kernel) (by decide +kernel)
theorem jX2 : Cond.instantiable RX2 (ux_nf 2) ∈ ux_T := ux_mem (n := 377) (by decide +kernel) (by decide +kernel)
theorem zX2 : Cond.initialized RX2 ∈ ux_T := ux_mem (n := 142) (by decide +kernel) (by decide +kernel)
abbrev iX3_init : ux_I := (cX3_init, 1, RX3, none, [])
theorem kX3_init : ux_lk yX3_init iX3_init 0 := ⟨ux_mem (n := 290) (by decide +kernel) (by decide +kernel), ux_mem (n := 140) (by decide +kernel) (by decide +kernel), ⟨by decide +kernel, by decide +kernel⟩, by decide +kernel, by decide +kernel, rfl⟩
theorem nX3_init : Cond.instanceMethod yX3_init ∈ ux_T := ux_mem (n := 289) (by decide +kernel) (by decide +kernel)
theorem oX3 : Cond.methodLink RX3 3 Lib.objectInit ∈ ux_T := ux_mem (n := 291) (by decide +kernel) (by decide +kernel)
theorem jX3 : Cond.instantiable RX3 (ux_nf 3) ∈ ux_T := ux_mem (n := 287) (by decide +kernel) (by decide +kernel)
theorem zX3 : Cond.initialized RX3 ∈ ux_T := ux_mem (n := 140) (by decide +kernel) (by decide +kernel)
abbrev iX4_init : ux_I := (cX4_init, 1, RX4, none, [])
theorem kX4_init : ux_lk yX4_init iX4_init 0 := ⟨ux_mem (n := 172) (by decide +kernel) (by decide +kernel), ux_mem (n := 138) (by decide +kernel) (by decide +kernel), ⟨by decide +kernel, by decide +kernel⟩, by decide +kernel, by decide +kernel, rfl⟩
theorem nX4_init : Cond.instanceMethod yX4_init ∈ ux_T := ux_mem (n := 171) (by decide +kernel) (by decide +kernel)
theorem oX4 : Cond.methodLink RX4 3 Lib.objectInit ∈ ux_T := ux_mem (n := 173) (by decide +kernel) (by decide +kernel)
theorem jX4 : Cond.instantiable RX4 (ux_nf 4) ∈ ux_T := ux_mem (n := 169) (by decide +kernel) (by decide +kernel)
theorem zX4 : Cond.initialized RX4 ∈ ux_T := ux_mem (n := 138) (by decide +kernel) (by decide +kernel)
abbrev iX5_init : ux_I := (cX5_init, 1, RX5, none, [])
theorem kX5_init : ux_lk yX5_init iX5_init 0 := ⟨ux_mem (n := 164) (by decide +kernel) (by decide +kernel), ux_mem (n := 137) (by decide +kernel) (by decide +kernel), ⟨by decide +kernel, by decide +kernel⟩, by decide +kernel, by decide +kernel, rfl⟩
theorem nX5_init : Cond.instanceMethod yX5_init ∈ ux_T := ux_mem (n := 163) (by decide +kernel) (by decide +kernel)
theorem oX5 : Cond.methodLink RX5 1 Lib.objectInit ∈ ux_T := ux_mem (n := 165) (by decide +kernel) (by decide +kernel)
theorem jX5 : Cond.instantiable RX5 (ux_nf 5) ∈ ux_T := ux_mem (n := 161) (by decide +kernel) (by decide +kernel)
theorem zX5 : Cond.initialized RX5 ∈ ux_T := ux_mem (n := 137) (by decide +kernel) (by decide +kernel)
abbrev iX6_init : ux_I := (cX6_init, 1, RX6, none, [])
theorem kX6_init : ux_lk yX6_init iX6_init 0 := ⟨ux_mem (n := 1354) (by decide +kernel) (by decide +kernel), ux_mem (n := 143) (by decide +kernel) (by decide +kernel), ⟨by decide +kernel, by decide +kernel⟩, by decide +kernel, by decide +kernel, rfl⟩
theorem nX6_init : Cond.instanceMethod yX6_init ∈ ux_T := ux_mem (n := 1353) (by decide +kernel) (by decide +kernel)
theorem oX6 : Cond.methodLink RX6 3 Lib.objectInit ∈ ux_T := ux_mem (n := 1355) (by decide +kernel) (by decide +kernel)
theorem jX6 : Cond.instantiable RX6 (ux_nf 6) ∈ ux_T := ux_mem (n := 1351) (by decide +kernel) (by decide +kernel)
theorem zX6 : Cond.initialized RX6 ∈ ux_T := ux_mem (n := 143) (by decide +kernel) (by decide +kernel)
theorem aX0_11 : ux_pa true RX0 11 0 0 (.array (.object "SubstituteDesk$School")) := ⟨RX0, TX0, tyX0, rfl, by decide, rfl, ux_iwX0, tyX0_ok, nmX0, ux_mem (n := 275) (by decide +kernel) (by decide +kernel), by decide +kernel, rfl, fun _ => rfl⟩
theorem aX0_17 : ux_pa false RX0 17 0 1 .int := ⟨RX0, TX0, tyX0, rfl, by decide, rfl, ux_iwX0, tyX0_ok, nmX0, ux_mem (n := 276) (by decide +kernel) (by decide +kernel), by decide +kernel, rfl, fun _ => rfl⟩
theorem aX0_21 : ux_pa false RX0 21 0 2 .int := ⟨RX0, TX0, tyX0, rfl, by decide, rfl, ux_iwX0, tyX0_ok, nmX0, ux_mem (n := 277) (by decide +kernel) (by decide +kernel), by decide +kernel, rfl, fun _ => rfl⟩
theorem aX1_9 : ux_pa true RX1 9 1 0 (.array .char) := ⟨RX1, TX1, tyX1, rfl, by decide, rfl, ux_iwX1, tyX1_ok, nmX1, ux_mem (n := 340) (by decide +kernel) (by decide +kernel), by decide +kernel, rfl, fun _ => rfl⟩
theorem aX1_15 : ux_pa false RX1 15 1 1 .int := ⟨RX1, TX1, tyX1, rfl, by decide, rfl, ux_iwX1, tyX1_ok, nmX1, ux_mem (n := 341) (by decide +kernel) (by decide +kernel), by decide +kernel, rfl, fun _ => rfl⟩
theorem aX1_19 : ux_pa false RX1 19 1 2 .int := ⟨RX1, TX1, tyX1, rfl, by decide, rfl, ux_iwX1, tyX1_ok, nmX1, ux_mem (n := 343) (by decide +kernel) (by decide +kernel), by decide +kernel, rfl, fun _ => rfl⟩
theorem aX1_22 : ux_pa false RX1 22 1 3 .char := ⟨RX1, TX1, tyX1, rfl, by decide, rfl, ux_iwX1, tyX1_ok, nmX1, ux_mem (n := 344) (by decide +kernel) (by decide +kernel), by decide +kernel, rfl, fun _ => rfl⟩
theorem aX1_26 : ux_pa false RX1 26 1 4 .int := ⟨RX1, TX1, tyX1, rfl, by decide, rfl, ux_iwX1, tyX1_ok, nmX1, ux_mem (n := 345) (by decide +kernel) (by decide +kernel), by decide +kernel, rfl, fun _ => rfl⟩
theorem aX1_29 : ux_pa false RX1 29 1 5 .int := ⟨RX1, TX1, tyX1, rfl, by decide, rfl, ux_iwX1, tyX1_ok, nmX1, ux_mem (n := 346) (by decide +kernel) (by decide +kernel), by decide +kernel, rfl, fun _ => rfl⟩
theorem aX1_32 : ux_pa false RX1 32 1 6 .int := ⟨RX1, TX1, tyX1, rfl, by decide, rfl, ux_iwX1, tyX1_ok, nmX1, ux_mem (n := 347) (by decide +kernel) (by decide +kernel), by decide +kernel, rfl, fun _ => rfl⟩
theorem aX1_35 : ux_pa false RX1 35 1 7 .int := ⟨RX1, TX1, tyX1, rfl, by decide, rfl, ux_iwX1, tyX1_ok, nmX1, ux_mem (n := 348) (by decide +kernel) (by decide +kernel), by decide +kernel, rfl, fun _ => rfl⟩
theorem aX1_38 : ux_pa false RX1 38 1 8 .int := ⟨RX1, TX1, tyX1, rfl, by decide, rfl, ux_iwX1, tyX1_ok, nmX1, ux_mem (n := 349) (by decide +kernel) (by decide +kernel), by decide +kernel, rfl, fun _ => rfl⟩
theorem aX1_41 : ux_pa false RX1 41 1 9 .int := ⟨RX1, TX1, tyX1, rfl, by decide, rfl, ux_iwX1, tyX1_ok, nmX1, ux_mem (n := 350) (by decide +kernel) (by decide +kernel), by decide +kernel, rfl, fun _ => rfl⟩
theorem aX1_44 : ux_pa false RX1 44 1 10 .int := ⟨RX1, TX1, tyX1, rfl, by decide, rfl, ux_iwX1, tyX1_ok, nmX1, ux_mem (n := 351) (by decide +kernel) (by decide +kernel), by decide +kernel, rfl, fun _ => rfl⟩
theorem aX2_9 : ux_pa true RX2 9 2 0 (.array .char) := ⟨RX2, TX2, tyX2, rfl, by decide, rfl, ux_iwX2, tyX2_ok, nmX2, ux_mem (n := 382) (by decide +kernel) (by decide +kernel), by decide +kernel, rfl, fun _ => rfl⟩
theorem aX2_15 : ux_pa false RX2 15 2 1 .int := ⟨RX2, TX2, tyX2, rfl, by decide, rfl, ux_iwX2, tyX2_ok, nmX2, ux_mem (n := 384) (by decide +kernel) (by decide +kernel), by decide +kernel, rfl, fun _ => rfl⟩
theorem aX3_9 : ux_pa true RX3 9 3 0 (.array .int) := ⟨RX3, TX3, tyX3, rfl, by decide, rfl, ux_iwX3, tyX3_ok, nmX3, ux_mem (n := 292) (by decide +kernel) (by decide +kernel), by decide +kernel, rfl, fun _ => rfl⟩
theorem aX3_15 : ux_pa true RX3 15 3 1 (.array .int) := ⟨RX3, TX3, tyX3, rfl, by decide, rfl, ux_iwX3, tyX3_ok, nmX3, ux_mem (n := 294) (by decide +kernel) (by decide +kernel), by decide +kernel, rfl, fun _ => rfl⟩
theorem aX3_18 : ux_pa true RX3 18 3 2 (.array .int) := ⟨RX3, TX3, tyX3, rfl, by decide, rfl, ux_iwX3, tyX3_ok, nmX3, ux_mem (n := 295) (by decide +kernel) (by decide +kernel), by decide +kernel, rfl, fun _ => rfl⟩
theorem aX3_21 : ux_pa true RX3 21 3 3 (.array .int) := ⟨RX3, TX3, tyX3, rfl, by decide, rfl, ux_iwX3, tyX3_ok, nmX3, ux_mem (n := 296) (by decide +kernel) (by decide +kernel), by decide +kernel, rfl, fun _ => rfl⟩
theorem aX3_24 : ux_pa true RX3 24 3 4 (.array .int) := ⟨RX3, TX3, tyX3, rfl, by decide, rfl, ux_iwX3, tyX3_ok, nmX3, ux_mem (n := 297) (by decide +kernel) (by decide +kernel), by decide +kernel, rfl, fun _ => rfl⟩
theorem aX3_27 : ux_pa true RX3 27 3 5 (.array .int) := ⟨RX3, TX3, tyX3, rfl, by decide, rfl, ux_iwX3, tyX3_ok, nmX3, ux_mem (n := 299) (by decide +kernel) (by decide +kernel), by decide +kernel, rfl, fun _ => rfl⟩
theorem aX3_30 : ux_pa true RX3 30 3 6 (.array .int) := ⟨RX3, TX3, tyX3, rfl, by decide, rfl, ux_iwX3, tyX3_ok, nmX3, ux_mem (n := 300) (by decide +kernel) (by decide +kernel), by decide +kernel, rfl, fun _ => rfl⟩
theorem aX3_33 : ux_pa true RX3 33 3 7 (.array .int) := ⟨RX3, TX3, tyX3, rfl, by decide, rfl, ux_iwX3, tyX3_ok, nmX3, ux_mem (n := 301) (by decide +kernel) (by decide +kernel), by decide +kernel, rfl, fun _ => rfl⟩
theorem aX3_36 : ux_pa false RX3 36 3 8 .int := ⟨RX3, TX3, tyX3, rfl, by decide, rfl, ux_iwX3, tyX3_ok, nmX3, ux_mem (n := 302) (by decide +kernel) (by decide +kernel), by decide +kernel, rfl, fun _ => rfl⟩
theorem aX3_40 : ux_pa false RX3 40 3 9 .int := ⟨RX3, TX3, tyX3, rfl, by decide, rfl, ux_iwX3, tyX3_ok, nmX3, ux_mem (n := 303) (by decide +kernel) (by decide +kernel), by decide +kernel, rfl, fun _ => rfl⟩
theorem aX3_43 : ux_pa false RX3 43 3 10 .int := ⟨RX3, TX3, tyX3, rfl, by decide, rfl, ux_iwX3, tyX3_ok, nmX3, ux_mem (n := 305) (by decide +kernel) (by decide +kernel), by decide +kernel, rfl, fun _ => rfl⟩
theorem aX3_46 : ux_pa false RX3 46 3 11 .int := ⟨RX3, TX3, tyX3, rfl, by decide, rfl, ux_iwX3, tyX3_ok, nmX3, ux_mem (n := 307) (by decide +kernel) (by decide +kernel), by decide +kernel, rfl, fun _ => rfl⟩
theorem aX4_9 : ux_pa false RX4 9 4 0 .int := ⟨RX4, TX4, tyX4, rfl, by decide, rfl, ux_iwX4, tyX4_ok, nmX4, ux_mem (n := 181) (by decide +kernel) (by decide +kernel), by decide +kernel, rfl, fun _ => rfl⟩
theorem aX4_15 : ux_pa false RX4 15 4 1 .int := ⟨RX4, TX4, tyX4, rfl, by decide, rfl, ux_iwX4, tyX4_ok, nmX4, ux_mem (n := 185) (by decide +kernel) (by decide +kernel), by decide +kernel, rfl, fun _ => rfl⟩
theorem aX4_18 : ux_pa false RX4 18 4 2 .int := ⟨RX4, TX4, tyX4, rfl, by decide, rfl, ux_iwX4, tyX4_ok, nmX4, ux_mem (n := 187) (by decide +kernel) (by decide +kernel), by decide +kernel, rfl, fun _ => rfl⟩
theorem aX4_21 : ux_pa false RX4 21 4 3 .int := ⟨RX4, TX4, tyX4, rfl, by decide, rfl, ux_iwX4, tyX4_ok, nmX4, ux_mem (n := 189) (by decide +kernel) (by decide +kernel), by decide +kernel, rfl, fun _ => rfl⟩
theorem aX4_24 : ux_pa true RX4 24 4 4 (.array .int) := ⟨RX4, TX4, tyX4, rfl, by decide, rfl, ux_iwX4, tyX4_ok, nmX4, ux_mem (n := 191) (by decide +kernel) (by decide +kernel), by decide +kernel, rfl, fun _ => rfl⟩
theorem aX4_28 : ux_pa true RX4 28 4 5 (.array .int) := ⟨RX4, TX4, tyX4, rfl, by decide, rfl, ux_iwX4, tyX4_ok, nmX4, ux_mem (n := 193) (by decide +kernel) (by decide +kernel), by decide +kernel, rfl, fun _ => rfl⟩
theorem aX4_31 : ux_pa true RX4 31 4 6 (.array .int) := ⟨RX4, TX4, tyX4, rfl, by decide, rfl, ux_iwX4, tyX4_ok, nmX4, ux_mem (n := 195) (by decide +kernel) (by decide +kernel), by decide +kernel, rfl, fun _ => rfl⟩
theorem aX4_34 : ux_pa true RX4 34 4 7 (.array .int) := ⟨RX4, TX4, tyX4, rfl, by decide, rfl, ux_iwX4, tyX4_ok, nmX4, ux_mem (n := 198) (by decide +kernel) (by decide +kernel), by decide +kernel, rfl, fun _ => rfl⟩
theorem aX4_37 : ux_pa true RX4 37 4 8 (.array .int) := ⟨RX4, TX4, tyX4, rfl, by decide, rfl, ux_iwX4, tyX4_ok, nmX4, ux_mem (n := 200) (by decide +kernel) (by decide +kernel), by decide +kernel, rfl, fun _ => rfl⟩
theorem aX4_40 : ux_pa true RX4 40 4 9 (.array .int) := ⟨RX4, TX4, tyX4, rfl, by decide, rfl, ux_iwX4, tyX4_ok, nmX4, ux_mem (n := 201) (by decide +kernel) (by decide +kernel), by decide +kernel, rfl, fun _ => rfl⟩
theorem aX4_43 : ux_pa true RX4 43 4 10 (.array .int) := ⟨RX4, TX4, tyX4, rfl, by decide, rfl, ux_iwX4, tyX4_ok, nmX4, ux_mem (n := 203) (by decide +kernel) (by decide +kernel), by decide +kernel, rfl, fun _ => rfl⟩
theorem aX4_46 : ux_pa true RX4 46 4 11 (.array .int) := ⟨RX4, TX4, tyX4, rfl, by decide, rfl, ux_iwX4, tyX4_ok, nmX4, ux_mem (n := 205) (by decide +kernel) (by decide +kernel), by decide +kernel, rfl, fun _ => rfl⟩
theorem aX4_49 : ux_pa true RX4 49 4 12 (.array .int) := ⟨RX4, TX4, tyX4, rfl, by decide, rfl, ux_iwX4, tyX4_ok, nmX4, ux_mem (n := 209) (by decide +kernel) (by decide +kernel), by decide +kernel, rfl, fun _ => rfl⟩
theorem aX4_52 : ux_pa true RX4 52 4 13 (.array .int) := ⟨RX4, TX4, tyX4, rfl, by decide, rfl, ux_iwX4, tyX4_ok, nmX4, ux_mem (n := 212) (by decide +kernel) (by decide +kernel), by decide +kernel, rfl, fun _ => rfl⟩
theorem aX4_55 : ux_pa true RX4 55 4 14 (.array .int) := ⟨RX4, TX4, tyX4, rfl, by decide, rfl, ux_iwX4, tyX4_ok, nmX4, ux_mem (n := 215) (by decide +kernel) (by decide +kernel), by decide +kernel, rfl, fun _ => rfl⟩
theorem aX4_58 : ux_pa true RX4 58 4 15 (.array .int) := ⟨RX4, TX4, tyX4, rfl, by decide, rfl, ux_iwX4, tyX4_ok, nmX4, ux_mem (n := 218) (by decide +kernel) (by decide +kernel), by decide +kernel, rfl, fun _ => rfl⟩
theorem aX4_61 : ux_pa true RX4 61 4 16 (.array .int) := ⟨RX4, TX4, tyX4, rfl, by decide, rfl, ux_iwX4, tyX4_ok, nmX4, ux_mem (n := 221) (by decide +kernel) (by decide +kernel), by decide +kernel, rfl, fun _ => rfl⟩
theorem aX4_64 : ux_pa true RX4 64 4 17 (.array .int) := ⟨RX4, TX4, tyX4, rfl, by decide, rfl, ux_iwX4, tyX4_ok, nmX4, ux_mem (n := 222) (by decide +kernel) (by decide +kernel), by decide +kernel, rfl, fun _ => rfl⟩
theorem aX4_67 : ux_pa true RX4 67 4 18 (.array .int) := ⟨RX4, TX4, tyX4, rfl, by decide, rfl, ux_iwX4, tyX4_ok, nmX4, ux_mem (n := 224) (by decide +kernel) (by decide +kernel), by decide +kernel, rfl, fun _ => rfl⟩
theorem aX5_10 : ux_pa true RX5 10 5 0 (.object "SubstituteDesk$School") := ⟨RX5, TX5, tyX5, rfl, by decide, rfl, ux_iwX5, tyX5_ok, nmX5, ux_mem (n := 391) (by decide +kernel) (by decide +kernel), by decide +kernel, rfl, fun _ => rfl⟩
theorem aX5_16 : ux_pa true RX5 16 5 1 (.object "SubstituteDesk$School") := ⟨RX5, TX5, tyX5, rfl, by decide, rfl, ux_iwX5, tyX5_ok, nmX5, ux_mem (n := 392) (by decide +kernel) (by decide +kernel), by decide +kernel, rfl, fun _ => rfl⟩
theorem aX5_19 : ux_pa true RX5 19 5 2 (.object "SubstituteDesk$School") := ⟨RX5, TX5, tyX5, rfl, by decide, rfl, ux_iwX5, tyX5_ok, nmX5, ux_mem (n := 393) (by decide +kernel) (by decide +kernel), by decide +kernel, rfl, fun _ => rfl⟩
theorem aX5_25 : ux_pa true RX5 25 5 3 (.object "SubstituteDesk$History") := ⟨RX5, TX5, tyX5, rfl, by decide, rfl, ux_iwX5, tyX5_ok, nmX5, ux_mem (n := 394) (by decide +kernel) (by decide +kernel), by decide +kernel, rfl, fun _ => rfl⟩
theorem aX5_32 : ux_pa true RX5 32 5 4 (.object "SubstituteDesk$Planner") := ⟨RX5, TX5, tyX5, rfl, by decide, rfl, ux_iwX5, tyX5_ok, nmX5, ux_mem (n := 395) (by decide +kernel) (by decide +kernel), by decide +kernel, rfl, fun _ => rfl⟩
theorem aX5_39 : ux_pa true RX5 39 5 5 (.object "SubstituteDesk$Input") := ⟨RX5, TX5, tyX5, rfl, by decide, rfl, ux_iwX5, tyX5_ok, nmX5, ux_mem (n := 396) (by decide +kernel) (by decide +kernel), by decide +kernel, rfl, fun _ => rfl⟩
theorem aX5_46 : ux_pa true RX5 46 5 6 (.object "SubstituteDesk$Line") := ⟨RX5, TX5, tyX5, rfl, by decide, rfl, ux_iwX5, tyX5_ok, nmX5, ux_mem (n := 397) (by decide +kernel) (by decide +kernel), by decide +kernel, rfl, fun _ => rfl⟩
theorem aX5_50 : ux_pa false RX5 50 5 7 .boolean := ⟨RX5, TX5, tyX5, rfl, by decide, rfl, ux_iwX5, tyX5_ok, nmX5, ux_mem (n := 398) (by decide +kernel) (by decide +kernel), by decide +kernel, rfl, fun _ => rfl⟩
theorem aX5_54 : ux_pa false RX5 54 5 8 .int := ⟨RX5, TX5, tyX5, rfl, by decide, rfl, ux_iwX5, tyX5_ok, nmX5, ux_mem (n := 399) (by decide +kernel) (by decide +kernel), by decide +kernel, rfl, fun _ => rfl⟩
theorem aX5_58 : ux_pa false RX5 58 5 9 .int := ⟨RX5, TX5, tyX5, rfl, by decide, rfl, ux_iwX5, tyX5_ok, nmX5, ux_mem (n := 400) (by decide +kernel) (by decide +kernel), by decide +kernel, rfl, fun _ => rfl⟩
theorem aX6_9 : ux_pa true RX6 9 6 1 (.array .int) := ⟨RX6, TX6, tyX6, rfl, by decide, rfl, ux_iwX6, tyX6_ok, nmX6, ux_mem (n := 1361) (by decide +kernel) (by decide +kernel), by decide +kernel, rfl, fun _ => rfl⟩
theorem aX6_13 : ux_pa true RX6 13 6 2 (.array .int) := ⟨RX6, TX6, tyX6, rfl, by decide, rfl, ux_iwX6, tyX6_ok, nmX6, ux_mem (n := 1362) (by decide +kernel) (by decide +kernel), by decide +kernel, rfl, fun _ => rfl⟩
theorem aX6_16 : ux_pa true RX6 16 6 4 (.array .int) := ⟨RX6, TX6, tyX6, rfl, by decide, rfl, ux_iwX6, tyX6_ok, nmX6, ux_mem (n := 1364) (by decide +kernel) (by decide +kernel), by decide +kernel, rfl, fun _ => rfl⟩
theorem aX6_19 : ux_pa true RX6 19 6 5 (.array .int) := ⟨RX6, TX6, tyX6, rfl, by decide, rfl, ux_iwX6, tyX6_ok, nmX6, ux_mem (n := 1365) (by decide +kernel) (by decide +kernel), by decide +kernel, rfl, fun _ => rfl⟩
theorem aX6_22 : ux_pa true RX6 22 6 7 (.array .int) := ⟨RX6, TX6, tyX6, rfl, by decide, rfl, ux_iwX6, tyX6_ok, nmX6, ux_mem (n := 1367) (by decide +kernel) (by decide +kernel), by decide +kernel, rfl, fun _ => rfl⟩
theorem aX6_25 : ux_pa false RX6 25 6 9 .int := ⟨RX6, TX6, tyX6, rfl, by decide, rfl, ux_iwX6, tyX6_ok, nmX6, ux_mem (n := 1369) (by decide +kernel) (by decide +kernel), by decide +kernel, rfl, fun _ => rfl⟩
theorem aX6_29 : ux_pa true RX6 29 6 12 (.array .int) := ⟨RX6, TX6, tyX6, rfl, by decide, rfl, ux_iwX6, tyX6_ok, nmX6, ux_mem (n := 1372) (by decide +kernel) (by decide +kernel), by decide +kernel, rfl, fun _ => rfl⟩
theorem aX6_32 : ux_pa true RX6 32 6 13 (.array .int) := ⟨RX6, TX6, tyX6, rfl, by decide, rfl, ux_iwX6, tyX6_ok, nmX6, ux_mem (n := 1373) (by decide +kernel) (by decide +kernel), by decide +kernel, rfl, fun _ => rfl⟩
theorem aX6_35 : ux_pa true RX6 35 6 14 (.array .int) := ⟨RX6, TX6, tyX6, rfl, by decide, rfl, ux_iwX6, tyX6_ok, nmX6, ux_mem (n := 1374) (by decide +kernel) (by decide +kernel), by decide +kernel, rfl, fun _ => rfl⟩
theorem aX6_38 : ux_pa true RX6 38 6 17 (.array .int) := ⟨RX6, TX6, tyX6, rfl, by decide, rfl, ux_iwX6, tyX6_ok, nmX6, ux_mem (n := 1377) (by decide +kernel) (by decide +kernel), by decide +kernel, rfl, fun _ => rfl⟩
section CXT
variable {l : Launch} {G : ux_G} {mi : ux_I} {b : Bool} {R : Room} {Z : ux_Zt} {pc : Nat} {L : List (Option Value)} {st : List Value} {O : List (Nat × va_E)} {n u : Nat}
theorem ct_pull {G : ux_G} {O : List (Nat × va_E)} {a : Nat} {e : va_E} : ∀ (P : List (Nat × va_E)), lk a P = none → ∀ k, ct G (P ++ (a, e) :: O) k = ct G ((a, e) :: (P ++ O)) k := by
  intro P
  induction P with
  | nil => intro _ k; rfl
  | cons q P ih =>
    obtain ⟨c, f⟩ := q
    intro h k
    have hc : ¬ a = c := fun y => by
      unfold lk at h
      rw [if_pos y] at h
      cases h
    have h2 : lk a P = none := by
      unfold lk at h
      rw [if_neg hc] at h
      exact h
    show ct G ((c, f) :: (P ++ (a, e) :: O)) k = ct G ((a, e) :: (c, f) :: (P ++ O)) k
    rw [ct_under (ih h2) c f k]
    exact ct_swap (Ne.symm hc) k
theorem c_iast {k0 N j : Nat} {i x : Int32} {f : Nat → Int32} (d : decode mi.1 pc = .ok (.iastore, 1)) (al : ux_al G) (hk : k0 < 204) (ho : ux_or k0 < n) (hi : i = nI j) (hj : j < N) (hN : N ≤ 4000)
    (k : cx_W l G mi b R Z (pc + 1) L st ((k0, .inl (G.2.2.2 0, N, .inl (upd f j x))) :: O) n u) : cx_W l G mi b R Z pc L (.int x :: .int i :: .ref k0 :: st) ((k0, .inl (G.2.2.2 0, N, .inl f)) :: O) n u := by
  intro p e s m args below meth c H locs ls C hP hS hl
  have w8 := C.1.2.2.2.2.2.2.2.2.2.2.2.2.2.2.2.1
  have hat := hP.2 k0 hk ho
  rw [ct_top] at hat
  have hin : vp_in i N := by rw [hi]; exact vp_in_nI hj (by omega)
  have ei : i.toNatClampNeg = j := by rw [hi]; exact nI_clamp (by omega)
  show W p l e R s m args below meth c H locs u (6 * u) (Z args s below) (F0 m pc ls (.int x :: .int i :: ux_cv G (.ref k0) :: st.map (ux_cv G)))
  rw [ux_cv_ref G hk]
  refine W.iast C.1.1 C.1.2.1 hat ((w8.2 0 _ rfl).1 N (fun j => .int (f j))) (fun q => by cases q) (by show ¬ (i < 0 ∨ (arrV _ _ _).slots.size ≤ _); rw [arrV_size]; exact hin) rfl rfl d fun H1 e1 z oq => ?_
  refine k p e s m args below meth c H1 _ ls C (cx_set al hP hk z ?_ oq) (hS.put z oq ((ux_al_ok al).2 k0 hk)) hl
  show H1[G.2.1 k0]? = some (vp_cell _ _)
  rw [e1, vp_cell_i, vp_cell_i, arrV_store, ei]
  congr 2
  funext q
  by_cases hq : q = j
  · subst hq
    simp [updV, upd]
  · simp [updV, upd, hq]
theorem c_alen {k0 t0 : Nat} {ty : FieldType} {a0 : vp_A} {v : Int32} (d : decode mi.1 pc = .ok (.arraylength, 1)) (hk : k0 < 204) (ho : ux_or k0 < n) (hct : ct G O k0 = .inl (G.2.2.2 t0, a0)) (htt : (ux_ty G)[t0]? = some (G.2.2.2 t0, ty)) (hv : Int32.ofNat a0.1 = v)
    (k : cx_W l G mi b R Z (pc + 1) L (.int v :: st) O n u) : cx_W l G mi b R Z pc L (.ref k0 :: st) O n u := by
  intro p e s m args below meth c H locs ls C hP hS hl
  have w8 := C.1.2.2.2.2.2.2.2.2.2.2.2.2.2.2.2.1
  have hat := hP.2 k0 hk ho
  rw [hct] at hat
  have hP1 : va_P G.2.2.1 ux_cl [(G.2.1 k0, .inl (G.2.2.2 t0, a0))] H := fun i q hq => by
    cases i with
    | zero => cases hq; exact hat
    | succ i => simp at hq
  rw [List.map_cons, ux_cv_ref G hk]
  exact va_alen (x := a0) C.1.1 C.1.2.1 w8 hP1 0 t0 rfl htt hv d (k p e s m args below meth c H locs ls C hP hS hl)
theorem c_getr {idx k0 ci j q : Nat} {fs : List Value} (f : ux_fl mi.2.2.1 idx ci j) (d : decode mi.1 pc = .ok (.getfield idx, 3)) (hk : k0 < 204) (ho : ux_or k0 < n) (hct : ct G O k0 = .inr (ci, fs)) (hfs : fs[j]? = some (.ref (G.2.1 q))) (hq : q < 204)
    (k : cx_W l G mi b R Z (pc + 3) L (.ref q :: st) O n u) : cx_W l G mi b R Z pc L (.ref k0 :: st) O n u := by
  intro p e s m args below meth c H locs ls C hP hS hl
  obtain ⟨CC, T, ty, hc, hj, hC1, hin, -, -, hlink⟩ := f
  obtain ⟨c1, c2, c3, c4, c5, c6, c7, c8, c9⟩ := id C.1
  obtain ⟨w1, w2, w3, w4, w5, w6, w7, w8, w9, w10⟩ := id c9
  have hat := hP.2 k0 hk ho
  rw [hct] at hat
  have hP1 : va_P G.2.2.1 ux_cl [(G.2.1 k0, .inr (ci, fs))] H := fun i q hq => by
    cases i with
    | zero => cases hq; exact hat
    | succ i => simp at hq
  have hh := k p e s m args below meth c H locs ls C hP hS hl
  rw [List.map_cons, ux_cv_ref G hq] at hh
  rw [List.map_cons, ux_cv_ref G hk]
  rcases hlink with hl1 | ⟨host, hl1⟩
  · exact va_get (D := G.2.2.1) (ci := ci) (v := .ref (G.2.1 q)) (C := CC) (T := T) (N := ux_nf ci) (ref := CC) c1 c2 c5 hin c4 w8 hP1 0 rfl hc j hj (c5 _ hl1) (fun x q => by rw [hC1] at q; exact q) hfs d hh
  · exact va_getN (D := G.2.2.1) (ci := ci) (v := .ref (G.2.1 q)) (C := CC) (T := T) (N := ux_nf ci) (ref := CC) (host := host) c1 c2 c5 hin c4 w8 hP1 0 rfl hc j hj ((w3 _ hl1).use rfl) (fun x q => by rw [hC1] at q; exact q) hfs d hh
end CXT
theorem c_fillw {l : Launch} {G : ux_G} {O : List (Nat × va_E)} {n k0 N : Nat} {x : Int32} {f : Nat → Int32} (al : ux_al G) (hk : k0 < 204) (ho : ux_or k0 < n) (hN : N ≤ 4000) : ∀ (m j : Nat), j ≤ N → N - j < m → cx_W l G iX5_fill false (ux_rm 0 0) (cx_Z G 0 ((k0, .inl (G.2.2.2 0, N, .inl (fun a => if a < N then x else f a))) :: O) n) 2 [some (.ref k0), some (.int x), some (.int (nI j))] [] ((k0, .inl (G.2.2.2 0, N, .inl (fun a => if a < j then x else f a))) :: O) n 0 := by
  intro m
  induction m with
  | zero => intro j _ h; exact absurd h (Nat.not_lt_zero _)
  | succ m ih =>
    intro j hj hm
    refine c_iload_n dX5_fill_2 rfl ?_
    refine c_aload_n dX5_fill_3 rfl ?_
    refine c_alen (t0 := 0) (v := nI N) dX5_fill_4 hk ho (ct_top _ _ _ _) rfl rfl ?_
    refine c_icmp_ge (tgt := 18 + 5 - 5) dX5_fill_5 (by decide) (fun c => ?_) (fun c => ?_)
    · have e : j = N := by
        have := (nI_leI (a := N) (b := j) (by omega) (by omega)).mp c
        omega
      subst e
      exact c_return dX5_fill_18 rfl (Nat.le_refl _)
    · have hlt : j < N := by
        rcases Nat.lt_or_ge j N with z | z
        · exact z
        · exact absurd ((nI_leI (a := N) (b := j) (by omega) (by omega)).mpr z) c
      refine c_aload_n dX5_fill_8 rfl ?_
      refine c_iload_n dX5_fill_9 rfl ?_
      refine c_iload_n dX5_fill_10 rfl ?_
      refine c_iast dX5_fill_11 al hk ho rfl hlt hN ?_
      refine c_iinc (v := nI (j + 1)) dX5_fill_12 rfl (nI_1 _) rfl rfl rfl ?_
      refine c_goto (tgt := 2) dX5_fill_15 (by decide) ?_
      have e : upd (fun a => if a < j then x else f a) j x = fun a => if a < j + 1 then x else f a := by
        funext a
        unfold upd
        by_cases q : a = j
        · rw [if_pos q, if_pos (by omega)]
        · rw [if_neg q]
          dsimp only
          by_cases q2 : a < j
          · rw [if_pos q2, if_pos (by omega)]
          · rw [if_neg q2, if_neg (by omega)]
      rw [e]
      exact ih (j + 1) (by omega) (by omega)
theorem c_fill {l : Launch} {G : ux_G} {O : List (Nat × va_E)} {n k0 N : Nat} {x : Int32} {f : Nat → Int32} (al : ux_al G) (hk : k0 < 204) (ho : ux_or k0 < n) (hN : N ≤ 4000) : cx_M l G yX5_fill iX5_fill 0 0 [.ref k0, .int x] ((k0, .inl (G.2.2.2 0, N, .inl f)) :: O) n ((k0, .inl (G.2.2.2 0, N, .inl (fun a => if a < N then x else f a))) :: O) n := by
  refine cx_ent (b := false) (L' := [some (.ref k0), some (.int x), none]) kX5_fill rfl (fun y => by cases y) rfl rfl rfl ?_
  refine c_iconst (v := 0) dX5_fill_0 rfl ?_
  refine c_istore_n (j := 2) dX5_fill_1 rfl rfl rfl rfl ?_
  exact c_fillw al hk ho hN (N + 1) 0 (Nat.zero_le _) (by omega)
