theorem ux_inX0 : ∀ k, k < 3 → u_lay RX0 TX0 k ∈ ux_T := fun k hk => match k, hk with
  | 0, _ => ux_mem (n := 279) (by decide +kernel) (by decide +kernel)
  | 1, _ => ux_mem (n := 281) (by decide +kernel) (by decide +kernel)
  | 2, _ => ux_mem (n := 283) (by decide +kernel) (by decide +kernel)
  | k + 3, hk => absurd hk (by omega)
theorem ux_iwX0 : ∀ w ∈ u_ws RX0 TX0 3, w ∈ ux_T := fun w hw => by
  obtain ⟨k, hk, rfl⟩ := List.mem_map.mp hw
  exact ux_inX0 k (List.mem_range.mp hk)
theorem ux_inX1 : ∀ k, k < 11 → u_lay RX1 TX1 k ∈ ux_T := fun k hk => match k, hk with
  | 0, _ => ux_mem (n := 352) (by decide +kernel) (by decide +kernel)
  | 1, _ => ux_mem (n := 354) (by decide +kernel) (by decide +kernel)
  | 2, _ => ux_mem (n := 356) (by decide +kernel) (by decide +kernel)
  | 3, _ => ux_mem (n := 358) (by decide +kernel) (by decide +kernel)
  | 4, _ => ux_mem (n := 360) (by decide +kernel) (by decide +kernel)
  | 5, _ => ux_mem (n := 362) (by decide +kernel) (by decide +kernel)
  | 6, _ => ux_mem (n := 364) (by decide +kernel) (by decide +kernel)
  | 7, _ => ux_mem (n := 366) (by decide +kernel) (by decide +kernel)
  | 8, _ => ux_mem (n := 368) (by decide +kernel) (by decide +kernel)
  | 9, _ => ux_mem (n := 370) (by decide +kernel) (by decide +kernel)
  | 10, _ => ux_mem (n := 372) (by decide +kernel) (by decide +kernel)
  | k + 11, hk => absurd hk (by omega)
theorem ux_iwX1 : ∀ w ∈ u_ws RX1 TX1 11, w ∈ ux_T := fun w hw => by
  obtain ⟨k, hk, rfl⟩ := List.mem_map.mp hw
  exact ux_inX1 k (List.mem_range.mp hk)
theorem ux_inX2 : ∀ k, k < 2 → u_lay RX2 TX2 k ∈ ux_T := fun k hk => match k, hk with
  | 0, _ => ux_mem (n := 386) (by decide +kernel) (by decide +kernel)
  | 1, _ => ux_mem (n := 388) (by decide +kernel) (by decide +kernel)
  | k + 2, hk => absurd hk (by omega)
theorem ux_iwX2 : ∀ w ∈ u_ws RX2 TX2 2, w ∈ ux_T := fun w hw => by
  obtain ⟨k, hk, rfl⟩ := List.mem_map.mp hw
  exact ux_inX2 k (List.mem_range.mp hk)
theorem ux_inX3 : ∀ k, k < 12 → u_lay RX3 TX3 k ∈ ux_T := fun k hk => match k, hk with
  | 0, _ => ux_mem (n := 309) (by decide +kernel) (by decide +kernel)
  | 1, _ => ux_mem (n := 311) (by decide +kernel) (by decide +kernel)
  | 2, _ => ux_mem (n := 313) (by decide +kernel) (by decide +kernel)
  | 3, _ => ux_mem (n := 315) (by decide +kernel) (by decide +kernel)
  | 4, _ => ux_mem (n := 317) (by decide +kernel) (by decide +kernel)
  | 5, _ => ux_mem (n := 319) (by decide +kernel) (by decide +kernel)
  | 6, _ => ux_mem (n := 321) (by decide +kernel) (by decide +kernel)
  | 7, _ => ux_mem (n := 323) (by decide +kernel) (by decide +kernel)
  | 8, _ => ux_mem (n := 325) (by decide +kernel) (by decide +kernel)
  | 9, _ => ux_mem (n := 327) (by decide +kernel) (by decide +kernel)
  | 10, _ => ux_mem (n := 329) (by decide +kernel) (by decide +kernel)
  | 11, _ => ux_mem (n := 331) (by decide +kernel) (by decide +kernel)
  | k + 12, hk => absurd hk (by omega)
theorem ux_iwX3 : ∀ w ∈ u_ws RX3 TX3 12, w ∈ ux_T := fun w hw => by
  obtain ⟨k, hk, rfl⟩ := List.mem_map.mp hw
  exact ux_inX3 k (List.mem_range.mp hk)
theorem ux_inX4 : ∀ k, k < 19 → u_lay RX4 TX4 k ∈ ux_T := fun k hk => match k, hk with
  | 0, _ => ux_mem (n := 226) (by decide +kernel) (by decide +kernel)
  | 1, _ => ux_mem (n := 228) (by decide +kernel) (by decide +kernel)
  | 2, _ => ux_mem (n := 230) (by decide +kernel) (by decide +kernel)
  | 3, _ => ux_mem (n := 232) (by decide +kernel) (by decide +kernel)
  | 4, _ => ux_mem (n := 234) (by decide +kernel) (by decide +kernel)
  | 5, _ => ux_mem (n := 236) (by decide +kernel) (by decide +kernel)
  | 6, _ => ux_mem (n := 238) (by decide +kernel) (by decide +kernel)
  | 7, _ => ux_mem (n := 240) (by decide +kernel) (by decide +kernel)
  | 8, _ => ux_mem (n := 242) (by decide +kernel) (by decide +kernel)
  | 9, _ => ux_mem (n := 244) (by decide +kernel) (by decide +kernel)
  | 10, _ => ux_mem (n := 246) (by decide +kernel) (by decide +kernel)
  | 11, _ => ux_mem (n := 248) (by decide +kernel) (by decide +kernel)
  | 12, _ => ux_mem (n := 250) (by decide +kernel) (by decide +kernel)
  | 13, _ => ux_mem (n := 252) (by decide +kernel) (by decide +kernel)
  | 14, _ => ux_mem (n := 254) (by decide +kernel) (by decide +kernel)
  | 15, _ => ux_mem (n := 256) (by decide +kernel) (by decide +kernel)
  | 16, _ => ux_mem (n := 258) (by decide +kernel) (by decide +kernel)
  | 17, _ => ux_mem (n := 260) (by decide +kernel) (by decide +kernel)
  | 18, _ => ux_mem (n := 262) (by decide +kernel) (by decide +kernel)
  | k + 19, hk => absurd hk (by omega)
theorem ux_iwX4 : ∀ w ∈ u_ws RX4 TX4 19, w ∈ ux_T := fun w hw => by
  obtain ⟨k, hk, rfl⟩ := List.mem_map.mp hw
  exact ux_inX4 k (List.mem_range.mp hk)
theorem ux_inX5 : ∀ k, k < 10 → u_lay RX5 TX5 k ∈ ux_T := fun k hk => match k, hk with
  | 0, _ => ux_mem (n := 401) (by decide +kernel) (by decide +kernel)
  | 1, _ => ux_mem (n := 403) (by decide +kernel) (by decide +kernel)
  | 2, _ => ux_mem (n := 405) (by decide +kernel) (by decide +kernel)
  | 3, _ => ux_mem (n := 407) (by decide +kernel) (by decide +kernel)
  | 4, _ => ux_mem (n := 409) (by decide +kernel) (by decide +kernel)
  | 5, _ => ux_mem (n := 411) (by decide +kernel) (by decide +kernel)
  | 6, _ => ux_mem (n := 413) (by decide +kernel) (by decide +kernel)
  | 7, _ => ux_mem (n := 415) (by decide +kernel) (by decide +kernel)
  | 8, _ => ux_mem (n := 417) (by decide +kernel) (by decide +kernel)
  | 9, _ => ux_mem (n := 419) (by decide +kernel) (by decide +kernel)
  | k + 10, hk => absurd hk (by omega)
theorem ux_iwX5 : ∀ w ∈ u_ws RX5 TX5 10, w ∈ ux_T := fun w hw => by
  obtain ⟨k, hk, rfl⟩ := List.mem_map.mp hw
  exact ux_inX5 k (List.mem_range.mp hk)
theorem ux_inX6 : ∀ k, k < 18 → u_lay RX6 TX6 k ∈ ux_T := fun k hk => match k, hk with
  | 0, _ => ux_mem (n := 1378) (by decide +kernel) (by decide +kernel)
  | 1, _ => ux_mem (n := 1380) (by decide +kernel) (by decide +kernel)
  | 2, _ => ux_mem (n := 1382) (by decide +kernel) (by decide +kernel)
  | 3, _ => ux_mem (n := 1384) (by decide +kernel) (by decide +kernel)
  | 4, _ => ux_mem (n := 1386) (by decide +kernel) (by decide +kernel)
  | 5, _ => ux_mem (n := 1388) (by decide +kernel) (by decide +kernel)
  | 6, _ => ux_mem (n := 1390) (by decide +kernel) (by decide +kernel)
  | 7, _ => ux_mem (n := 1392) (by decide +kernel) (by decide +kernel)
  | 8, _ => ux_mem (n := 1394) (by decide +kernel) (by decide +kernel)
  | 9, _ => ux_mem (n := 1396) (by decide +kernel) (by decide +kernel)
  | 10, _ => ux_mem (n := 1398) (by decide +kernel) (by decide +kernel)
  | 11, _ => ux_mem (n := 1400) (by decide +kernel) (by decide +kernel)
  | 12, _ => ux_mem (n := 1402) (by decide +kernel) (by decide +kernel)
  | 13, _ => ux_mem (n := 1404) (by decide +kernel) (by decide +kernel)
  | 14, _ => ux_mem (n := 1406) (by decide +kernel) (by decide +kernel)
  | 15, _ => ux_mem (n := 1408) (by decide +kernel) (by decide +kernel)
  | 16, _ => ux_mem (n := 1410) (by decide +kernel) (by decide +kernel)
  | 17, _ => ux_mem (n := 1412) (by decide +kernel) (by decide +kernel)
  | k + 18, hk => absurd hk (by omega)
theorem ux_iwX6 : ∀ w ∈ u_ws RX6 TX6 18, w ∈ ux_T := fun w hw => by
  obtain ⟨k, hk, rfl⟩ := List.mem_map.mp hw
  exact ux_inX6 k (List.mem_range.mp hk)
theorem fX4_9 : ux_fl RX4 9 4 0 := ⟨RX4, TX4, tyX4, rfl, by decide, rfl, ux_iwX4, tyX4_ok, nmX4, Or.inl (ux_mem (n := 181) (by decide +kernel) (by decide +kernel))⟩
theorem pX4_9 : ux_pf RX4 9 4 0 .int := ⟨RX4, TX4, tyX4, rfl, by decide, rfl, ux_iwX4, tyX4_ok, nmX4, Or.inl (ux_mem (n := 181) (by decide +kernel) (by decide +kernel)), rfl, by decide +kernel⟩
theorem fX3_49 : ux_fl RX3 49 4 0 := ⟨RX4, TX4, tyX4, rfl, by decide, rfl, ux_iwX4, tyX4_ok, nmX4, Or.inr ⟨"SubstituteDesk", ux_memN (n := 182) (by decide +kernel) (by decide +kernel)⟩⟩
theorem pX3_49 : ux_pf RX3 49 4 0 .int := ⟨RX4, TX4, tyX4, rfl, by decide, rfl, ux_iwX4, tyX4_ok, nmX4, Or.inr ⟨"SubstituteDesk", ux_memN (n := 182) (by decide +kernel) (by decide +kernel)⟩, rfl, by decide +kernel⟩
theorem fX5_74 : ux_fl RX5 74 4 0 := ⟨RX4, TX4, tyX4, rfl, by decide, rfl, ux_iwX4, tyX4_ok, nmX4, Or.inr ⟨"SubstituteDesk", ux_memN (n := 183) (by decide +kernel) (by decide +kernel)⟩⟩
theorem pX5_74 : ux_pf RX5 74 4 0 .int := ⟨RX4, TX4, tyX4, rfl, by decide, rfl, ux_iwX4, tyX4_ok, nmX4, Or.inr ⟨"SubstituteDesk", ux_memN (n := 183) (by decide +kernel) (by decide +kernel)⟩, rfl, by decide +kernel⟩
theorem fX1_68 : ux_fl RX1 68 4 0 := ⟨RX4, TX4, tyX4, rfl, by decide, rfl, ux_iwX4, tyX4_ok, nmX4, Or.inr ⟨"SubstituteDesk", ux_memN (n := 184) (by decide +kernel) (by decide +kernel)⟩⟩
theorem pX1_68 : ux_pf RX1 68 4 0 .int := ⟨RX4, TX4, tyX4, rfl, by decide, rfl, ux_iwX4, tyX4_ok, nmX4, Or.inr ⟨"SubstituteDesk", ux_memN (n := 184) (by decide +kernel) (by decide +kernel)⟩, rfl, by decide +kernel⟩
theorem fX4_15 : ux_fl RX4 15 4 1 := ⟨RX4, TX4, tyX4, rfl, by decide, rfl, ux_iwX4, tyX4_ok, nmX4, Or.inl (ux_mem (n := 185) (by decide +kernel) (by decide +kernel))⟩
theorem pX4_15 : ux_pf RX4 15 4 1 .int := ⟨RX4, TX4, tyX4, rfl, by decide, rfl, ux_iwX4, tyX4_ok, nmX4, Or.inl (ux_mem (n := 185) (by decide +kernel) (by decide +kernel)), rfl, by decide +kernel⟩
theorem fX5_61 : ux_fl RX5 61 4 1 := ⟨RX4, TX4, tyX4, rfl, by decide, rfl, ux_iwX4, tyX4_ok, nmX4, Or.inr ⟨"SubstituteDesk", ux_memN (n := 186) (by decide +kernel) (by decide +kernel)⟩⟩
theorem pX5_61 : ux_pf RX5 61 4 1 .int := ⟨RX4, TX4, tyX4, rfl, by decide, rfl, ux_iwX4, tyX4_ok, nmX4, Or.inr ⟨"SubstituteDesk", ux_memN (n := 186) (by decide +kernel) (by decide +kernel)⟩, rfl, by decide +kernel⟩
theorem fX4_18 : ux_fl RX4 18 4 2 := ⟨RX4, TX4, tyX4, rfl, by decide, rfl, ux_iwX4, tyX4_ok, nmX4, Or.inl (ux_mem (n := 187) (by decide +kernel) (by decide +kernel))⟩
theorem pX4_18 : ux_pf RX4 18 4 2 .int := ⟨RX4, TX4, tyX4, rfl, by decide, rfl, ux_iwX4, tyX4_ok, nmX4, Or.inl (ux_mem (n := 187) (by decide +kernel) (by decide +kernel)), rfl, by decide +kernel⟩
theorem fX5_162 : ux_fl RX5 162 4 2 := ⟨RX4, TX4, tyX4, rfl, by decide, rfl, ux_iwX4, tyX4_ok, nmX4, Or.inr ⟨"SubstituteDesk", ux_memN (n := 188) (by decide +kernel) (by decide +kernel)⟩⟩
theorem pX5_162 : ux_pf RX5 162 4 2 .int := ⟨RX4, TX4, tyX4, rfl, by decide, rfl, ux_iwX4, tyX4_ok, nmX4, Or.inr ⟨"SubstituteDesk", ux_memN (n := 188) (by decide +kernel) (by decide +kernel)⟩, rfl, by decide +kernel⟩
theorem fX4_21 : ux_fl RX4 21 4 3 := ⟨RX4, TX4, tyX4, rfl, by decide, rfl, ux_iwX4, tyX4_ok, nmX4, Or.inl (ux_mem (n := 189) (by decide +kernel) (by decide +kernel))⟩
theorem pX4_21 : ux_pf RX4 21 4 3 .int := ⟨RX4, TX4, tyX4, rfl, by decide, rfl, ux_iwX4, tyX4_ok, nmX4, Or.inl (ux_mem (n := 189) (by decide +kernel) (by decide +kernel)), rfl, by decide +kernel⟩
theorem fX5_165 : ux_fl RX5 165 4 3 := ⟨RX4, TX4, tyX4, rfl, by decide, rfl, ux_iwX4, tyX4_ok, nmX4, Or.inr ⟨"SubstituteDesk", ux_memN (n := 190) (by decide +kernel) (by decide +kernel)⟩⟩
theorem pX5_165 : ux_pf RX5 165 4 3 .int := ⟨RX4, TX4, tyX4, rfl, by decide, rfl, ux_iwX4, tyX4_ok, nmX4, Or.inr ⟨"SubstituteDesk", ux_memN (n := 190) (by decide +kernel) (by decide +kernel)⟩, rfl, by decide +kernel⟩
theorem fX4_24 : ux_fl RX4 24 4 4 := ⟨RX4, TX4, tyX4, rfl, by decide, rfl, ux_iwX4, tyX4_ok, nmX4, Or.inl (ux_mem (n := 191) (by decide +kernel) (by decide +kernel))⟩
theorem fX5_195 : ux_fl RX5 195 4 4 := ⟨RX4, TX4, tyX4, rfl, by decide, rfl, ux_iwX4, tyX4_ok, nmX4, Or.inr ⟨"SubstituteDesk", ux_memN (n := 192) (by decide +kernel) (by decide +kernel)⟩⟩
theorem fX4_28 : ux_fl RX4 28 4 5 := ⟨RX4, TX4, tyX4, rfl, by decide, rfl, ux_iwX4, tyX4_ok, nmX4, Or.inl (ux_mem (n := 193) (by decide +kernel) (by decide +kernel))⟩
theorem fX5_198 : ux_fl RX5 198 4 5 := ⟨RX4, TX4, tyX4, rfl, by decide, rfl, ux_iwX4, tyX4_ok, nmX4, Or.inr ⟨"SubstituteDesk", ux_memN (n := 194) (by decide +kernel) (by decide +kernel)⟩⟩
theorem fX4_31 : ux_fl RX4 31 4 6 := ⟨RX4, TX4, tyX4, rfl, by decide, rfl, ux_iwX4, tyX4_ok, nmX4, Or.inl (ux_mem (n := 195) (by decide +kernel) (by decide +kernel))⟩
theorem fX3_69 : ux_fl RX3 69 4 6 := ⟨RX4, TX4, tyX4, rfl, by decide, rfl, ux_iwX4, tyX4_ok, nmX4, Or.inr ⟨"SubstituteDesk", ux_memN (n := 196) (by decide +kernel) (by decide +kernel)⟩⟩
theorem fX5_96 : ux_fl RX5 96 4 6 := ⟨RX4, TX4, tyX4, rfl, by decide, rfl, ux_iwX4, tyX4_ok, nmX4, Or.inr ⟨"SubstituteDesk", ux_memN (n := 197) (by decide +kernel) (by decide +kernel)⟩⟩
theorem fX4_34 : ux_fl RX4 34 4 7 := ⟨RX4, TX4, tyX4, rfl, by decide, rfl, ux_iwX4, tyX4_ok, nmX4, Or.inl (ux_mem (n := 198) (by decide +kernel) (by decide +kernel))⟩
theorem fX5_201 : ux_fl RX5 201 4 7 := ⟨RX4, TX4, tyX4, rfl, by decide, rfl, ux_iwX4, tyX4_ok, nmX4, Or.inr ⟨"SubstituteDesk", ux_memN (n := 199) (by decide +kernel) (by decide +kernel)⟩⟩
theorem fX4_37 : ux_fl RX4 37 4 8 := ⟨RX4, TX4, tyX4, rfl, by decide, rfl, ux_iwX4, tyX4_ok, nmX4, Or.inl (ux_mem (n := 200) (by decide +kernel) (by decide +kernel))⟩
theorem fX4_40 : ux_fl RX4 40 4 9 := ⟨RX4, TX4, tyX4, rfl, by decide, rfl, ux_iwX4, tyX4_ok, nmX4, Or.inl (ux_mem (n := 201) (by decide +kernel) (by decide +kernel))⟩
theorem fX5_114 : ux_fl RX5 114 4 9 := ⟨RX4, TX4, tyX4, rfl, by decide, rfl, ux_iwX4, tyX4_ok, nmX4, Or.inr ⟨"SubstituteDesk", ux_memN (n := 202) (by decide +kernel) (by decide +kernel)⟩⟩
theorem fX4_43 : ux_fl RX4 43 4 10 := ⟨RX4, TX4, tyX4, rfl, by decide, rfl, ux_iwX4, tyX4_ok, nmX4, Or.inl (ux_mem (n := 203) (by decide +kernel) (by decide +kernel))⟩
theorem fX5_122 : ux_fl RX5 122 4 10 := ⟨RX4, TX4, tyX4, rfl, by decide, rfl, ux_iwX4, tyX4_ok, nmX4, Or.inr ⟨"SubstituteDesk", ux_memN (n := 204) (by decide +kernel) (by decide +kernel)⟩⟩
theorem fX4_46 : ux_fl RX4 46 4 11 := ⟨RX4, TX4, tyX4, rfl, by decide, rfl, ux_iwX4, tyX4_ok, nmX4, Or.inl (ux_mem (n := 205) (by decide +kernel) (by decide +kernel))⟩
theorem fX2_19 : ux_fl RX2 19 4 11 := ⟨RX4, TX4, tyX4, rfl, by decide, rfl, ux_iwX4, tyX4_ok, nmX4, Or.inr ⟨"SubstituteDesk", ux_memN (n := 206) (by decide +kernel) (by decide +kernel)⟩⟩
theorem fX3_99 : ux_fl RX3 99 4 11 := ⟨RX4, TX4, tyX4, rfl, by decide, rfl, ux_iwX4, tyX4_ok, nmX4, Or.inr ⟨"SubstituteDesk", ux_memN (n := 207) (by decide +kernel) (by decide +kernel)⟩⟩
theorem fX5_170 : ux_fl RX5 170 4 11 := ⟨RX4, TX4, tyX4, rfl, by decide, rfl, ux_iwX4, tyX4_ok, nmX4, Or.inr ⟨"SubstituteDesk", ux_memN (n := 208) (by decide +kernel) (by decide +kernel)⟩⟩
theorem fX4_49 : ux_fl RX4 49 4 12 := ⟨RX4, TX4, tyX4, rfl, by decide, rfl, ux_iwX4, tyX4_ok, nmX4, Or.inl (ux_mem (n := 209) (by decide +kernel) (by decide +kernel))⟩
theorem fX2_37 : ux_fl RX2 37 4 12 := ⟨RX4, TX4, tyX4, rfl, by decide, rfl, ux_iwX4, tyX4_ok, nmX4, Or.inr ⟨"SubstituteDesk", ux_memN (n := 210) (by decide +kernel) (by decide +kernel)⟩⟩
theorem fX5_177 : ux_fl RX5 177 4 12 := ⟨RX4, TX4, tyX4, rfl, by decide, rfl, ux_iwX4, tyX4_ok, nmX4, Or.inr ⟨"SubstituteDesk", ux_memN (n := 211) (by decide +kernel) (by decide +kernel)⟩⟩
theorem fX4_52 : ux_fl RX4 52 4 13 := ⟨RX4, TX4, tyX4, rfl, by decide, rfl, ux_iwX4, tyX4_ok, nmX4, Or.inl (ux_mem (n := 212) (by decide +kernel) (by decide +kernel))⟩
theorem fX2_40 : ux_fl RX2 40 4 13 := ⟨RX4, TX4, tyX4, rfl, by decide, rfl, ux_iwX4, tyX4_ok, nmX4, Or.inr ⟨"SubstituteDesk", ux_memN (n := 213) (by decide +kernel) (by decide +kernel)⟩⟩
theorem fX5_180 : ux_fl RX5 180 4 13 := ⟨RX4, TX4, tyX4, rfl, by decide, rfl, ux_iwX4, tyX4_ok, nmX4, Or.inr ⟨"SubstituteDesk", ux_memN (n := 214) (by decide +kernel) (by decide +kernel)⟩⟩
theorem fX4_55 : ux_fl RX4 55 4 14 := ⟨RX4, TX4, tyX4, rfl, by decide, rfl, ux_iwX4, tyX4_ok, nmX4, Or.inl (ux_mem (n := 215) (by decide +kernel) (by decide +kernel))⟩
theorem fX2_43 : ux_fl RX2 43 4 14 := ⟨RX4, TX4, tyX4, rfl, by decide, rfl, ux_iwX4, tyX4_ok, nmX4, Or.inr ⟨"SubstituteDesk", ux_memN (n := 216) (by decide +kernel) (by decide +kernel)⟩⟩
theorem fX5_183 : ux_fl RX5 183 4 14 := ⟨RX4, TX4, tyX4, rfl, by decide, rfl, ux_iwX4, tyX4_ok, nmX4, Or.inr ⟨"SubstituteDesk", ux_memN (n := 217) (by decide +kernel) (by decide +kernel)⟩⟩
theorem fX4_58 : ux_fl RX4 58 4 15 := ⟨RX4, TX4, tyX4, rfl, by decide, rfl, ux_iwX4, tyX4_ok, nmX4, Or.inl (ux_mem (n := 218) (by decide +kernel) (by decide +kernel))⟩
theorem fX2_46 : ux_fl RX2 46 4 15 := ⟨RX4, TX4, tyX4, rfl, by decide, rfl, ux_iwX4, tyX4_ok, nmX4, Or.inr ⟨"SubstituteDesk", ux_memN (n := 219) (by decide +kernel) (by decide +kernel)⟩⟩
theorem fX5_155 : ux_fl RX5 155 4 15 := ⟨RX4, TX4, tyX4, rfl, by decide, rfl, ux_iwX4, tyX4_ok, nmX4, Or.inr ⟨"SubstituteDesk", ux_memN (n := 220) (by decide +kernel) (by decide +kernel)⟩⟩
theorem fX4_61 : ux_fl RX4 61 4 16 := ⟨RX4, TX4, tyX4, rfl, by decide, rfl, ux_iwX4, tyX4_ok, nmX4, Or.inl (ux_mem (n := 221) (by decide +kernel) (by decide +kernel))⟩
theorem fX4_64 : ux_fl RX4 64 4 17 := ⟨RX4, TX4, tyX4, rfl, by decide, rfl, ux_iwX4, tyX4_ok, nmX4, Or.inl (ux_mem (n := 222) (by decide +kernel) (by decide +kernel))⟩
theorem fX5_303 : ux_fl RX5 303 4 17 := ⟨RX4, TX4, tyX4, rfl, by decide, rfl, ux_iwX4, tyX4_ok, nmX4, Or.inr ⟨"SubstituteDesk", ux_memN (n := 223) (by decide +kernel) (by decide +kernel)⟩⟩
theorem fX4_67 : ux_fl RX4 67 4 18 := ⟨RX4, TX4, tyX4, rfl, by decide, rfl, ux_iwX4, tyX4_ok, nmX4, Or.inl (ux_mem (n := 224) (by decide +kernel) (by decide +kernel))⟩
theorem fX5_300 : ux_fl RX5 300 4 18 := ⟨RX4, TX4, tyX4, rfl, by decide, rfl, ux_iwX4, tyX4_ok, nmX4, Or.inr ⟨"SubstituteDesk", ux_memN (n := 225) (by decide +kernel) (by decide +kernel)⟩⟩
theorem fX0_11 : ux_fl RX0 11 0 0 := ⟨RX0, TX0, tyX0, rfl, by decide, rfl, ux_iwX0, tyX0_ok, nmX0, Or.inl (ux_mem (n := 275) (by decide +kernel) (by decide +kernel))⟩
theorem fX0_17 : ux_fl RX0 17 0 1 := ⟨RX0, TX0, tyX0, rfl, by decide, rfl, ux_iwX0, tyX0_ok, nmX0, Or.inl (ux_mem (n := 276) (by decide +kernel) (by decide +kernel))⟩
theorem pX0_17 : ux_pf RX0 17 0 1 .int := ⟨RX0, TX0, tyX0, rfl, by decide, rfl, ux_iwX0, tyX0_ok, nmX0, Or.inl (ux_mem (n := 276) (by decide +kernel) (by decide +kernel)), rfl, by decide +kernel⟩
theorem fX0_21 : ux_fl RX0 21 0 2 := ⟨RX0, TX0, tyX0, rfl, by decide, rfl, ux_iwX0, tyX0_ok, nmX0, Or.inl (ux_mem (n := 277) (by decide +kernel) (by decide +kernel))⟩
theorem pX0_21 : ux_pf RX0 21 0 2 .int := ⟨RX0, TX0, tyX0, rfl, by decide, rfl, ux_iwX0, tyX0_ok, nmX0, Or.inl (ux_mem (n := 277) (by decide +kernel) (by decide +kernel)), rfl, by decide +kernel⟩
theorem fX5_403 : ux_fl RX5 403 0 2 := ⟨RX0, TX0, tyX0, rfl, by decide, rfl, ux_iwX0, tyX0_ok, nmX0, Or.inr ⟨"SubstituteDesk", ux_memN (n := 278) (by decide +kernel) (by decide +kernel)⟩⟩
theorem pX5_403 : ux_pf RX5 403 0 2 .int := ⟨RX0, TX0, tyX0, rfl, by decide, rfl, ux_iwX0, tyX0_ok, nmX0, Or.inr ⟨"SubstituteDesk", ux_memN (n := 278) (by decide +kernel) (by decide +kernel)⟩, rfl, by decide +kernel⟩
theorem fX3_9 : ux_fl RX3 9 3 0 := ⟨RX3, TX3, tyX3, rfl, by decide, rfl, ux_iwX3, tyX3_ok, nmX3, Or.inl (ux_mem (n := 292) (by decide +kernel) (by decide +kernel))⟩
theorem fX5_335 : ux_fl RX5 335 3 0 := ⟨RX3, TX3, tyX3, rfl, by decide, rfl, ux_iwX3, tyX3_ok, nmX3, Or.inr ⟨"SubstituteDesk", ux_memN (n := 293) (by decide +kernel) (by decide +kernel)⟩⟩
theorem fX3_15 : ux_fl RX3 15 3 1 := ⟨RX3, TX3, tyX3, rfl, by decide, rfl, ux_iwX3, tyX3_ok, nmX3, Or.inl (ux_mem (n := 294) (by decide +kernel) (by decide +kernel))⟩
theorem fX3_18 : ux_fl RX3 18 3 2 := ⟨RX3, TX3, tyX3, rfl, by decide, rfl, ux_iwX3, tyX3_ok, nmX3, Or.inl (ux_mem (n := 295) (by decide +kernel) (by decide +kernel))⟩
theorem fX3_21 : ux_fl RX3 21 3 3 := ⟨RX3, TX3, tyX3, rfl, by decide, rfl, ux_iwX3, tyX3_ok, nmX3, Or.inl (ux_mem (n := 296) (by decide +kernel) (by decide +kernel))⟩
theorem fX3_24 : ux_fl RX3 24 3 4 := ⟨RX3, TX3, tyX3, rfl, by decide, rfl, ux_iwX3, tyX3_ok, nmX3, Or.inl (ux_mem (n := 297) (by decide +kernel) (by decide +kernel))⟩
theorem fX5_332 : ux_fl RX5 332 3 4 := ⟨RX3, TX3, tyX3, rfl, by decide, rfl, ux_iwX3, tyX3_ok, nmX3, Or.inr ⟨"SubstituteDesk", ux_memN (n := 298) (by decide +kernel) (by decide +kernel)⟩⟩
theorem fX3_27 : ux_fl RX3 27 3 5 := ⟨RX3, TX3, tyX3, rfl, by decide, rfl, ux_iwX3, tyX3_ok, nmX3, Or.inl (ux_mem (n := 299) (by decide +kernel) (by decide +kernel))⟩
theorem fX3_30 : ux_fl RX3 30 3 6 := ⟨RX3, TX3, tyX3, rfl, by decide, rfl, ux_iwX3, tyX3_ok, nmX3, Or.inl (ux_mem (n := 300) (by decide +kernel) (by decide +kernel))⟩
theorem fX3_33 : ux_fl RX3 33 3 7 := ⟨RX3, TX3, tyX3, rfl, by decide, rfl, ux_iwX3, tyX3_ok, nmX3, Or.inl (ux_mem (n := 301) (by decide +kernel) (by decide +kernel))⟩
theorem fX3_36 : ux_fl RX3 36 3 8 := ⟨RX3, TX3, tyX3, rfl, by decide, rfl, ux_iwX3, tyX3_ok, nmX3, Or.inl (ux_mem (n := 302) (by decide +kernel) (by decide +kernel))⟩
theorem pX3_36 : ux_pf RX3 36 3 8 .int := ⟨RX3, TX3, tyX3, rfl, by decide, rfl, ux_iwX3, tyX3_ok, nmX3, Or.inl (ux_mem (n := 302) (by decide +kernel) (by decide +kernel)), rfl, by decide +kernel⟩
theorem fX3_40 : ux_fl RX3 40 3 9 := ⟨RX3, TX3, tyX3, rfl, by decide, rfl, ux_iwX3, tyX3_ok, nmX3, Or.inl (ux_mem (n := 303) (by decide +kernel) (by decide +kernel))⟩
theorem pX3_40 : ux_pf RX3 40 3 9 .int := ⟨RX3, TX3, tyX3, rfl, by decide, rfl, ux_iwX3, tyX3_ok, nmX3, Or.inl (ux_mem (n := 303) (by decide +kernel) (by decide +kernel)), rfl, by decide +kernel⟩
theorem fX5_327 : ux_fl RX5 327 3 9 := ⟨RX3, TX3, tyX3, rfl, by decide, rfl, ux_iwX3, tyX3_ok, nmX3, Or.inr ⟨"SubstituteDesk", ux_memN (n := 304) (by decide +kernel) (by decide +kernel)⟩⟩
theorem pX5_327 : ux_pf RX5 327 3 9 .int := ⟨RX3, TX3, tyX3, rfl, by decide, rfl, ux_iwX3, tyX3_ok, nmX3, Or.inr ⟨"SubstituteDesk", ux_memN (n := 304) (by decide +kernel) (by decide +kernel)⟩, rfl, by decide +kernel⟩
theorem fX3_43 : ux_fl RX3 43 3 10 := ⟨RX3, TX3, tyX3, rfl, by decide, rfl, ux_iwX3, tyX3_ok, nmX3, Or.inl (ux_mem (n := 305) (by decide +kernel) (by decide +kernel))⟩
theorem pX3_43 : ux_pf RX3 43 3 10 .int := ⟨RX3, TX3, tyX3, rfl, by decide, rfl, ux_iwX3, tyX3_ok, nmX3, Or.inl (ux_mem (n := 305) (by decide +kernel) (by decide +kernel)), rfl, by decide +kernel⟩
theorem fX5_338 : ux_fl RX5 338 3 10 := ⟨RX3, TX3, tyX3, rfl, by decide, rfl, ux_iwX3, tyX3_ok, nmX3, Or.inr ⟨"SubstituteDesk", ux_memN (n := 306) (by decide +kernel) (by decide +kernel)⟩⟩
theorem pX5_338 : ux_pf RX5 338 3 10 .int := ⟨RX3, TX3, tyX3, rfl, by decide, rfl, ux_iwX3, tyX3_ok, nmX3, Or.inr ⟨"SubstituteDesk", ux_memN (n := 306) (by decide +kernel) (by decide +kernel)⟩, rfl, by decide +kernel⟩
theorem fX3_46 : ux_fl RX3 46 3 11 := ⟨RX3, TX3, tyX3, rfl, by decide, rfl, ux_iwX3, tyX3_ok, nmX3, Or.inl (ux_mem (n := 307) (by decide +kernel) (by decide +kernel))⟩
theorem pX3_46 : ux_pf RX3 46 3 11 .int := ⟨RX3, TX3, tyX3, rfl, by decide, rfl, ux_iwX3, tyX3_ok, nmX3, Or.inl (ux_mem (n := 307) (by decide +kernel) (by decide +kernel)), rfl, by decide +kernel⟩
theorem fX5_324 : ux_fl RX5 324 3 11 := ⟨RX3, TX3, tyX3, rfl, by decide, rfl, ux_iwX3, tyX3_ok, nmX3, Or.inr ⟨"SubstituteDesk", ux_memN (n := 308) (by decide +kernel) (by decide +kernel)⟩⟩
theorem pX5_324 : ux_pf RX5 324 3 11 .int := ⟨RX3, TX3, tyX3, rfl, by decide, rfl, ux_iwX3, tyX3_ok, nmX3, Or.inr ⟨"SubstituteDesk", ux_memN (n := 308) (by decide +kernel) (by decide +kernel)⟩, rfl, by decide +kernel⟩
theorem fX1_9 : ux_fl RX1 9 1 0 := ⟨RX1, TX1, tyX1, rfl, by decide, rfl, ux_iwX1, tyX1_ok, nmX1, Or.inl (ux_mem (n := 340) (by decide +kernel) (by decide +kernel))⟩
theorem fX1_15 : ux_fl RX1 15 1 1 := ⟨RX1, TX1, tyX1, rfl, by decide, rfl, ux_iwX1, tyX1_ok, nmX1, Or.inl (ux_mem (n := 341) (by decide +kernel) (by decide +kernel))⟩
theorem pX1_15 : ux_pf RX1 15 1 1 .int := ⟨RX1, TX1, tyX1, rfl, by decide, rfl, ux_iwX1, tyX1_ok, nmX1, Or.inl (ux_mem (n := 341) (by decide +kernel) (by decide +kernel)), rfl, by decide +kernel⟩
theorem fX5_362 : ux_fl RX5 362 1 1 := ⟨RX1, TX1, tyX1, rfl, by decide, rfl, ux_iwX1, tyX1_ok, nmX1, Or.inr ⟨"SubstituteDesk", ux_memN (n := 342) (by decide +kernel) (by decide +kernel)⟩⟩
theorem pX5_362 : ux_pf RX5 362 1 1 .int := ⟨RX1, TX1, tyX1, rfl, by decide, rfl, ux_iwX1, tyX1_ok, nmX1, Or.inr ⟨"SubstituteDesk", ux_memN (n := 342) (by decide +kernel) (by decide +kernel)⟩, rfl, by decide +kernel⟩
theorem fX1_19 : ux_fl RX1 19 1 2 := ⟨RX1, TX1, tyX1, rfl, by decide, rfl, ux_iwX1, tyX1_ok, nmX1, Or.inl (ux_mem (n := 343) (by decide +kernel) (by decide +kernel))⟩
theorem pX1_19 : ux_pf RX1 19 1 2 .int := ⟨RX1, TX1, tyX1, rfl, by decide, rfl, ux_iwX1, tyX1_ok, nmX1, Or.inl (ux_mem (n := 343) (by decide +kernel) (by decide +kernel)), rfl, by decide +kernel⟩
theorem fX1_22 : ux_fl RX1 22 1 3 := ⟨RX1, TX1, tyX1, rfl, by decide, rfl, ux_iwX1, tyX1_ok, nmX1, Or.inl (ux_mem (n := 344) (by decide +kernel) (by decide +kernel))⟩
theorem pX1_22 : ux_pf RX1 22 1 3 .char := ⟨RX1, TX1, tyX1, rfl, by decide, rfl, ux_iwX1, tyX1_ok, nmX1, Or.inl (ux_mem (n := 344) (by decide +kernel) (by decide +kernel)), rfl, by decide +kernel⟩
theorem fX1_26 : ux_fl RX1 26 1 4 := ⟨RX1, TX1, tyX1, rfl, by decide, rfl, ux_iwX1, tyX1_ok, nmX1, Or.inl (ux_mem (n := 345) (by decide +kernel) (by decide +kernel))⟩
theorem pX1_26 : ux_pf RX1 26 1 4 .int := ⟨RX1, TX1, tyX1, rfl, by decide, rfl, ux_iwX1, tyX1_ok, nmX1, Or.inl (ux_mem (n := 345) (by decide +kernel) (by decide +kernel)), rfl, by decide +kernel⟩
theorem fX1_29 : ux_fl RX1 29 1 5 := ⟨RX1, TX1, tyX1, rfl, by decide, rfl, ux_iwX1, tyX1_ok, nmX1, Or.inl (ux_mem (n := 346) (by decide +kernel) (by decide +kernel))⟩
theorem pX1_29 : ux_pf RX1 29 1 5 .int := ⟨RX1, TX1, tyX1, rfl, by decide, rfl, ux_iwX1, tyX1_ok, nmX1, Or.inl (ux_mem (n := 346) (by decide +kernel) (by decide +kernel)), rfl, by decide +kernel⟩
theorem fX1_32 : ux_fl RX1 32 1 6 := ⟨RX1, TX1, tyX1, rfl, by decide, rfl, ux_iwX1, tyX1_ok, nmX1, Or.inl (ux_mem (n := 347) (by decide +kernel) (by decide +kernel))⟩
theorem pX1_32 : ux_pf RX1 32 1 6 .int := ⟨RX1, TX1, tyX1, rfl, by decide, rfl, ux_iwX1, tyX1_ok, nmX1, Or.inl (ux_mem (n := 347) (by decide +kernel) (by decide +kernel)), rfl, by decide +kernel⟩
theorem fX1_35 : ux_fl RX1 35 1 7 := ⟨RX1, TX1, tyX1, rfl, by decide, rfl, ux_iwX1, tyX1_ok, nmX1, Or.inl (ux_mem (n := 348) (by decide +kernel) (by decide +kernel))⟩
theorem pX1_35 : ux_pf RX1 35 1 7 .int := ⟨RX1, TX1, tyX1, rfl, by decide, rfl, ux_iwX1, tyX1_ok, nmX1, Or.inl (ux_mem (n := 348) (by decide +kernel) (by decide +kernel)), rfl, by decide +kernel⟩
theorem fX1_38 : ux_fl RX1 38 1 8 := ⟨RX1, TX1, tyX1, rfl, by decide, rfl, ux_iwX1, tyX1_ok, nmX1, Or.inl (ux_mem (n := 349) (by decide +kernel) (by decide +kernel))⟩
theorem pX1_38 : ux_pf RX1 38 1 8 .int := ⟨RX1, TX1, tyX1, rfl, by decide, rfl, ux_iwX1, tyX1_ok, nmX1, Or.inl (ux_mem (n := 349) (by decide +kernel) (by decide +kernel)), rfl, by decide +kernel⟩
theorem fX1_41 : ux_fl RX1 41 1 9 := ⟨RX1, TX1, tyX1, rfl, by decide, rfl, ux_iwX1, tyX1_ok, nmX1, Or.inl (ux_mem (n := 350) (by decide +kernel) (by decide +kernel))⟩
theorem pX1_41 : ux_pf RX1 41 1 9 .int := ⟨RX1, TX1, tyX1, rfl, by decide, rfl, ux_iwX1, tyX1_ok, nmX1, Or.inl (ux_mem (n := 350) (by decide +kernel) (by decide +kernel)), rfl, by decide +kernel⟩
theorem fX1_44 : ux_fl RX1 44 1 10 := ⟨RX1, TX1, tyX1, rfl, by decide, rfl, ux_iwX1, tyX1_ok, nmX1, Or.inl (ux_mem (n := 351) (by decide +kernel) (by decide +kernel))⟩
theorem pX1_44 : ux_pf RX1 44 1 10 .int := ⟨RX1, TX1, tyX1, rfl, by decide, rfl, ux_iwX1, tyX1_ok, nmX1, Or.inl (ux_mem (n := 351) (by decide +kernel) (by decide +kernel)), rfl, by decide +kernel⟩
theorem fX2_9 : ux_fl RX2 9 2 0 := ⟨RX2, TX2, tyX2, rfl, by decide, rfl, ux_iwX2, tyX2_ok, nmX2, Or.inl (ux_mem (n := 382) (by decide +kernel) (by decide +kernel))⟩
theorem fX5_395 : ux_fl RX5 395 2 0 := ⟨RX2, TX2, tyX2, rfl, by decide, rfl, ux_iwX2, tyX2_ok, nmX2, Or.inr ⟨"SubstituteDesk", ux_memN (n := 383) (by decide +kernel) (by decide +kernel)⟩⟩
theorem fX2_15 : ux_fl RX2 15 2 1 := ⟨RX2, TX2, tyX2, rfl, by decide, rfl, ux_iwX2, tyX2_ok, nmX2, Or.inl (ux_mem (n := 384) (by decide +kernel) (by decide +kernel))⟩
theorem pX2_15 : ux_pf RX2 15 2 1 .int := ⟨RX2, TX2, tyX2, rfl, by decide, rfl, ux_iwX2, tyX2_ok, nmX2, Or.inl (ux_mem (n := 384) (by decide +kernel) (by decide +kernel)), rfl, by decide +kernel⟩
theorem fX5_392 : ux_fl RX5 392 2 1 := ⟨RX2, TX2, tyX2, rfl, by decide, rfl, ux_iwX2, tyX2_ok, nmX2, Or.inr ⟨"SubstituteDesk", ux_memN (n := 385) (by decide +kernel) (by decide +kernel)⟩⟩
theorem pX5_392 : ux_pf RX5 392 2 1 .int := ⟨RX2, TX2, tyX2, rfl, by decide, rfl, ux_iwX2, tyX2_ok, nmX2, Or.inr ⟨"SubstituteDesk", ux_memN (n := 385) (by decide +kernel) (by decide +kernel)⟩, rfl, by decide +kernel⟩
theorem fX5_10 : ux_fl RX5 10 5 0 := ⟨RX5, TX5, tyX5, rfl, by decide, rfl, ux_iwX5, tyX5_ok, nmX5, Or.inl (ux_mem (n := 391) (by decide +kernel) (by decide +kernel))⟩
theorem fX5_16 : ux_fl RX5 16 5 1 := ⟨RX5, TX5, tyX5, rfl, by decide, rfl, ux_iwX5, tyX5_ok, nmX5, Or.inl (ux_mem (n := 392) (by decide +kernel) (by decide +kernel))⟩
theorem fX5_19 : ux_fl RX5 19 5 2 := ⟨RX5, TX5, tyX5, rfl, by decide, rfl, ux_iwX5, tyX5_ok, nmX5, Or.inl (ux_mem (n := 393) (by decide +kernel) (by decide +kernel))⟩
theorem fX5_25 : ux_fl RX5 25 5 3 := ⟨RX5, TX5, tyX5, rfl, by decide, rfl, ux_iwX5, tyX5_ok, nmX5, Or.inl (ux_mem (n := 394) (by decide +kernel) (by decide +kernel))⟩
theorem fX5_32 : ux_fl RX5 32 5 4 := ⟨RX5, TX5, tyX5, rfl, by decide, rfl, ux_iwX5, tyX5_ok, nmX5, Or.inl (ux_mem (n := 395) (by decide +kernel) (by decide +kernel))⟩
theorem fX5_39 : ux_fl RX5 39 5 5 := ⟨RX5, TX5, tyX5, rfl, by decide, rfl, ux_iwX5, tyX5_ok, nmX5, Or.inl (ux_mem (n := 396) (by decide +kernel) (by decide +kernel))⟩
theorem fX5_46 : ux_fl RX5 46 5 6 := ⟨RX5, TX5, tyX5, rfl, by decide, rfl, ux_iwX5, tyX5_ok, nmX5, Or.inl (ux_mem (n := 397) (by decide +kernel) (by decide +kernel))⟩
theorem fX5_50 : ux_fl RX5 50 5 7 := ⟨RX5, TX5, tyX5, rfl, by decide, rfl, ux_iwX5, tyX5_ok, nmX5, Or.inl (ux_mem (n := 398) (by decide +kernel) (by decide +kernel))⟩
theorem pX5_50 : ux_pf RX5 50 5 7 .boolean := ⟨RX5, TX5, tyX5, rfl, by decide, rfl, ux_iwX5, tyX5_ok, nmX5, Or.inl (ux_mem (n := 398) (by decide +kernel) (by decide +kernel)), rfl, by decide +kernel⟩
theorem fX5_54 : ux_fl RX5 54 5 8 := ⟨RX5, TX5, tyX5, rfl, by decide, rfl, ux_iwX5, tyX5_ok, nmX5, Or.inl (ux_mem (n := 399) (by decide +kernel) (by decide +kernel))⟩
theorem pX5_54 : ux_pf RX5 54 5 8 .int := ⟨RX5, TX5, tyX5, rfl, by decide, rfl, ux_iwX5, tyX5_ok, nmX5, Or.inl (ux_mem (n := 399) (by decide +kernel) (by decide +kernel)), rfl, by decide +kernel⟩
theorem fX5_58 : ux_fl RX5 58 5 9 := ⟨RX5, TX5, tyX5, rfl, by decide, rfl, ux_iwX5, tyX5_ok, nmX5, Or.inl (ux_mem (n := 400) (by decide +kernel) (by decide +kernel))⟩
theorem pX5_58 : ux_pf RX5 58 5 9 .int := ⟨RX5, TX5, tyX5, rfl, by decide, rfl, ux_iwX5, tyX5_ok, nmX5, Or.inl (ux_mem (n := 400) (by decide +kernel) (by decide +kernel)), rfl, by decide +kernel⟩
theorem fX6_44 : ux_fl RX6 44 6 0 := ⟨RX6, TX6, tyX6, rfl, by decide, rfl, ux_iwX6, tyX6_ok, nmX6, Or.inl (ux_mem (n := 1360) (by decide +kernel) (by decide +kernel))⟩
theorem pX6_44 : ux_pf RX6 44 6 0 .int := ⟨RX6, TX6, tyX6, rfl, by decide, rfl, ux_iwX6, tyX6_ok, nmX6, Or.inl (ux_mem (n := 1360) (by decide +kernel) (by decide +kernel)), rfl, by decide +kernel⟩
theorem fX6_9 : ux_fl RX6 9 6 1 := ⟨RX6, TX6, tyX6, rfl, by decide, rfl, ux_iwX6, tyX6_ok, nmX6, Or.inl (ux_mem (n := 1361) (by decide +kernel) (by decide +kernel))⟩
theorem fX6_13 : ux_fl RX6 13 6 2 := ⟨RX6, TX6, tyX6, rfl, by decide, rfl, ux_iwX6, tyX6_ok, nmX6, Or.inl (ux_mem (n := 1362) (by decide +kernel) (by decide +kernel))⟩
theorem fX6_261 : ux_fl RX6 261 6 3 := ⟨RX6, TX6, tyX6, rfl, by decide, rfl, ux_iwX6, tyX6_ok, nmX6, Or.inl (ux_mem (n := 1363) (by decide +kernel) (by decide +kernel))⟩
theorem pX6_261 : ux_pf RX6 261 6 3 .boolean := ⟨RX6, TX6, tyX6, rfl, by decide, rfl, ux_iwX6, tyX6_ok, nmX6, Or.inl (ux_mem (n := 1363) (by decide +kernel) (by decide +kernel)), rfl, by decide +kernel⟩
theorem fX6_16 : ux_fl RX6 16 6 4 := ⟨RX6, TX6, tyX6, rfl, by decide, rfl, ux_iwX6, tyX6_ok, nmX6, Or.inl (ux_mem (n := 1364) (by decide +kernel) (by decide +kernel))⟩
theorem fX6_19 : ux_fl RX6 19 6 5 := ⟨RX6, TX6, tyX6, rfl, by decide, rfl, ux_iwX6, tyX6_ok, nmX6, Or.inl (ux_mem (n := 1365) (by decide +kernel) (by decide +kernel))⟩
theorem fX6_65 : ux_fl RX6 65 6 6 := ⟨RX6, TX6, tyX6, rfl, by decide, rfl, ux_iwX6, tyX6_ok, nmX6, Or.inl (ux_mem (n := 1366) (by decide +kernel) (by decide +kernel))⟩
theorem pX6_65 : ux_pf RX6 65 6 6 .int := ⟨RX6, TX6, tyX6, rfl, by decide, rfl, ux_iwX6, tyX6_ok, nmX6, Or.inl (ux_mem (n := 1366) (by decide +kernel) (by decide +kernel)), rfl, by decide +kernel⟩
theorem fX6_22 : ux_fl RX6 22 6 7 := ⟨RX6, TX6, tyX6, rfl, by decide, rfl, ux_iwX6, tyX6_ok, nmX6, Or.inl (ux_mem (n := 1367) (by decide +kernel) (by decide +kernel))⟩
theorem fX6_228 : ux_fl RX6 228 6 8 := ⟨RX6, TX6, tyX6, rfl, by decide, rfl, ux_iwX6, tyX6_ok, nmX6, Or.inl (ux_mem (n := 1368) (by decide +kernel) (by decide +kernel))⟩
theorem pX6_228 : ux_pf RX6 228 6 8 .int := ⟨RX6, TX6, tyX6, rfl, by decide, rfl, ux_iwX6, tyX6_ok, nmX6, Or.inl (ux_mem (n := 1368) (by decide +kernel) (by decide +kernel)), rfl, by decide +kernel⟩
theorem fX6_25 : ux_fl RX6 25 6 9 := ⟨RX6, TX6, tyX6, rfl, by decide, rfl, ux_iwX6, tyX6_ok, nmX6, Or.inl (ux_mem (n := 1369) (by decide +kernel) (by decide +kernel))⟩
theorem pX6_25 : ux_pf RX6 25 6 9 .int := ⟨RX6, TX6, tyX6, rfl, by decide, rfl, ux_iwX6, tyX6_ok, nmX6, Or.inl (ux_mem (n := 1369) (by decide +kernel) (by decide +kernel)), rfl, by decide +kernel⟩
theorem fX6_191 : ux_fl RX6 191 6 10 := ⟨RX6, TX6, tyX6, rfl, by decide, rfl, ux_iwX6, tyX6_ok, nmX6, Or.inl (ux_mem (n := 1370) (by decide +kernel) (by decide +kernel))⟩
theorem pX6_191 : ux_pf RX6 191 6 10 .int := ⟨RX6, TX6, tyX6, rfl, by decide, rfl, ux_iwX6, tyX6_ok, nmX6, Or.inl (ux_mem (n := 1370) (by decide +kernel) (by decide +kernel)), rfl, by decide +kernel⟩
theorem fX6_231 : ux_fl RX6 231 6 11 := ⟨RX6, TX6, tyX6, rfl, by decide, rfl, ux_iwX6, tyX6_ok, nmX6, Or.inl (ux_mem (n := 1371) (by decide +kernel) (by decide +kernel))⟩
theorem pX6_231 : ux_pf RX6 231 6 11 .int := ⟨RX6, TX6, tyX6, rfl, by decide, rfl, ux_iwX6, tyX6_ok, nmX6, Or.inl (ux_mem (n := 1371) (by decide +kernel) (by decide +kernel)), rfl, by decide +kernel⟩
theorem fX6_29 : ux_fl RX6 29 6 12 := ⟨RX6, TX6, tyX6, rfl, by decide, rfl, ux_iwX6, tyX6_ok, nmX6, Or.inl (ux_mem (n := 1372) (by decide +kernel) (by decide +kernel))⟩
theorem fX6_32 : ux_fl RX6 32 6 13 := ⟨RX6, TX6, tyX6, rfl, by decide, rfl, ux_iwX6, tyX6_ok, nmX6, Or.inl (ux_mem (n := 1373) (by decide +kernel) (by decide +kernel))⟩
theorem fX6_35 : ux_fl RX6 35 6 14 := ⟨RX6, TX6, tyX6, rfl, by decide, rfl, ux_iwX6, tyX6_ok, nmX6, Or.inl (ux_mem (n := 1374) (by decide +kernel) (by decide +kernel))⟩
theorem fX6_214 : ux_fl RX6 214 6 15 := ⟨RX6, TX6, tyX6, rfl, by decide, rfl, ux_iwX6, tyX6_ok, nmX6, Or.inl (ux_mem (n := 1375) (by decide +kernel) (by decide +kernel))⟩
theorem pX6_214 : ux_pf RX6 214 6 15 .int := ⟨RX6, TX6, tyX6, rfl, by decide, rfl, ux_iwX6, tyX6_ok, nmX6, Or.inl (ux_mem (n := 1375) (by decide +kernel) (by decide +kernel)), rfl, by decide +kernel⟩
theorem fX6_211 : ux_fl RX6 211 6 16 := ⟨RX6, TX6, tyX6, rfl, by decide, rfl, ux_iwX6, tyX6_ok, nmX6, Or.inl (ux_mem (n := 1376) (by decide +kernel) (by decide +kernel))⟩
theorem pX6_211 : ux_pf RX6 211 6 16 .int := ⟨RX6, TX6, tyX6, rfl, by decide, rfl, ux_iwX6, tyX6_ok, nmX6, Or.inl (ux_mem (n := 1376) (by decide +kernel) (by decide +kernel)), rfl, by decide +kernel⟩
theorem fX6_38 : ux_fl RX6 38 6 17 := ⟨RX6, TX6, tyX6, rfl, by decide, rfl, ux_iwX6, tyX6_ok, nmX6, Or.inl (ux_mem (n := 1377) (by decide +kernel) (by decide +kernel))⟩
