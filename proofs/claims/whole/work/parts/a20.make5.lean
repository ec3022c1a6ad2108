/-! THE MAKING OF THE WORLD: line, input, planner, history. -/
theorem en_k {G : ux_G} {k N t : Nat} {f : Nat → Int32} (hk : (ux_kd k = 10 ∧ t = 0) ∨ (ux_kd k = 11 ∧ t = 1)) (hN : ux_ln k = N) (h9 : k ≠ 202 ∧ k ≠ 203) (hf : ∀ j, f j = x0 k j) : .inl (G.2.2.2 t, N, .inl f) = ux_en G X0 k := by
  have e : f = xgi X0 k := funext fun j => by rw [X0_g h9, hf j]
  rcases hk with ⟨hk, rfl⟩ | ⟨hk, rfl⟩
  · rw [ux_en_i hk, hN, e]
  · rw [ux_en_c hk, hN, e]
theorem x0_z {k : Nat} (h : 180 ≤ k ∧ k ≠ 188 ∧ k ≠ 192 ∧ k ≠ 193) (j : Nat) : (0 : Int32) = x0 k j := by
  unfold x0
  rw [if_neg (by omega), if_neg (by omega), if_neg (by omega), if_neg (by omega), if_neg (by omega), if_neg (by omega)]
theorem sk_ok {G : ux_G} {k j : Nat} (h9 : k ≠ 202 ∧ k ≠ 203) (hr : ux_rf k j = none) (hx : x0 k j = 0) : gdf k j = ux_fv G X0 k j := by
  unfold gdf ux_fv
  rw [hr]
  show Value.int 0 = Value.int (xgi X0 k j)
  rw [X0_g h9, hx]
theorem gfs0 {G : ux_G} {k j : Nat} (hj : j < ux_ln k) : vp_V (gfs G k 0) j = gdf k j := by
  unfold vp_V gfs
  rw [List.getD_eq_getElem?_getD, List.getElem?_map, List.getElem?_range hj]
  rfl
theorem hf_of {G : ux_G} {k N : Nat} {ty : Nat → FieldType} (hN : ux_ln k = N) (h : ∀ j, j < N → defaultValue (ty j) = gdf k j) : ∀ j, j < N → defaultValue (ty j) = vp_V (gfs G k 0) j := fun j hj => by rw [gfs0 (by omega)]; exact h j hj
set_option maxRecDepth 100000 in
theorem c_Line {l : Launch} {G : ux_G} {O : List (Nat × va_E)} (al : ux_al G) (hO : ∀ k, k ≠ 176 → lk k O = none) : cx_M l G yX2_init iX2_init 1 2 [.ref 190] ((190, .inr (2, gfs G 190 0)) :: O) 191 O 192 := by
  refine cx_ent (b := true) (L' := [some (.ref 190)]) kX2_init rfl (fun _ => rfl) rfl rfl rfl ?_
  refine c_aload_n dX2_init_0 rfl ?_
  refine c_obj oX2 o_in o_cd dX2_init_1 (by decide) ⟨by decide, by decide⟩ (by decide) ?_
  refine c_aload_n dX2_init_4 rfl ?_
  refine c_bipush (v := nI 12) dX2_init_5 (by decide) ?_
  refine c_newa (t0 := 1) (N := 12) (k1 := 191) (du := 2) (a0 := (12, .inl (fun _ => 0))) dX2_init_7 rfl w_ac rfl (fun _ _ h => h) (fun _ => rfl) rfl (by decide) (by decide) al (by decide) (by decide) (by decide) (by decide) ?_
  refine c_O (ct_close (lk_ne (by decide) (hO 191 (by decide))) (en_k (by decide) rfl (by decide) (x0_z (by decide)))) ?_
  refine c_pr (q := 191) aX2_9 dX2_init_9 al rfl (by decide) rfl (by decide) (by decide) (fun _ => rfl) (fun _ => rfl) ?_
  refine c_aload_n dX2_init_12 rfl ?_
  refine c_iconst (v := 0) dX2_init_13 (by decide) ?_
  refine c_pi aX2_15 dX2_init_14 al rfl (by decide) rfl ((X0_g (by decide) _).trans (by decide)) (by decide) (by decide) (by decide) ?_
  refine c_O (ct_close (hO 190 (by decide)) (gfs_end (k := 190) (by decide))) ?_
  exact c_return dX2_init_17 rfl (by decide)
set_option maxRecDepth 100000 in
theorem c_Input {l : Launch} {G : ux_G} {O : List (Nat × va_E)} (al : ux_al G) (hO : ∀ k, k ≠ 176 → lk k O = none) : cx_M l G yX1_init iX1_init 1 12 [.ref 188] ((188, .inr (1, gfs G 188 0)) :: O) 189 O 190 := by
  refine cx_ent (b := true) (L' := [some (.ref 188)]) kX1_init rfl (fun _ => rfl) rfl rfl rfl ?_
  refine c_aload_n dX1_init_0 rfl ?_
  refine c_obj oX1 o_in o_cd dX1_init_1 (by decide) ⟨by decide, by decide⟩ (by decide) ?_
  refine c_aload_n dX1_init_4 rfl ?_
  refine c_bipush (v := nI 70) dX1_init_5 (by decide) ?_
  refine c_newa (t0 := 1) (N := 70) (k1 := 189) (du := 12) (a0 := (70, .inl (fun _ => 0))) dX1_init_7 rfl w_ac rfl (fun _ _ h => h) (fun _ => rfl) rfl (by decide) (by decide) al (by decide) (by decide) (by decide) (by decide) ?_
  refine c_O (ct_close (lk_ne (by decide) (hO 189 (by decide))) (en_k (by decide) rfl (by decide) (x0_z (by decide)))) ?_
  refine c_pr (q := 189) aX1_9 dX1_init_9 al rfl (by decide) rfl (by decide) (by decide) (fun _ => rfl) (fun _ => rfl) ?_
  refine c_aload_n dX1_init_12 rfl ?_
  refine c_iconst (v := 0) dX1_init_13 (by decide) ?_
  refine c_pi aX1_15 dX1_init_14 al rfl (by decide) rfl ((X0_g (by decide) _).trans (by decide)) (by decide) (by decide) (by decide) ?_
  refine c_aload_n dX1_init_17 rfl ?_
  refine c_iconst (v := 0) dX1_init_18 (by decide) ?_
  refine c_pi aX1_19 dX1_init_19 al rfl (by decide) rfl ((X0_g (by decide) _).trans (by decide)) (by decide) (by decide) (by decide) ?_
  refine c_aload_n dX1_init_22 rfl ?_
  refine c_bipush (v := 32) dX1_init_23 (by decide) ?_
  refine c_pi aX1_22 dX1_init_25 al rfl (by decide) rfl ((X0_g (by decide) _).trans (by decide)) (by decide) (by decide) (by decide) ?_
  refine c_aload_n dX1_init_28 rfl ?_
  refine c_iconst (v := 0) dX1_init_29 (by decide) ?_
  refine c_pi aX1_26 dX1_init_30 al rfl (by decide) rfl ((X0_g (by decide) _).trans (by decide)) (by decide) (by decide) (by decide) ?_
  refine c_aload_n dX1_init_33 rfl ?_
  refine c_iconst (v := 0) dX1_init_34 (by decide) ?_
  refine c_pi aX1_29 dX1_init_35 al rfl (by decide) rfl ((X0_g (by decide) _).trans (by decide)) (by decide) (by decide) (by decide) ?_
  refine c_aload_n dX1_init_38 rfl ?_
  refine c_iconst (v := 0) dX1_init_39 (by decide) ?_
  refine c_pi aX1_32 dX1_init_40 al rfl (by decide) rfl ((X0_g (by decide) _).trans (by decide)) (by decide) (by decide) (by decide) ?_
  refine c_aload_n dX1_init_43 rfl ?_
  refine c_iconst (v := 0) dX1_init_44 (by decide) ?_
  refine c_pi aX1_35 dX1_init_45 al rfl (by decide) rfl ((X0_g (by decide) _).trans (by decide)) (by decide) (by decide) (by decide) ?_
  refine c_aload_n dX1_init_48 rfl ?_
  refine c_iconst (v := 0) dX1_init_49 (by decide) ?_
  refine c_pi aX1_38 dX1_init_50 al rfl (by decide) rfl ((X0_g (by decide) _).trans (by decide)) (by decide) (by decide) (by decide) ?_
  refine c_aload_n dX1_init_53 rfl ?_
  refine c_iconst (v := 0) dX1_init_54 (by decide) ?_
  refine c_pi aX1_41 dX1_init_55 al rfl (by decide) rfl ((X0_g (by decide) _).trans (by decide)) (by decide) (by decide) (by decide) ?_
  refine c_aload_n dX1_init_58 rfl ?_
  refine c_iconst (v := 0) dX1_init_59 (by decide) ?_
  refine c_pi aX1_44 dX1_init_60 al rfl (by decide) rfl ((X0_g (by decide) _).trans (by decide)) (by decide) (by decide) (by decide) ?_
  refine c_O (ct_close (hO 188 (by decide)) (gfs_end (k := 188) (by decide))) ?_
  exact c_return dX1_init_63 rfl (by decide)
set_option maxRecDepth 100000 in
theorem c_Planner {l : Launch} {G : ux_G} {O : List (Nat × va_E)} (al : ux_al G) (hO : ∀ k, k ≠ 176 → lk k O = none) : cx_M l G yX3_init iX3_init 1 15 [.ref 179] ((179, .inr (3, gfs G 179 0)) :: O) 180 O 188 := by
  refine cx_ent (b := true) (L' := [some (.ref 179)]) kX3_init rfl (fun _ => rfl) rfl rfl rfl ?_
  refine c_aload_n dX3_init_0 rfl ?_
  refine c_obj oX3 o_in o_cd dX3_init_1 (by decide) ⟨by decide, by decide⟩ (by decide) ?_
  refine c_aload_n dX3_init_4 rfl ?_
  refine c_iconst (v := nI 4) dX3_init_5 (by decide) ?_
  refine c_newa (t0 := 0) (N := 4) (k1 := 180) (du := 1) (a0 := (4, .inl (fun _ => 0))) dX3_init_6 rfl w_ai rfl (fun _ _ h => h) (fun _ => rfl) rfl (by decide) (by decide) al (by decide) (by decide) (by decide) (by decide) ?_
  refine c_O (ct_close (lk_ne (by decide) (hO 180 (by decide))) (en_k (by decide) rfl (by decide) (x0_z (by decide)))) ?_
  refine c_pr (q := 180) aX3_9 dX3_init_8 al rfl (by decide) rfl (by decide) (by decide) (fun _ => rfl) (fun _ => rfl) ?_
  refine c_aload_n dX3_init_11 rfl ?_
  refine c_iconst (v := nI 4) dX3_init_12 (by decide) ?_
  refine c_newa (t0 := 0) (N := 4) (k1 := 181) (du := 1) (a0 := (4, .inl (fun _ => 0))) dX3_init_13 rfl w_ai rfl (fun _ _ h => h) (fun _ => rfl) rfl (by decide) (by decide) al (by decide) (by decide) (by decide) (by decide) ?_
  refine c_O (ct_close (lk_ne (by decide) (hO 181 (by decide))) (en_k (by decide) rfl (by decide) (x0_z (by decide)))) ?_
  refine c_pr (q := 181) aX3_15 dX3_init_15 al rfl (by decide) rfl (by decide) (by decide) (fun _ => rfl) (fun _ => rfl) ?_
  refine c_aload_n dX3_init_18 rfl ?_
  refine c_iconst (v := nI 4) dX3_init_19 (by decide) ?_
  refine c_newa (t0 := 0) (N := 4) (k1 := 182) (du := 1) (a0 := (4, .inl (fun _ => 0))) dX3_init_20 rfl w_ai rfl (fun _ _ h => h) (fun _ => rfl) rfl (by decide) (by decide) al (by decide) (by decide) (by decide) (by decide) ?_
  refine c_O (ct_close (lk_ne (by decide) (hO 182 (by decide))) (en_k (by decide) rfl (by decide) (x0_z (by decide)))) ?_
  refine c_pr (q := 182) aX3_18 dX3_init_22 al rfl (by decide) rfl (by decide) (by decide) (fun _ => rfl) (fun _ => rfl) ?_
  refine c_aload_n dX3_init_25 rfl ?_
  refine c_iconst (v := nI 4) dX3_init_26 (by decide) ?_
  refine c_newa (t0 := 0) (N := 4) (k1 := 183) (du := 1) (a0 := (4, .inl (fun _ => 0))) dX3_init_27 rfl w_ai rfl (fun _ _ h => h) (fun _ => rfl) rfl (by decide) (by decide) al (by decide) (by decide) (by decide) (by decide) ?_
  refine c_O (ct_close (lk_ne (by decide) (hO 183 (by decide))) (en_k (by decide) rfl (by decide) (x0_z (by decide)))) ?_
  refine c_pr (q := 183) aX3_21 dX3_init_29 al rfl (by decide) rfl (by decide) (by decide) (fun _ => rfl) (fun _ => rfl) ?_
  refine c_aload_n dX3_init_32 rfl ?_
  refine c_iconst (v := nI 4) dX3_init_33 (by decide) ?_
  refine c_newa (t0 := 0) (N := 4) (k1 := 184) (du := 1) (a0 := (4, .inl (fun _ => 0))) dX3_init_34 rfl w_ai rfl (fun _ _ h => h) (fun _ => rfl) rfl (by decide) (by decide) al (by decide) (by decide) (by decide) (by decide) ?_
  refine c_O (ct_close (lk_ne (by decide) (hO 184 (by decide))) (en_k (by decide) rfl (by decide) (x0_z (by decide)))) ?_
  refine c_pr (q := 184) aX3_24 dX3_init_36 al rfl (by decide) rfl (by decide) (by decide) (fun _ => rfl) (fun _ => rfl) ?_
  refine c_aload_n dX3_init_39 rfl ?_
  refine c_bipush (v := nI 8) dX3_init_40 (by decide) ?_
  refine c_newa (t0 := 0) (N := 8) (k1 := 185) (du := 2) (a0 := (8, .inl (fun _ => 0))) dX3_init_42 rfl w_ai rfl (fun _ _ h => h) (fun _ => rfl) rfl (by decide) (by decide) al (by decide) (by decide) (by decide) (by decide) ?_
  refine c_O (ct_close (lk_ne (by decide) (hO 185 (by decide))) (en_k (by decide) rfl (by decide) (x0_z (by decide)))) ?_
  refine c_pr (q := 185) aX3_27 dX3_init_44 al rfl (by decide) rfl (by decide) (by decide) (fun _ => rfl) (fun _ => rfl) ?_
  refine c_aload_n dX3_init_47 rfl ?_
  refine c_bipush (v := nI 8) dX3_init_48 (by decide) ?_
  refine c_newa (t0 := 0) (N := 8) (k1 := 186) (du := 2) (a0 := (8, .inl (fun _ => 0))) dX3_init_50 rfl w_ai rfl (fun _ _ h => h) (fun _ => rfl) rfl (by decide) (by decide) al (by decide) (by decide) (by decide) (by decide) ?_
  refine c_O (ct_close (lk_ne (by decide) (hO 186 (by decide))) (en_k (by decide) rfl (by decide) (x0_z (by decide)))) ?_
  refine c_pr (q := 186) aX3_30 dX3_init_52 al rfl (by decide) rfl (by decide) (by decide) (fun _ => rfl) (fun _ => rfl) ?_
  refine c_aload_n dX3_init_55 rfl ?_
  refine c_bipush (v := nI 32) dX3_init_56 (by decide) ?_
  refine c_newa (t0 := 0) (N := 32) (k1 := 187) (du := 6) (a0 := (32, .inl (fun _ => 0))) dX3_init_58 rfl w_ai rfl (fun _ _ h => h) (fun _ => rfl) rfl (by decide) (by decide) al (by decide) (by decide) (by decide) (by decide) ?_
  refine c_O (ct_close (lk_ne (by decide) (hO 187 (by decide))) (en_k (by decide) rfl (by decide) (x0_z (by decide)))) ?_
  refine c_pr (q := 187) aX3_33 dX3_init_60 al rfl (by decide) rfl (by decide) (by decide) (fun _ => rfl) (fun _ => rfl) ?_
  refine c_aload_n dX3_init_63 rfl ?_
  refine c_iconst (v := 0) dX3_init_64 (by decide) ?_
  refine c_pi aX3_36 dX3_init_65 al rfl (by decide) rfl ((X0_g (by decide) _).trans (by decide)) (by decide) (by decide) (by decide) ?_
  refine c_aload_n dX3_init_68 rfl ?_
  refine c_iconst (v := 0) dX3_init_69 (by decide) ?_
  refine c_pi aX3_40 dX3_init_70 al rfl (by decide) rfl ((X0_g (by decide) _).trans (by decide)) (by decide) (by decide) (by decide) ?_
  refine c_aload_n dX3_init_73 rfl ?_
  refine c_iconst (v := 0) dX3_init_74 (by decide) ?_
  refine c_pi aX3_43 dX3_init_75 al rfl (by decide) rfl ((X0_g (by decide) _).trans (by decide)) (by decide) (by decide) (by decide) ?_
  refine c_aload_n dX3_init_78 rfl ?_
  refine c_iconst (v := 0) dX3_init_79 (by decide) ?_
  refine c_pi aX3_46 dX3_init_80 al rfl (by decide) rfl ((X0_g (by decide) _).trans (by decide)) (by decide) (by decide) (by decide) ?_
  refine c_O (ct_close (hO 179 (by decide)) (gfs_end (k := 179) (by decide))) ?_
  exact c_return dX3_init_83 rfl (by decide)
section CXU
variable {l : Launch} {G : ux_G} {mi : ux_I} {b : Bool} {R : Room} {Z : ux_Zt} {pc : Nat} {L : List (Option Value)} {st : List Value} {O : List (Nat × va_E)} {n u : Nat}
/-- an array of schools is made -/
theorem c_anew {idx N k1 du : Nat} {x : Int32} (d : decode mi.1 pc = .ok (.anewarray idx, 3)) (hcl : Cond.classLink mi.2.2.1 idx RX4 ∈ ux_T) (hx : x = nI N) (hN : N ≤ 4000) (al : ux_al G) (hk : k1 < 204) (ho : ux_or k1 = n) (hdu : 1 ≤ du ∧ N ≤ 6 * du) (hR : u + du ≤ R.cells ∧ 6 * (u + du) ≤ R.slots)
    (k : cx_W l G mi b R Z (pc + 3) L (.ref k1 :: st) ((k1, .inl (G.2.2.2 4, N, .inr (.inr (.inr (.inr (fun _ => none)))))) :: O) (n + 1) (u + du)) : cx_W l G mi b R Z pc L (.int x :: st) O n u := by
  intro p e s m args below meth c H locs ls C hP hS hl'
  subst hx
  obtain ⟨c1, c2, c3, c4, c5, c6, c7, c8, w⟩ := id C.1
  have w8 := w.2.2.2.2.2.2.2.1
  have ecl : (nI N).toNatClampNeg = N := nI_clamp (by omega)
  show W p l e R s m args below meth c H locs u (6 * u) (Z args s below) (F0 m pc ls (.int (nI N) :: st.map (ux_cv G)))
  refine W.anew c1 c2 c4 (c5 _ hcl) (va_AO.use C.2.1) rfl d rfl (fun q => by have := nI_leI (a := 0) (b := N) (by omega) (by omega); exact absurd (this.mpr (by omega)) (Int32.not_le.mpr q)) (by rw [ecl]; omega) (by omega) (by rw [ecl]; omega) (fun cA kA comp f1 f2 f3 f4 => ?_)
  obtain ⟨kA', comp', g1, g2, g3, g4⟩ := (w8.2 4 _ rfl).2
  have ecA : cA = G.2.2.2 4 := Option.some.inj (f1.symm.trans g4)
  subst ecA
  rw [ecl]
  generalize hH1 : H.push ({ cls := G.2.2.2 4, slots := Array.replicate N .null, vm := .none } : Cell) = H1
  have z1 : H1.size = H.size + 1 := by rw [← hH1, Array.size_push]
  have e1 : H1[H.size]? = some (arrV (G.2.2.2 4) N (fun _ => .null)) := by rw [← hH1, Array.getElem?_push_size, ← arrV_new]
  have o1 : ∀ q : Nat, q < H.size → H1[q]? = H[q]? := fun q hq => by rw [← hH1, Array.getElem?_push, if_neg (Nat.ne_of_lt hq)]
  obtain ⟨hP1, ea⟩ := cx_push (e1 := .inl (G.2.2.2 4, N, .inr (.inr (.inr (.inr (fun _ => none)))))) al hP hk ho z1 (by show H1[H.size]? = some (vp_cell _ _); rw [vp_cell_q]; exact e1) o1
  have hS1 : va_S (ux_A G) s.heap H1 locs := ⟨Nat.le_trans hS.1 (by omega), fun x h1 h2 => (o1 x (Nat.lt_of_lt_of_le h1 hS.1)).trans (hS.2.1 x h1 h2), hS.2.2⟩
  refine W.widen (k := u + du) (n := 6 * (u + du)) (by omega) (by omega) ?_
  have := k p e s m args below meth c H1 locs ls C hP1 hS1 hl'
  rw [List.map_cons, ux_cv_ref G hk, ea] at this
  exact this
/-- a school is put into an array -/
theorem c_aast {k0 q N j : Nat} {i : Int32} {f : Nat → Option Nat} {vs : List Value} (d : decode mi.1 pc = .ok (.aastore, 1)) (al : ux_al G) (hk : k0 < 204) (ho : ux_or k0 < n) (hq : q < 204) (hoq : ux_or q < n) (hne : q ≠ k0) (hcq : ct G O q = .inr (4, vs)) (hi : i = nI j) (hj : j < N) (hN : N ≤ 4000)
    (k : cx_W l G mi b R Z (pc + 1) L st ((k0, .inl (G.2.2.2 4, N, .inr (.inr (.inr (.inr (va_up f j (some (G.2.1 q)))))))) :: O) n u) : cx_W l G mi b R Z pc L (.ref q :: .int i :: .ref k0 :: st) ((k0, .inl (G.2.2.2 4, N, .inr (.inr (.inr (.inr f))))) :: O) n u := by
  intro p e s m args below meth c H locs ls C hP hS hl
  have w8 := C.1.2.2.2.2.2.2.2.2.2.2.2.2.2.2.2.1
  have hat := hP.2 k0 hk ho
  rw [ct_top] at hat
  have hatq := hP.2 q hq hoq
  rw [ct_ne G O _ hne, hcq] at hatq
  obtain ⟨r', hr', cellV, g1, g2, g3, -⟩ := hatq
  have ei : i.toNatClampNeg = j := by rw [hi]; exact nI_clamp (by omega)
  have h0 : ¬ i < 0 := fun y => by
    rw [hi] at y
    have := nI_leI (a := 0) (b := j) (by omega) (by omega)
    exact absurd (this.mpr (by omega)) (Int32.not_le.mpr y)
  have hcls := (w8.1 4 (RX4, TX4, 19) rfl).2
  obtain ⟨kA, comp, k1, k2, k3, -⟩ := (w8.2 4 _ rfl).2
  have hcomp : comp = G.2.2.1.1 4 := Option.some.inj (k3.symm.trans hcls.1)
  subst hcomp
  obtain ⟨kC, hkC, -⟩ := hcls.2
  show W p l e R s m args below meth c H locs u (6 * u) (Z args s below) (F0 m pc ls (ux_cv G (.ref q) :: .int i :: ux_cv G (.ref k0) :: st.map (ux_cv G)))
  rw [ux_cv_ref G hk, ux_cv_ref G hq]
  refine W.aast C.1.1 C.1.2.1 hat (fun q h => by cases h) (fun h => by cases h) k1 k2 rfl hkC ⟨h0, by show _ < (arrV _ _ _).slots.size; rw [arrV_size, ei]; exact hj⟩ g1 (fun q h => by rw [g3] at h; cases h) (by rw [g2]; exact hkC) (by rw [g2]; exact va_assign hcls) rfl rfl d fun H1 e1 z oq => ?_
  refine k p e s m args below meth c H1 _ ls C (cx_set al hP hk z ?_ oq) (hS.put z oq ((ux_al_ok al).2 k0 hk)) hl
  show H1[G.2.1 k0]? = some (vp_cell _ _)
  rw [e1, vp_cell_q, vp_cell_q, arrV_store, ei]
  congr 2
  funext a
  by_cases ha : a = j
  · subst ha
    simp [updV, va_up, va_rf]
  · simp [updV, va_up, ha]
end CXU
theorem hf_c {G : ux_G} {c : Nat} (h1 : c < 176) (h2 : c % 16 = 0) : ∀ j, j < 19 → defaultValue (tyX4 j) = vp_V (gfs G c 0) j := by
  refine hf_of (ln_c h1 h2) (fun j hj => ?_)
  unfold gdf
  rw [rf_c h1 h2]
  have e : ∀ j, j < 19 → defaultValue (tyX4 j) = if (if 4 ≤ j ∧ j < 19 then some 0 else (none : Option Nat)).isSome then Value.null else .int 0 := by decide +kernel
  rw [e j hj]
  by_cases q : 4 ≤ j ∧ j < 19
  · rw [if_pos q, if_pos q]; rfl
  · rw [if_neg q, if_neg q]
theorem w_c9 : Cond.classLink RX0 9 RX4 ∈ ux_T := ux_mem (n := 272) (by decide +kernel) (by decide +kernel)
theorem w_l24 : Cond.methodLinkNest RX0 24 yX4_init "SubstituteDesk" ∈ ux_N := ux_memN (n := 274) (by decide +kernel) (by decide +kernel)
set_option maxRecDepth 100000 in
theorem c_histw {l : Launch} {G : ux_G} {O : List (Nat × va_E)} (al : ux_al G) (hO : ∀ k, k ≠ 176 → lk k O = none) : ∀ (m j : Nat), j ≤ 8 → 8 - j < m → cx_W l G iX0_init true (ux_rm 3 578) (cx_Z G 578 O 179) 25 [some (.ref 177), some (.int (nI j))] [] ((177, .inr (0, gfs G 177 3)) :: (178, .inl (G.2.2.2 4, 8, .inr (.inr (.inr (.inr (fun a => if a < j then some (G.2.1 (48 + 16 * a)) else none)))))) :: O) (51 + 16 * j) (2 + 72 * j) := by
  intro m
  induction m with
  | zero => intro j _ h; exact absurd h (Nat.not_lt_zero _)
  | succ m ih =>
    intro j hj hm
    have o177 : ux_or 177 < 51 + 16 * j := Nat.lt_of_lt_of_le (by decide : ux_or 177 < 51) (by omega)
    have o178 : ux_or 178 < 51 + 16 * j := Nat.lt_of_lt_of_le (by decide : ux_or 178 < 51) (by omega)
    refine c_iload_n dX0_init_25 rfl ?_
    refine c_aload_n dX0_init_26 rfl ?_
    refine c_getr (q := 178) fX0_11 dX0_init_27 (by decide) o177 (ct_top _ _ _ _) (gfs_at (by decide) (by decide)) (by decide) ?_
    refine c_alen (t0 := 4) (v := nI 8) dX0_init_30 (by decide) o178 ((ct_ne _ _ _ (by decide)).trans (ct_top _ _ _ _)) rfl rfl ?_
    refine c_icmp_ge (tgt := 53) dX0_init_31 (by decide) (fun c => ?_) (fun c => ?_)
    · have e : j = 8 := by
        have := (nI_leI (a := 8) (b := j) (by omega) (by omega)).mp c
        omega
      subst e
      refine c_O (ct_swap (by decide)) ?_
      refine c_O (ct_close (lk_ne (by decide) (hO 178 (by decide))) ?_) ?_
      · rw [ux_en_q (show ux_kd 178 = 14 by rfl)]
        congr 2
        show _ = (8, _)
        congr 5
        funext a
        show _ = ((if a < 8 then some (48 + 16 * a) else none : Option Nat)).map G.2.1
        by_cases q : a < 8
        · rw [if_pos q, if_pos q]; rfl
        · rw [if_neg q, if_neg q]; rfl
      refine c_O (ct_close (hO 177 (by decide)) (gfs_end (k := 177) (by decide))) ?_
      exact c_return dX0_init_53 rfl (by decide)
    · have hlt : j < 8 := by
        rcases Nat.lt_or_ge j 8 with z | z
        · exact z
        · exact absurd ((nI_leI (a := 8) (b := j) (by omega) (by omega)).mpr z) c
      have h1 : 48 + 16 * j < 176 := by omega
      have h2 : (48 + 16 * j) % 16 = 0 := by omega
      have oc : ux_or (48 + 16 * j) = 51 + 16 * j := by
        unfold ux_or
        rw [if_neg (by omega), if_neg (by omega), if_pos h1]; omega
      refine c_aload_n dX0_init_34 rfl ?_
      refine c_getr (q := 178) fX0_11 dX0_init_35 (by decide) o177 (ct_top _ _ _ _) (gfs_at (by decide) (by decide)) (by decide) ?_
      refine c_iload_n dX0_init_38 rfl ?_
      refine c_new (k1 := 48 + 16 * j) (du := 4) dX0_init_39 (ci := 4) rfl ux_iwX4 tyX4_ok w_c9 jX4 zX4 (hf_c h1 h2) al (by omega) oc (by decide) ⟨by show 2 + 72 * j + 4 ≤ 578; omega, by show 6 * (2 + 72 * j + 4) ≤ 6 * 578; omega⟩ ?_
      refine c_dup dX0_init_42 rfl ?_
      refine c_init (Or.inr ⟨_, w_l24⟩) nX4_init kX4_init (c_School al h1 h2 (by omega) (fun i hi => lk_ne (by omega) (lk_ne (by omega) (hO _ (by omega))))) dX0_init_43 rfl rfl rfl (by omega) ?_ (Nat.le_of_ble_eq_true rfl) ?_
      · show ux_ro (ux_rm 3 578) 1 2 68 (2 + 72 * j + 4) = true
        unfold ux_ro ux_rm
        simp only [Bool.and_eq_true, decide_eq_true_eq]
        omega
      refine c_O (ct_swap (by decide)) ?_
      refine c_aast (q := 48 + 16 * j) (vs := gfs G (48 + 16 * j) 19) dX0_init_46 al (by decide) (by omega) (by omega) (by omega) (by omega) ?_ rfl hlt (by decide) ?_
      · rw [ct_ne G O _ (by omega)]
        unfold ct
        rw [hO _ (by omega)]
        exact (en_c h1 h2).symm
      refine c_O (ct_swap (by decide)) ?_
      refine c_iinc (v := nI (j + 1)) dX0_init_47 rfl (nI_1 _) rfl rfl rfl ?_
      refine c_goto (tgt := 25) dX0_init_50 (by decide) ?_
      have e : va_up (fun a => if a < j then some (G.2.1 (48 + 16 * a)) else none) j (some (G.2.1 (48 + 16 * j))) = fun a => if a < j + 1 then some (G.2.1 (48 + 16 * a)) else none := by
        funext a
        unfold va_up
        by_cases q : a = j
        · rw [if_pos q, if_pos (by omega), q]
        · rw [if_neg q]
          dsimp only
          by_cases q2 : a < j
          · rw [if_pos q2, if_pos (by omega)]
          · rw [if_neg q2, if_neg (by omega)]
      rw [e]
      have := ih (j + 1) (by omega) (by omega)
      rw [show 51 + 16 * (j + 1) = 51 + 16 * j + 1 + 15 by omega, show 2 + 72 * (j + 1) = 2 + 72 * j + 4 + 68 by omega] at this
      exact this
set_option maxRecDepth 100000 in
theorem c_History {l : Launch} {G : ux_G} {O : List (Nat × va_E)} (al : ux_al G) (hO : ∀ k, k ≠ 176 → lk k O = none) : cx_M l G yX0_init iX0_init 3 578 [.ref 177] ((177, .inr (0, gfs G 177 0)) :: O) 50 O 179 := by
  refine cx_ent (b := true) (L' := [some (.ref 177), none]) kX0_init rfl (fun _ => rfl) rfl rfl rfl ?_
  refine c_aload_n dX0_init_0 rfl ?_
  refine c_obj oX0 o_in o_cd dX0_init_1 (by decide) ⟨by decide, by decide⟩ (by decide) ?_
  refine c_aload_n dX0_init_4 rfl ?_
  refine c_bipush (v := nI 8) dX0_init_5 (by decide) ?_
  refine c_anew (N := 8) (k1 := 178) (du := 2) dX0_init_7 w_c9 rfl (by decide) al (by decide) (by decide) (by decide) (by decide) ?_
  refine c_O (ct_swap (by decide)) ?_
  refine c_pr (q := 178) aX0_11 dX0_init_10 al rfl (by decide) rfl (by decide) (by decide) (fun _ => rfl) (fun _ => rfl) ?_
  refine c_aload_n dX0_init_13 rfl ?_
  refine c_iconst (v := 0) dX0_init_14 (by decide) ?_
  refine c_pi aX0_17 dX0_init_15 al rfl (by decide) rfl ((X0_g (by decide) _).trans (by decide)) (by decide) (by decide) (by decide) ?_
  refine c_aload_n dX0_init_18 rfl ?_
  refine c_iconst (v := 0) dX0_init_19 (by decide) ?_
  refine c_pi aX0_21 dX0_init_20 al rfl (by decide) rfl ((X0_g (by decide) _).trans (by decide)) (by decide) (by decide) (by decide) ?_
  refine c_iconst (v := 0) dX0_init_23 (by decide) ?_
  refine c_istore_n (j := 1) dX0_init_24 rfl rfl rfl rfl ?_
  have := c_histw (l := l) al hO 9 0 (by decide) (by decide)
  exact this
