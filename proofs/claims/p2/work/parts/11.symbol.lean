set_option maxHeartbeats 4000000 in
set_option maxRecDepth 100000 in
theorem ct_sy_init (l : Launch) (g : xg_G) (h : Nat) : kc_V l yy_SY_init cd_SY_init 1 { frames := 1, cells := 1, slots := 1108, locals := 12 } g [.ref h] [oc_o h 7 [.null, .int (nI 0), .int (nI 0)]] (S := Nat) (fun _ => True) (fun u0 => [oc_o h 7 [.ref u0, .int (nI 0), .int (nI 0)], oc_i g u0 1108 (fun _ => 0)]) := by
  refine kc_Vof (by decide) (Nat.le_of_ble_eq_true rfl) ?_
  intro p e s m args below meth c A ls Q H locs hQ hB hP hS
  obtain ⟨hx, hb, hr, hlk, hin, hml, hown, hts, hA, hK, hD, hE, hl⟩ := hB
  have hF : xf_F g p m c cd_SY_init 1 s args "StackedRows$Symbol" A := ⟨⟨hx, hb, hml, hown, hts⟩, hE, hK, hA⟩
  have hl : lv_has ls 1 [(0, .ref h)] := hl
  have hown : s.vm.findClass "StackedRows$Symbol" = some m.cls := hown
  refine lv_aload_n hx hb dd_SY_init_0 rfl (lv_at hl 0 rfl) ?_
  refine oi_SY_3 hx hb hts hown hml hl.1 (Nat.le_of_ble_eq_true rfl) (Nat.le_of_ble_eq_true rfl) dd_SY_init_1 ?_
  refine lv_aload_n hx hb dd_SY_init_4 rfl (lv_at hl 0 rfl) ?_
  refine lv_sipush (v := nI 1108) hx hb dd_SY_init_5 (by decide) ?_
  refine xa_newI (k1 := 1) (k2 := 1108) hx hb (hts _ wa_int) hK hP hD hS hA (by decide) rfl rfl (Nat.le_of_ble_eq_true rfl) (Nat.le_of_ble_eq_true rfl) dd_SY_init_8 (fun q_1 H hP hD hS => ?_)
  have hP : va_P g.1 vwCl [oc_o h 7 [.null, .int (nI 0), .int (nI 0)], oc_i g q_1 1108 (fun _ => 0)] H := hP
  have hD : va_D A [oc_o h 7 [.null, .int (nI 0), .int (nI 0)], oc_i g q_1 1108 (fun _ => 0)] := hD
  refine pf_SY_9 hin hx hb hts hown hK hP hD hS 0 rfl rfl rfl (Nat.le_of_ble_eq_true rfl) dd_SY_init_10 (fun H locs hP hD hS => ?_)
  have hP : va_P g.1 vwCl [oc_o h 7 [.ref q_1, .int (nI 0), .int (nI 0)], oc_i g q_1 1108 (fun _ => 0)] H := hP
  have hD : va_D A [oc_o h 7 [.ref q_1, .int (nI 0), .int (nI 0)], oc_i g q_1 1108 (fun _ => 0)] := hD
  refine lv_aload_n hx hb dd_SY_init_13 rfl (lv_at hl 0 rfl) ?_
  refine lv_iconst (v := nI 0) hx hb dd_SY_init_14 (by decide) ?_
  refine pf_SY_15 hx hb hts hown hK hP hD hS 0 rfl rfl rfl (Nat.le_of_ble_eq_true rfl) dd_SY_init_15 (fun H locs hP hD hS => ?_)
  have hP : va_P g.1 vwCl [oc_o h 7 [.ref q_1, .int (nI 0), .int (nI 0)], oc_i g q_1 1108 (fun _ => 0)] H := hP
  have hD : va_D A [oc_o h 7 [.ref q_1, .int (nI 0), .int (nI 0)], oc_i g q_1 1108 (fun _ => 0)] := hD
  refine lv_aload_n hx hb dd_SY_init_18 rfl (lv_at hl 0 rfl) ?_
  refine lv_iconst (v := nI 0) hx hb dd_SY_init_19 (by decide) ?_
  refine pf_SY_19 hx hb hts hown hK hP hD hS 0 rfl rfl rfl (Nat.le_of_ble_eq_true rfl) dd_SY_init_20 (fun H locs hP hD hS => ?_)
  have hP : va_P g.1 vwCl [oc_o h 7 [.ref q_1, .int (nI 0), .int (nI 0)], oc_i g q_1 1108 (fun _ => 0)] H := hP
  have hD : va_D A [oc_o h 7 [.ref q_1, .int (nI 0), .int (nI 0)], oc_i g q_1 1108 (fun _ => 0)] := hD
  exact xr_v hx hb hr hlk hQ hP hD hS (q_1) trivial [0, 1] (by decide) rfl (Nat.le_of_ble_eq_true rfl) (Nat.le_of_ble_eq_true rfl) dd_SY_init_23

set_option maxHeartbeats 4000000 in
set_option maxRecDepth 100000 in
theorem ct_sy_there (l : Launch) (g : xg_G) (h : Nat) (p9 : Nat) : kc_I l yy_SY_isThere cd_SY_isThere 1 .boolean { frames := 0, cells := 0, slots := 0, locals := 0 } g [.ref h] [oc_o h 7 [.ref p9, .int (nI 0), .int (nI 0)]] (S := Unit) (fun r0 _ => r0 = nI 0) (fun _ => [oc_o h 7 [.ref p9, .int (nI 0), .int (nI 0)]]) := by
  refine kc_Iof (by decide) (Nat.le_of_ble_eq_true rfl) ?_
  intro p e s m args below meth c A ls Q H locs hQ hB hP hS
  obtain ⟨hx, hb, hr, hlk, hin, hml, hown, hts, hA, hK, hD, hE, hl⟩ := hB
  have hF : xf_F g p m c cd_SY_isThere 1 s args "StackedRows$Symbol" A := ⟨⟨hx, hb, hml, hown, hts⟩, hE, hK, hA⟩
  have hl : lv_has ls 1 [(0, .ref h)] := hl
  have hown : s.vm.findClass "StackedRows$Symbol" = some m.cls := hown
  refine lv_aload_n hx hb dd_SY_isThere_0 rfl (lv_at hl 0 rfl) ?_
  refine gf_SY_15 hx hb hts hown hK hP 0 rfl rfl dd_SY_isThere_1 ?_
  refine lv_if_le (tgt := 11) hx hb dd_SY_isThere_4 rfl (fun _ => ?_) (fun h_1 => absurd (by decide) h_1)
  refine lv_iconst (v := nI 0) hx hb dd_SY_isThere_11 (by decide) ?_
  exact xr_i hx hb hr hlk hQ hP hD hS () (by first | rfl | exact congrArg nI (by omega)) [0] (by decide) rfl (by decide) (Nat.le_of_ble_eq_true rfl) (Nat.le_of_ble_eq_true rfl) dd_SY_isThere_12

set_option maxHeartbeats 4000000 in
set_option maxRecDepth 100000 in
theorem ct_sy_rows (l : Launch) (g : xg_G) (h : Nat) (p9 : Nat) (rr : Nat) (cc : Nat) : kc_I l yy_SY_rows cd_SY_rows 1 .int { frames := 0, cells := 0, slots := 0, locals := 0 } g [.ref h] [oc_o h 7 [.ref p9, .int (nI rr), .int (nI cc)]] (S := Unit) (fun r0 _ => r0 = nI rr) (fun _ => [oc_o h 7 [.ref p9, .int (nI rr), .int (nI cc)]]) := by
  refine kc_Iof (by decide) (Nat.le_of_ble_eq_true rfl) ?_
  intro p e s m args below meth c A ls Q H locs hQ hB hP hS
  obtain ⟨hx, hb, hr, hlk, hin, hml, hown, hts, hA, hK, hD, hE, hl⟩ := hB
  have hF : xf_F g p m c cd_SY_rows 1 s args "StackedRows$Symbol" A := ⟨⟨hx, hb, hml, hown, hts⟩, hE, hK, hA⟩
  have hl : lv_has ls 1 [(0, .ref h)] := hl
  have hown : s.vm.findClass "StackedRows$Symbol" = some m.cls := hown
  refine lv_aload_n hx hb dd_SY_rows_0 rfl (lv_at hl 0 rfl) ?_
  refine gf_SY_15 hx hb hts hown hK hP 0 rfl rfl dd_SY_rows_1 ?_
  exact xr_i hx hb hr hlk hQ hP hD hS () (by first | rfl | exact congrArg nI (by omega)) [0] (by decide) rfl rfl (Nat.le_of_ble_eq_true rfl) (Nat.le_of_ble_eq_true rfl) dd_SY_rows_4

set_option maxHeartbeats 4000000 in
set_option maxRecDepth 100000 in
theorem ct_sy_columns (l : Launch) (g : xg_G) (h : Nat) (p9 : Nat) (rr : Nat) (cc : Nat) : kc_I l yy_SY_columns cd_SY_columns 1 .int { frames := 0, cells := 0, slots := 0, locals := 0 } g [.ref h] [oc_o h 7 [.ref p9, .int (nI rr), .int (nI cc)]] (S := Unit) (fun r0 _ => r0 = nI cc) (fun _ => [oc_o h 7 [.ref p9, .int (nI rr), .int (nI cc)]]) := by
  refine kc_Iof (by decide) (Nat.le_of_ble_eq_true rfl) ?_
  intro p e s m args below meth c A ls Q H locs hQ hB hP hS
  obtain ⟨hx, hb, hr, hlk, hin, hml, hown, hts, hA, hK, hD, hE, hl⟩ := hB
  have hF : xf_F g p m c cd_SY_columns 1 s args "StackedRows$Symbol" A := ⟨⟨hx, hb, hml, hown, hts⟩, hE, hK, hA⟩
  have hl : lv_has ls 1 [(0, .ref h)] := hl
  have hown : s.vm.findClass "StackedRows$Symbol" = some m.cls := hown
  refine lv_aload_n hx hb dd_SY_columns_0 rfl (lv_at hl 0 rfl) ?_
  refine gf_SY_19 hx hb hts hown hK hP 0 rfl rfl dd_SY_columns_1 ?_
  exact xr_i hx hb hr hlk hQ hP hD hS () (by first | rfl | exact congrArg nI (by omega)) [0] (by decide) rfl rfl (Nat.le_of_ble_eq_true rfl) (Nat.le_of_ble_eq_true rfl) dd_SY_columns_4

set_option maxHeartbeats 4000000 in
set_option maxRecDepth 100000 in
theorem ct_sy_left (l : Launch) (g : xg_G) (i : Nat) (qi : i < 1000) : kc_I l yy_SY_leftKind cd_SY_leftKind 1 .int { frames := 0, cells := 0, slots := 0, locals := 0 } g [.int (nI i)] [] (S := Unit) (fun r0 _ => r0 = nI (i % 3)) (fun _ => []) := by
  refine kc_Iof (by decide) (Nat.le_of_ble_eq_true rfl) ?_
  intro p e s m args below meth c A ls Q H locs hQ hB hP hS
  obtain ⟨hx, hb, hr, hlk, hin, hml, hown, hts, hA, hK, hD, hE, hl⟩ := hB
  have hF : xf_F g p m c cd_SY_leftKind 1 s args "StackedRows$Symbol" A := ⟨⟨hx, hb, hml, hown, hts⟩, hE, hK, hA⟩
  have hl : lv_has ls 1 [(0, .int (nI i))] := hl
  have hown : s.vm.findClass "StackedRows$Symbol" = some m.cls := hown
  refine lv_iload_n hx hb dd_SY_leftKind_0 rfl (lv_at hl 0 rfl) ?_
  refine lv_iconst (v := nI 3) hx hb dd_SY_leftKind_1 (by decide) ?_
  refine xi_irem hx hb (by omega) (by omega) (by omega) dd_SY_leftKind_2 ?_
  exact xr_i hx hb hr hlk hQ hP hD hS () (by first | rfl | exact congrArg nI (by omega)) [] (by decide) rfl rfl (Nat.le_of_ble_eq_true rfl) (Nat.le_of_ble_eq_true rfl) dd_SY_leftKind_3

set_option maxHeartbeats 4000000 in
set_option maxRecDepth 100000 in
theorem ct_sy_right (l : Launch) (g : xg_G) (i : Nat) (qi : i < 1000) : kc_I l yy_SY_rightKind cd_SY_rightKind 1 .int { frames := 0, cells := 0, slots := 0, locals := 0 } g [.int (nI i)] [] (S := Unit) (fun r0 _ => r0 = nI ((i + 2) % 3)) (fun _ => []) := by
  refine kc_Iof (by decide) (Nat.le_of_ble_eq_true rfl) ?_
  intro p e s m args below meth c A ls Q H locs hQ hB hP hS
  obtain ⟨hx, hb, hr, hlk, hin, hml, hown, hts, hA, hK, hD, hE, hl⟩ := hB
  have hF : xf_F g p m c cd_SY_rightKind 1 s args "StackedRows$Symbol" A := ⟨⟨hx, hb, hml, hown, hts⟩, hE, hK, hA⟩
  have hl : lv_has ls 1 [(0, .int (nI i))] := hl
  have hown : s.vm.findClass "StackedRows$Symbol" = some m.cls := hown
  refine lv_iload_n hx hb dd_SY_rightKind_0 rfl (lv_at hl 0 rfl) ?_
  refine lv_iconst (v := nI 2) hx hb dd_SY_rightKind_1 (by decide) ?_
  refine xi_iadd hx hb dd_SY_rightKind_2 ?_
  refine lv_iconst (v := nI 3) hx hb dd_SY_rightKind_3 (by decide) ?_
  refine xi_irem hx hb (by omega) (by omega) (by omega) dd_SY_rightKind_4 ?_
  exact xr_i hx hb hr hlk hQ hP hD hS () (by first | rfl | exact congrArg nI (by omega)) [] (by decide) rfl rfl (Nat.le_of_ble_eq_true rfl) (Nat.le_of_ble_eq_true rfl) dd_SY_rightKind_5

set_option maxHeartbeats 4000000 in
set_option maxRecDepth 100000 in
theorem ct_sy_ind (l : Launch) (g : xg_G) (h : Nat) (p9 : Nat) (rr : Nat) (cc : Nat) (i : Nat) (L : Nat) (qr : 3 ≤ rr) (qr2 : rr ≤ 90) (qc : 1 ≤ cc) (qc2 : cc ≤ 30) (qi : i < 3) (qL : L ≤ 8) : kc_I l yy_SY_indicated cd_SY_indicated 3 .int { frames := 0, cells := 0, slots := 0, locals := 0 } g [.ref h, .int (nI i), .int (nI L)] [oc_o h 7 [.ref p9, .int (nI rr), .int (nI cc)]] (S := Unit) (fun _ _ => True) (fun _ => [oc_o h 7 [.ref p9, .int (nI rr), .int (nI cc)]]) := by
  refine kc_Iof (by decide) (Nat.le_of_ble_eq_true rfl) ?_
  intro p e s m args below meth c A ls Q H locs hQ hB hP hS
  obtain ⟨hx, hb, hr, hlk, hin, hml, hown, hts, hA, hK, hD, hE, hl⟩ := hB
  have hF : xf_F g p m c cd_SY_indicated 3 s args "StackedRows$Symbol" A := ⟨⟨hx, hb, hml, hown, hts⟩, hE, hK, hA⟩
  have hl : lv_has ls 3 [(0, .ref h), (1, .int (nI i)), (2, .int (nI L))] := hl
  have hown : s.vm.findClass "StackedRows$Symbol" = some m.cls := hown
  refine lv_iload_n hx hb dd_SY_indicated_0 rfl (lv_at hl 1 rfl) ?_
  refine xb_zne (tgt := 13) hx hb (by omega) dd_SY_indicated_1 rfl (fun h_1 => ?_) (fun h_1 => ?_)
  · refine lv_iload_n hx hb dd_SY_indicated_13 rfl (lv_at hl 1 rfl) ?_
    refine lv_iconst (v := nI 1) hx hb dd_SY_indicated_14 (by decide) ?_
    refine xb_ne (tgt := 33) hx hb (by omega) (by omega) dd_SY_indicated_15 rfl (fun h_2 => ?_) (fun h_2 => ?_)
    · refine lv_aload_n hx hb dd_SY_indicated_33 rfl (lv_at hl 0 rfl) ?_
      refine gf_SY_19 hx hb hts hown hK hP 0 rfl rfl dd_SY_indicated_34 ?_
      refine lv_iconst (v := nI 1) hx hb dd_SY_indicated_37 (by decide) ?_
      refine xi_isub hx hb (by omega) dd_SY_indicated_38 ?_
      exact xr_i hx hb hr hlk hQ hP hD hS () trivial [0] (by decide) rfl rfl (Nat.le_of_ble_eq_true rfl) (Nat.le_of_ble_eq_true rfl) dd_SY_indicated_39
    · refine lv_iconst (v := nI 3) hx hb dd_SY_indicated_18 (by decide) ?_
      refine lv_iload_n hx hb dd_SY_indicated_19 rfl (lv_at hl 2 rfl) ?_
      refine xi_imul hx hb dd_SY_indicated_20 ?_
      refine lv_aload_n hx hb dd_SY_indicated_21 rfl (lv_at hl 0 rfl) ?_
      refine gf_SY_15 hx hb hts hown hK hP 0 rfl rfl dd_SY_indicated_22 ?_
      refine lv_iconst (v := nI 1) hx hb dd_SY_indicated_25 (by decide) ?_
      refine xi_isub hx hb (by omega) dd_SY_indicated_26 ?_
      refine lv_iconst (v := nI 3) hx hb dd_SY_indicated_27 (by decide) ?_
      refine xi_irem hx hb (by omega) (by omega) (by omega) dd_SY_indicated_28 ?_
      refine xi_iadd hx hb dd_SY_indicated_29 ?_
      refine lv_goto (tgt := 39) hx hb dd_SY_indicated_30 rfl ?_
      exact xr_i hx hb hr hlk hQ hP hD hS () trivial [0] (by decide) rfl rfl (Nat.le_of_ble_eq_true rfl) (Nat.le_of_ble_eq_true rfl) dd_SY_indicated_39
  · refine lv_aload_n hx hb dd_SY_indicated_4 rfl (lv_at hl 0 rfl) ?_
    refine gf_SY_15 hx hb hts hown hK hP 0 rfl rfl dd_SY_indicated_5 ?_
    refine lv_iconst (v := nI 1) hx hb dd_SY_indicated_8 (by decide) ?_
    refine xi_isub hx hb (by omega) dd_SY_indicated_9 ?_
    refine lv_iconst (v := nI 3) hx hb dd_SY_indicated_10 (by decide) ?_
    refine xi_idiv hx hb (by omega) (by omega) (by omega) dd_SY_indicated_11 ?_
    exact xr_i hx hb hr hlk hQ hP hD hS () trivial [0] (by decide) rfl rfl (Nat.le_of_ble_eq_true rfl) (Nat.le_of_ble_eq_true rfl) dd_SY_indicated_12

set_option maxHeartbeats 4000000 in
set_option maxRecDepth 100000 in
theorem ct_sy_has (l : Launch) (g : xg_G) (h : Nat) (p9 : Nat) (rr : Nat) (cc : Nat) (i : Nat) (j : Nat) (qr : 3 ≤ rr) (qr2 : rr ≤ 90) (qc : 1 ≤ cc) (qc2 : cc ≤ 30) (qi : i < rr) (qj : j ≤ cc + 1) : kc_I l yy_SY_has cd_SY_has 3 .boolean { frames := 0, cells := 0, slots := 0, locals := 0 } g [.ref h, .int (nI i), .int (nI j)] [oc_o h 7 [.ref p9, .int (nI rr), .int (nI cc)]] (S := Unit) (fun r0 _ => r0 = nI 1) (fun _ => [oc_o h 7 [.ref p9, .int (nI rr), .int (nI cc)]]) := by
  refine kc_Iof (by decide) (Nat.le_of_ble_eq_true rfl) ?_
  intro p e s m args below meth c A ls Q H locs hQ hB hP hS
  obtain ⟨hx, hb, hr, hlk, hin, hml, hown, hts, hA, hK, hD, hE, hl⟩ := hB
  have hF : xf_F g p m c cd_SY_has 3 s args "StackedRows$Symbol" A := ⟨⟨hx, hb, hml, hown, hts⟩, hE, hK, hA⟩
  have hl : lv_has ls 3 [(0, .ref h), (1, .int (nI i)), (2, .int (nI j))] := hl
  have hown : s.vm.findClass "StackedRows$Symbol" = some m.cls := hown
  refine lv_iload_n hx hb dd_SY_has_0 rfl (lv_at hl 1 rfl) ?_
  refine xb_zlt (tgt := 30) hx hb (by omega) dd_SY_has_1 rfl ?_
  refine lv_iload_n hx hb dd_SY_has_4 rfl (lv_at hl 1 rfl) ?_
  refine lv_aload_n hx hb dd_SY_has_5 rfl (lv_at hl 0 rfl) ?_
  refine gf_SY_15 hx hb hts hown hK hP 0 rfl rfl dd_SY_has_6 ?_
  refine xb_ge (tgt := 30) hx hb (by omega) (by omega) dd_SY_has_9 rfl (fun h_1 => False.elim (by omega)) (fun h_1 => ?_)
  refine lv_iload_n hx hb dd_SY_has_12 rfl (lv_at hl 2 rfl) ?_
  refine xb_zlt (tgt := 30) hx hb (by omega) dd_SY_has_13 rfl ?_
  refine lv_iload_n hx hb dd_SY_has_16 rfl (lv_at hl 2 rfl) ?_
  refine lv_aload_n hx hb dd_SY_has_17 rfl (lv_at hl 0 rfl) ?_
  refine gf_SY_19 hx hb hts hown hK hP 0 rfl rfl dd_SY_has_18 ?_
  refine lv_iconst (v := nI 1) hx hb dd_SY_has_21 (by decide) ?_
  refine xi_iadd hx hb dd_SY_has_22 ?_
  refine xb_gt (tgt := 30) hx hb (by omega) (by omega) dd_SY_has_23 rfl (fun h_2 => False.elim (by omega)) (fun h_2 => ?_)
  refine lv_iconst (v := nI 1) hx hb dd_SY_has_26 (by decide) ?_
  refine lv_goto (tgt := 31) hx hb dd_SY_has_27 rfl ?_
  exact xr_i hx hb hr hlk hQ hP hD hS () (by first | rfl | exact congrArg nI (by omega)) [0] (by decide) rfl (by decide) (Nat.le_of_ble_eq_true rfl) (Nat.le_of_ble_eq_true rfl) dd_SY_has_31

set_option maxHeartbeats 4000000 in
set_option maxRecDepth 100000 in
theorem ct_sy_set (l : Launch) (g : xg_G) (h : Nat) (p9 : Nat) (rr : Nat) (cc : Nat) (i : Nat) (j : Nat) (x : Int32) (f : Nat → Int32) (qr : 3 ≤ rr) (qr2 : rr ≤ 90) (qc : 1 ≤ cc) (qc2 : cc ≤ 30) (qi : i < rr) (qj : j ≤ cc + 1) (qix : i * (cc + 2) + j < 1108) : kc_V l yy_SY_set cd_SY_set 4 { frames := 1, cells := 0, slots := 0, locals := 22 } g [.ref h, .int (nI i), .int (nI j), .int x] [oc_o h 7 [.ref p9, .int (nI rr), .int (nI cc)], oc_i g p9 1108 f] (S := (Nat → Int32)) (fun _ => True) (fun u0 => [oc_o h 7 [.ref p9, .int (nI rr), .int (nI cc)], oc_i g p9 1108 u0]) := by
  refine kc_Vof (by decide) (Nat.le_of_ble_eq_true rfl) ?_
  intro p e s m args below meth c A ls Q H locs hQ hB hP hS
  obtain ⟨hx, hb, hr, hlk, hin, hml, hown, hts, hA, hK, hD, hE, hl⟩ := hB
  have hF : xf_F g p m c cd_SY_set 4 s args "StackedRows$Symbol" A := ⟨⟨hx, hb, hml, hown, hts⟩, hE, hK, hA⟩
  have hl : lv_has ls 4 [(0, .ref h), (1, .int (nI i)), (2, .int (nI j)), (3, .int x)] := hl
  have hown : s.vm.findClass "StackedRows$Symbol" = some m.cls := hown
  refine lv_aload_n hx hb dd_SY_set_0 rfl (lv_at hl 0 rfl) ?_
  refine lv_iload_n hx hb dd_SY_set_1 rfl (lv_at hl 1 rfl) ?_
  refine lv_iload_n hx hb dd_SY_set_2 rfl (lv_at hl 2 rfl) ?_
  refine xc_Vi (wr := [oc_i g p9 1108 f]) (k1 := 0) (k2 := 0) (As := [.int (nI i), .int (nI j)]) (rest := []) (k := 2) hF hP hD hS (ct_sy_has l g h p9 rr cc i j (by omega) (by omega) (by omega) (by omega) (by omega) (by omega)) (xt_V ml_SY_28 wi_SY_has wx_SY_has wn_SY wc_SY_has) (by decide) 0 rfl rfl rfl [0] [1] ⟨rfl, rfl, by decide, by decide, by decide⟩ ⟨⟨Nat.le_of_ble_eq_true rfl, Nat.le_of_ble_eq_true rfl⟩, rfl, rfl, Nat.le_of_ble_eq_true rfl, Nat.le_of_ble_eq_true rfl⟩ rfl hl.1 rfl (Nat.le_of_ble_eq_true rfl) dd_SY_set_3 (fun r_1 u H locs hp hP hD hS => ?_)
  obtain rfl := hp
  have hP : va_P g.1 vwCl [oc_i g p9 1108 f, oc_o h 7 [.ref p9, .int (nI rr), .int (nI cc)]] H := hP
  have hD : va_D A [oc_i g p9 1108 f, oc_o h 7 [.ref p9, .int (nI rr), .int (nI cc)]] := hD
  refine lv_if_eq (tgt := 25) hx hb dd_SY_set_6 rfl (fun h_2 => absurd h_2 (by decide)) (fun _ => ?_)
  refine lv_aload_n hx hb dd_SY_set_9 rfl (lv_at hl 0 rfl) ?_
  refine gf_SY_9 hx hb hts hown hK hP 1 rfl rfl dd_SY_set_10 ?_
  refine lv_iload_n hx hb dd_SY_set_13 rfl (lv_at hl 1 rfl) ?_
  refine lv_aload_n hx hb dd_SY_set_14 rfl (lv_at hl 0 rfl) ?_
  refine gf_SY_19 hx hb hts hown hK hP 1 rfl rfl dd_SY_set_15 ?_
  refine lv_iconst (v := nI 2) hx hb dd_SY_set_18 (by decide) ?_
  refine xi_iadd hx hb dd_SY_set_19 ?_
  refine xi_imul hx hb dd_SY_set_20 ?_
  refine lv_iload_n hx hb dd_SY_set_21 rfl (lv_at hl 2 rfl) ?_
  refine xi_iadd hx hb dd_SY_set_22 ?_
  refine lv_iload_n hx hb dd_SY_set_23 rfl (lv_at hl 3 rfl) ?_
  refine xa_st hx hb hK hP hD hS 0 rfl (j := i * (cc + 2) + j) (by omega) (by omega) dd_SY_set_24 (fun f_3 H locs hP hD hS => ?_)
  have hP : va_P g.1 vwCl [oc_i g p9 1108 f_3, oc_o h 7 [.ref p9, .int (nI rr), .int (nI cc)]] H := hP
  have hD : va_D A [oc_i g p9 1108 f_3, oc_o h 7 [.ref p9, .int (nI rr), .int (nI cc)]] := hD
  exact xr_v hx hb hr hlk hQ hP hD hS (f_3) trivial [1, 0] (by decide) rfl (Nat.le_of_ble_eq_true rfl) (Nat.le_of_ble_eq_true rfl) dd_SY_set_25

set_option maxHeartbeats 4000000 in
set_option maxRecDepth 100000 in
theorem ct_ar_fill (l : Launch) (g : xg_G) (q : Nat) (nn : Nat) (f : Nat → Int32) (x : Int32) (qn : nn < 5000) : kc_V l yy_AR_fill cd_AR_fill 4 { frames := 0, cells := 0, slots := 0, locals := 0 } g [.ref q, .int x] [oc_i g q nn f] (S := (Nat → Int32)) (fun _ => True) (fun u0 => [oc_i g q nn u0]) := by
  refine kc_Vof (by decide) (Nat.le_of_ble_eq_true rfl) ?_
  intro p e s m args below meth c A ls Q H locs hQ hB hP hS
  obtain ⟨hx, hb, hr, hlk, hin, hml, hown, hts, hA, hK, hD, hE, hl⟩ := hB
  have hF : xf_F g p m c cd_AR_fill 4 s args "java/util/Arrays" A := ⟨⟨hx, hb, hml, hown, hts⟩, hE, hK, hA⟩
  have hl : lv_has ls 4 [(0, .ref q), (1, .int x)] := hl
  have hown : s.vm.findClass "java/util/Arrays" = some m.cls := hown
  refine lv_iconst (v := nI 0) hx hb dd_AR_fill_0 (by decide) ?_
  refine lv_istore_n (lv' := [(2, .int (nI 0)), (0, .ref q), (1, .int x)]) hx hb dd_AR_fill_1 rfl hl (by decide) rfl (fun ls hl => ?_)
  refine lv_aload_n hx hb dd_AR_fill_2 rfl (lv_at hl 1 rfl) ?_
  refine xa_len hx hb hK hP 0 rfl dd_AR_fill_3 ?_
  refine lv_istore_n (lv' := [(3, .int (nI nn)), (2, .int (nI 0)), (0, .ref q), (1, .int x)]) hx hb dd_AR_fill_4 rfl hl (by decide) rfl (fun ls hl => ?_)
  have lp_1 : ∀ (n1 : Nat) (i : Nat) (f : Nat → Int32) (H : Heap) (locs : List Loc) (ls : Array Slot), nn - i = n1 → (i ≤ nn) → lv_has ls 4 [(0, .ref q), (1, .int x), (2, .int (nI i)), (3, .int (nI nn))] → va_P g.1 vwCl [oc_i g q nn f] H → va_D A [oc_i g q nn f] → va_S A s.heap H locs → W p l e { frames := 0, cells := 0, slots := 0, locals := 0 } s m args below meth c H locs 0 0 Q (F0 m 5 ls []) := by
    intro n1
    induction n1 using Nat.strongRecOn with
    | _ n1 ih1 =>
    intro i f H locs ls hmn1 qi hl hP hD hS
    refine lv_iload_n hx hb dd_AR_fill_5 rfl (lv_at hl 2 rfl) ?_
    refine lv_iload_n hx hb dd_AR_fill_6 rfl (lv_at hl 3 rfl) ?_
    refine xb_ge (tgt := 20) hx hb (by omega) (by omega) dd_AR_fill_7 rfl (fun h_2 => ?_) (fun h_2 => ?_)
    · exact xr_v hx hb hr hlk hQ hP hD hS (f) trivial [0] (by decide) rfl (Nat.le_of_ble_eq_true rfl) (Nat.le_of_ble_eq_true rfl) dd_AR_fill_20
    · refine lv_aload_n hx hb dd_AR_fill_10 rfl (lv_at hl 0 rfl) ?_
      refine lv_iload_n hx hb dd_AR_fill_11 rfl (lv_at hl 2 rfl) ?_
      refine lv_iload_n hx hb dd_AR_fill_12 rfl (lv_at hl 1 rfl) ?_
      refine xa_st hx hb hK hP hD hS 0 rfl (j := i) (by omega) (by omega) dd_AR_fill_13 (fun f_3 H locs hP hD hS => ?_)
      have hP : va_P g.1 vwCl [oc_i g q nn f_3] H := hP
      have hD : va_D A [oc_i g q nn f_3] := hD
      refine lv_iinc (k := 2) (lv' := [(2, .int (nI (i + 1))), (0, .ref q), (1, .int x), (3, .int (nI nn))]) hx hb dd_AR_fill_14 hl rfl (xi_inc _) (by decide) rfl (fun ls hl => ?_)
      refine lv_goto (tgt := 5) hx hb dd_AR_fill_17 rfl ?_
      exact ih1 _ (by omega) (i + 1) f_3 H locs ls rfl (by omega) (lv_sub hl [1, 2, 0, 3] rfl) (hP.sub [0] rfl) (hD.sub [0] (by decide) rfl) hS
  exact lp_1 _ 0 f H locs ls rfl (by omega) (lv_sub hl [2, 3, 1, 0] rfl) (hP.sub [0] rfl) (hD.sub [0] (by decide) rfl) hS

set_option maxHeartbeats 4000000 in
set_option maxRecDepth 100000 in
theorem ct_sy_begin (l : Launch) (g : xg_G) (h : Nat) (p9 : Nat) (rr : Nat) (cc : Nat) (r2 : Nat) (c2 : Nat) (f : Nat → Int32) : kc_V l yy_SY_begin cd_SY_begin 3 { frames := 1, cells := 0, slots := 0, locals := 23 } g [.ref h, .int (nI r2), .int (nI c2)] [oc_o h 7 [.ref p9, .int (nI rr), .int (nI cc)], oc_i g p9 1108 f] (S := (Nat → Int32)) (fun _ => True) (fun u0 => [oc_o h 7 [.ref p9, .int (nI r2), .int (nI c2)], oc_i g p9 1108 u0]) := by
  refine kc_Vof (by decide) (Nat.le_of_ble_eq_true rfl) ?_
  intro p e s m args below meth c A ls Q H locs hQ hB hP hS
  obtain ⟨hx, hb, hr, hlk, hin, hml, hown, hts, hA, hK, hD, hE, hl⟩ := hB
  have hF : xf_F g p m c cd_SY_begin 3 s args "StackedRows$Symbol" A := ⟨⟨hx, hb, hml, hown, hts⟩, hE, hK, hA⟩
  have hl : lv_has ls 3 [(0, .ref h), (1, .int (nI r2)), (2, .int (nI c2))] := hl
  have hown : s.vm.findClass "StackedRows$Symbol" = some m.cls := hown
  refine lv_aload_n hx hb dd_SY_begin_0 rfl (lv_at hl 0 rfl) ?_
  refine lv_iload_n hx hb dd_SY_begin_1 rfl (lv_at hl 1 rfl) ?_
  refine pf_SY_15 hx hb hts hown hK hP hD hS 0 rfl rfl rfl (Nat.le_of_ble_eq_true rfl) dd_SY_begin_2 (fun H locs hP hD hS => ?_)
  have hP : va_P g.1 vwCl [oc_o h 7 [.ref p9, .int (nI r2), .int (nI cc)], oc_i g p9 1108 f] H := hP
  have hD : va_D A [oc_o h 7 [.ref p9, .int (nI r2), .int (nI cc)], oc_i g p9 1108 f] := hD
  refine lv_aload_n hx hb dd_SY_begin_5 rfl (lv_at hl 0 rfl) ?_
  refine lv_iload_n hx hb dd_SY_begin_6 rfl (lv_at hl 2 rfl) ?_
  refine pf_SY_19 hx hb hts hown hK hP hD hS 0 rfl rfl rfl (Nat.le_of_ble_eq_true rfl) dd_SY_begin_7 (fun H locs hP hD hS => ?_)
  have hP : va_P g.1 vwCl [oc_o h 7 [.ref p9, .int (nI r2), .int (nI c2)], oc_i g p9 1108 f] H := hP
  have hD : va_D A [oc_o h 7 [.ref p9, .int (nI r2), .int (nI c2)], oc_i g p9 1108 f] := hD
  refine lv_aload_n hx hb dd_SY_begin_10 rfl (lv_at hl 0 rfl) ?_
  refine gf_SY_9 hx hb hts hown hK hP 0 rfl rfl dd_SY_begin_11 ?_
  refine lv_iconst (v := -1) hx hb dd_SY_begin_14 (by decide) ?_
  refine xc_Sv (wr := [oc_o h 7 [.ref p9, .int (nI r2), .int (nI c2)]]) (k1 := 0) (k2 := 0) (As := [.ref p9, .int (-1)]) (rest := []) (k := 2) hF hP hD hS (ct_ar_fill l g p9 1108 f (-1) (by omega)) wc_AR_fill wn_AR ml_SY_22 wz_AR_fill (by decide) [1] [0] ⟨rfl, rfl, by decide, by decide, by decide⟩ ⟨⟨Nat.le_of_ble_eq_true rfl, Nat.le_of_ble_eq_true rfl⟩, rfl, rfl, Nat.le_of_ble_eq_true rfl, Nat.le_of_ble_eq_true rfl⟩ rfl hl.1 rfl (Nat.le_of_ble_eq_true rfl) dd_SY_begin_15 (fun f_1 H locs hp hP hD hS => ?_)
  have hP : va_P g.1 vwCl [oc_o h 7 [.ref p9, .int (nI r2), .int (nI c2)], oc_i g p9 1108 f_1] H := hP
  have hD : va_D A [oc_o h 7 [.ref p9, .int (nI r2), .int (nI c2)], oc_i g p9 1108 f_1] := hD
  exact xr_v hx hb hr hlk hQ hP hD hS (f_1) trivial [0, 1] (by decide) rfl (Nat.le_of_ble_eq_true rfl) (Nat.le_of_ble_eq_true rfl) dd_SY_begin_18

set_option maxHeartbeats 4000000 in
set_option maxRecDepth 100000 in
theorem ct_sy_fill (l : Launch) (g : xg_G) (h : Nat) (p9 : Nat) (rw : Nat) (rr : Nat) (cc : Nat) (L : Nat) (f : Nat → Int32) (f0 : Nat → Int32) (qr : 3 ≤ rr) (qr2 : rr ≤ 90) (qc : 1 ≤ cc) (qc2 : cc ≤ 30) (qL : L ≤ 8) (qn : rr * cc ≤ 928) : kc_V l yy_SY_fill cd_SY_fill 5 { frames := 2, cells := 0, slots := 0, locals := 45 } g [.ref h, .ref rw, .int (nI L)] [oc_o h 7 [.ref p9, .int (nI rr), .int (nI cc)], oc_i g p9 1108 f, oc_i g rw 928 f0] (S := (Nat → Int32)) (fun _ => True) (fun u0 => [oc_o h 7 [.ref p9, .int (nI rr), .int (nI cc)], oc_i g p9 1108 u0, oc_i g rw 928 f0]) := by
  refine kc_Vof (by decide) (Nat.le_of_ble_eq_true rfl) ?_
  intro p e s m args below meth c A ls Q H locs hQ hB hP hS
  obtain ⟨hx, hb, hr, hlk, hin, hml, hown, hts, hA, hK, hD, hE, hl⟩ := hB
  have hF : xf_F g p m c cd_SY_fill 5 s args "StackedRows$Symbol" A := ⟨⟨hx, hb, hml, hown, hts⟩, hE, hK, hA⟩
  have hl : lv_has ls 5 [(0, .ref h), (1, .ref rw), (2, .int (nI L))] := hl
  have hown : s.vm.findClass "StackedRows$Symbol" = some m.cls := hown
  refine lv_iconst (v := nI 0) hx hb dd_SY_fill_0 (by decide) ?_
  refine lv_istore_n (lv' := [(3, .int (nI 0)), (0, .ref h), (1, .ref rw), (2, .int (nI L))]) hx hb dd_SY_fill_1 rfl hl (by decide) rfl (fun ls hl => ?_)
  have lp_1 : ∀ (n1 : Nat) (i : Nat) (f : Nat → Int32) (H : Heap) (locs : List Loc) (ls : Array Slot), rr - i = n1 → (i ≤ rr) → lv_has ls 5 [(0, .ref h), (1, .ref rw), (2, .int (nI L)), (3, .int (nI i))] → va_P g.1 vwCl [oc_o h 7 [.ref p9, .int (nI rr), .int (nI cc)], oc_i g p9 1108 f, oc_i g rw 928 f0] H → va_D A [oc_o h 7 [.ref p9, .int (nI rr), .int (nI cc)], oc_i g p9 1108 f, oc_i g rw 928 f0] → va_S A s.heap H locs → W p l e { frames := 2, cells := 0, slots := 0, locals := 45 } s m args below meth c H locs 0 0 Q (F0 m 2 ls []) := by
    intro n1
    induction n1 using Nat.strongRecOn with
    | _ n1 ih1 =>
    intro i f H locs ls hmn1 qi hl hP hD hS
    refine lv_iload_n hx hb dd_SY_fill_2 rfl (lv_at hl 3 rfl) ?_
    refine lv_aload_n hx hb dd_SY_fill_3 rfl (lv_at hl 0 rfl) ?_
    refine gf_SY_15 hx hb hts hown hK hP 0 rfl rfl dd_SY_fill_4 ?_
    refine xb_ge (tgt := 103) hx hb (by omega) (by omega) dd_SY_fill_7 rfl (fun qi9 => ?_) (fun qi9 => ?_)
    · exact xr_v hx hb hr hlk hQ hP hD hS (f) trivial [0, 1, 2] (by decide) rfl (Nat.le_of_ble_eq_true rfl) (Nat.le_of_ble_eq_true rfl) dd_SY_fill_103
    · refine lv_aload_n hx hb dd_SY_fill_10 rfl (lv_at hl 0 rfl) ?_
      refine lv_iload_n hx hb dd_SY_fill_11 rfl (lv_at hl 3 rfl) ?_
      refine lv_iconst (v := nI 0) hx hb dd_SY_fill_12 (by decide) ?_
      refine lv_bipush (v := nI 30) hx hb dd_SY_fill_13 (by decide) ?_
      refine lv_iload_n hx hb dd_SY_fill_15 rfl (lv_at hl 3 rfl) ?_
      refine lv_iconst (v := nI 3) hx hb dd_SY_fill_16 (by decide) ?_
      refine xi_idiv hx hb (by omega) (by omega) (by omega) dd_SY_fill_17 ?_
      refine xi_imul hx hb dd_SY_fill_18 ?_
      refine lv_aload_n hx hb dd_SY_fill_19 rfl (lv_at hl 0 rfl) ?_
      refine lv_iload_n hx hb dd_SY_fill_20 rfl (lv_at hl 3 rfl) ?_
      refine xc_Si (wr := [oc_o h 7 [.ref p9, .int (nI rr), .int (nI cc)], oc_i g p9 1108 f, oc_i g rw 928 f0]) (k1 := 0) (k2 := 0) (As := [.int (nI i)]) (rest := [.ref h, .int (nI (30 * (i / 3))), .int (nI 0), .int (nI i), .ref h]) (k := 1) hF hP hD hS (ct_sy_left l g i (by omega)) wc_SY_leftKind wn_SY ml_SY_32 wz_SY_leftKind (by decide) [] [0, 1, 2] ⟨rfl, rfl, by decide, by decide, by decide⟩ ⟨⟨Nat.le_of_ble_eq_true rfl, Nat.le_of_ble_eq_true rfl⟩, rfl, rfl, Nat.le_of_ble_eq_true rfl, Nat.le_of_ble_eq_true rfl⟩ rfl hl.1 rfl (Nat.le_of_ble_eq_true rfl) dd_SY_fill_21 (fun r_2 u H locs hp hP hD hS => ?_)
      obtain rfl := hp
      have hP : va_P g.1 vwCl [oc_o h 7 [.ref p9, .int (nI rr), .int (nI cc)], oc_i g p9 1108 f, oc_i g rw 928 f0] H := hP
      have hD : va_D A [oc_o h 7 [.ref p9, .int (nI rr), .int (nI cc)], oc_i g p9 1108 f, oc_i g rw 928 f0] := hD
      refine lv_iload_n hx hb dd_SY_fill_24 rfl (lv_at hl 2 rfl) ?_
      have q3 : i % 3 < 3 := Nat.mod_lt _ (by decide)
      refine xc_Vi (wr := [oc_i g p9 1108 f, oc_i g rw 928 f0]) (k1 := 0) (k2 := 0) (As := [.int (nI (i % 3)), .int (nI L)]) (rest := [.int (nI (30 * (i / 3))), .int (nI 0), .int (nI i), .ref h]) (k := 2) hF hP hD hS (ct_sy_ind l g h p9 rr cc (i % 3) L (by omega) (by omega) (by omega) (by omega) (by omega) (by omega)) (xt_V ml_SY_36 wi_SY_indicated wx_SY_indicated wn_SY wc_SY_indicated) (by decide) 0 rfl rfl rfl [0] [1, 2] ⟨rfl, rfl, by decide, by decide, by decide⟩ ⟨⟨Nat.le_of_ble_eq_true rfl, Nat.le_of_ble_eq_true rfl⟩, rfl, rfl, Nat.le_of_ble_eq_true rfl, Nat.le_of_ble_eq_true rfl⟩ rfl hl.1 rfl (Nat.le_of_ble_eq_true rfl) dd_SY_fill_25 (fun r_3 u H locs hp hP hD hS => ?_)
      have hP : va_P g.1 vwCl [oc_i g p9 1108 f, oc_i g rw 928 f0, oc_o h 7 [.ref p9, .int (nI rr), .int (nI cc)]] H := hP
      have hD : va_D A [oc_i g p9 1108 f, oc_i g rw 928 f0, oc_o h 7 [.ref p9, .int (nI rr), .int (nI cc)]] := hD
      refine lv_iadd hx hb dd_SY_fill_28 (lv_topi (fun x_4 _ => ?_))
      have qix := xr_ix (j := 0) qi9 (by omega) qr2 qn
      refine xc_Vv (wr := [oc_i g rw 928 f0]) (k1 := 0) (k2 := 0) (As := [.int (nI i), .int (nI 0), .int x_4]) (rest := []) (k := 3) hF hP hD hS (ct_sy_set l g h p9 rr cc i 0 x_4 f (by omega) (by omega) (by omega) (by omega) (by omega) (by omega) (by omega)) (xt_V ml_SY_40 wi_SY_set wx_SY_set wn_SY wc_SY_set) (by decide) 2 rfl rfl rfl [2, 0] [1] ⟨rfl, rfl, by decide, by decide, by decide⟩ ⟨⟨Nat.le_of_ble_eq_true rfl, Nat.le_of_ble_eq_true rfl⟩, rfl, rfl, Nat.le_of_ble_eq_true rfl, Nat.le_of_ble_eq_true rfl⟩ rfl hl.1 rfl (Nat.le_of_ble_eq_true rfl) dd_SY_fill_29 (fun f_5 H locs hp hP hD hS => ?_)
      have hP : va_P g.1 vwCl [oc_i g rw 928 f0, oc_o h 7 [.ref p9, .int (nI rr), .int (nI cc)], oc_i g p9 1108 f_5] H := hP
      have hD : va_D A [oc_i g rw 928 f0, oc_o h 7 [.ref p9, .int (nI rr), .int (nI cc)], oc_i g p9 1108 f_5] := hD
      refine lv_aload_n hx hb dd_SY_fill_32 rfl (lv_at hl 0 rfl) ?_
      refine lv_iload_n hx hb dd_SY_fill_33 rfl (lv_at hl 3 rfl) ?_
      refine lv_aload_n hx hb dd_SY_fill_34 rfl (lv_at hl 0 rfl) ?_
      refine gf_SY_19 hx hb hts hown hK hP 1 rfl rfl dd_SY_fill_35 ?_
      refine lv_iconst (v := nI 1) hx hb dd_SY_fill_38 (by decide) ?_
      refine xi_iadd hx hb dd_SY_fill_39 ?_
      refine lv_bipush (v := nI 30) hx hb dd_SY_fill_40 (by decide) ?_
      refine lv_iload_n hx hb dd_SY_fill_42 rfl (lv_at hl 3 rfl) ?_
      refine lv_iconst (v := nI 3) hx hb dd_SY_fill_43 (by decide) ?_
      refine xi_idiv hx hb (by omega) (by omega) (by omega) dd_SY_fill_44 ?_
      refine xi_imul hx hb dd_SY_fill_45 ?_
      refine lv_aload_n hx hb dd_SY_fill_46 rfl (lv_at hl 0 rfl) ?_
      refine lv_iload_n hx hb dd_SY_fill_47 rfl (lv_at hl 3 rfl) ?_
      refine xc_Si (wr := [oc_i g rw 928 f0, oc_o h 7 [.ref p9, .int (nI rr), .int (nI cc)], oc_i g p9 1108 f_5]) (k1 := 0) (k2 := 0) (As := [.int (nI i)]) (rest := [.ref h, .int (nI (30 * (i / 3))), .int (nI (cc + 1)), .int (nI i), .ref h]) (k := 1) hF hP hD hS (ct_sy_right l g i (by omega)) wc_SY_rightKind wn_SY ml_SY_44 wz_SY_rightKind (by decide) [] [0, 1, 2] ⟨rfl, rfl, by decide, by decide, by decide⟩ ⟨⟨Nat.le_of_ble_eq_true rfl, Nat.le_of_ble_eq_true rfl⟩, rfl, rfl, Nat.le_of_ble_eq_true rfl, Nat.le_of_ble_eq_true rfl⟩ rfl hl.1 rfl (Nat.le_of_ble_eq_true rfl) dd_SY_fill_48 (fun r_7 u H locs hp hP hD hS => ?_)
      obtain rfl := hp
      have hP : va_P g.1 vwCl [oc_i g rw 928 f0, oc_o h 7 [.ref p9, .int (nI rr), .int (nI cc)], oc_i g p9 1108 f_5] H := hP
      have hD : va_D A [oc_i g rw 928 f0, oc_o h 7 [.ref p9, .int (nI rr), .int (nI cc)], oc_i g p9 1108 f_5] := hD
      refine lv_iload_n hx hb dd_SY_fill_51 rfl (lv_at hl 2 rfl) ?_
      have q3 : (i + 2) % 3 < 3 := Nat.mod_lt _ (by decide)
      refine xc_Vi (wr := [oc_i g rw 928 f0, oc_i g p9 1108 f_5]) (k1 := 0) (k2 := 0) (As := [.int (nI ((i + 2) % 3)), .int (nI L)]) (rest := [.int (nI (30 * (i / 3))), .int (nI (cc + 1)), .int (nI i), .ref h]) (k := 2) hF hP hD hS (ct_sy_ind l g h p9 rr cc ((i + 2) % 3) L (by omega) (by omega) (by omega) (by omega) (by omega) (by omega)) (xt_V ml_SY_36 wi_SY_indicated wx_SY_indicated wn_SY wc_SY_indicated) (by decide) 1 rfl rfl rfl [1] [0, 2] ⟨rfl, rfl, by decide, by decide, by decide⟩ ⟨⟨Nat.le_of_ble_eq_true rfl, Nat.le_of_ble_eq_true rfl⟩, rfl, rfl, Nat.le_of_ble_eq_true rfl, Nat.le_of_ble_eq_true rfl⟩ rfl hl.1 rfl (Nat.le_of_ble_eq_true rfl) dd_SY_fill_52 (fun r_8 u H locs hp hP hD hS => ?_)
      have hP : va_P g.1 vwCl [oc_i g rw 928 f0, oc_i g p9 1108 f_5, oc_o h 7 [.ref p9, .int (nI rr), .int (nI cc)]] H := hP
      have hD : va_D A [oc_i g rw 928 f0, oc_i g p9 1108 f_5, oc_o h 7 [.ref p9, .int (nI rr), .int (nI cc)]] := hD
      refine lv_iadd hx hb dd_SY_fill_55 (lv_topi (fun x_9 _ => ?_))
      have qix := xr_ix (j := cc + 1) qi9 (by omega) qr2 qn
      refine xc_Vv (wr := [oc_i g rw 928 f0]) (k1 := 0) (k2 := 0) (As := [.int (nI i), .int (nI (cc + 1)), .int x_9]) (rest := []) (k := 3) hF hP hD hS (ct_sy_set l g h p9 rr cc i (cc + 1) x_9 f_5 (by omega) (by omega) (by omega) (by omega) (by omega) (by omega) (by omega)) (xt_V ml_SY_40 wi_SY_set wx_SY_set wn_SY wc_SY_set) (by decide) 2 rfl rfl rfl [2, 1] [0] ⟨rfl, rfl, by decide, by decide, by decide⟩ ⟨⟨Nat.le_of_ble_eq_true rfl, Nat.le_of_ble_eq_true rfl⟩, rfl, rfl, Nat.le_of_ble_eq_true rfl, Nat.le_of_ble_eq_true rfl⟩ rfl hl.1 rfl (Nat.le_of_ble_eq_true rfl) dd_SY_fill_56 (fun f_10 H locs hp hP hD hS => ?_)
      have hP : va_P g.1 vwCl [oc_i g rw 928 f0, oc_o h 7 [.ref p9, .int (nI rr), .int (nI cc)], oc_i g p9 1108 f_10] H := hP
      have hD : va_D A [oc_i g rw 928 f0, oc_o h 7 [.ref p9, .int (nI rr), .int (nI cc)], oc_i g p9 1108 f_10] := hD
      refine lv_iconst (v := nI 1) hx hb dd_SY_fill_59 (by decide) ?_
      refine lv_istore (lv' := [(4, .int (nI 1)), (0, .ref h), (1, .ref rw), (2, .int (nI L)), (3, .int (nI i))]) hx hb dd_SY_fill_60 hl (by decide) rfl (fun ls hl => ?_)
      have lp_12 : ∀ (n12 : Nat) (j : Nat) (f : Nat → Int32) (H : Heap) (locs : List Loc) (ls : Array Slot), cc + 1 - j = n12 → (1 ≤ j) → (j ≤ cc + 1) → lv_has ls 5 [(0, .ref h), (1, .ref rw), (2, .int (nI L)), (3, .int (nI i)), (4, .int (nI j))] → va_P g.1 vwCl [oc_o h 7 [.ref p9, .int (nI rr), .int (nI cc)], oc_i g p9 1108 f, oc_i g rw 928 f0] H → va_D A [oc_o h 7 [.ref p9, .int (nI rr), .int (nI cc)], oc_i g p9 1108 f, oc_i g rw 928 f0] → va_S A s.heap H locs → W p l e { frames := 2, cells := 0, slots := 0, locals := 45 } s m args below meth c H locs 0 0 Q (F0 m 62 ls []) := by
        intro n12
        induction n12 using Nat.strongRecOn with
        | _ n12 ih12 =>
        intro j f H locs ls hmn12 qj1 qj2 hl hP hD hS
        refine lv_iload hx hb dd_SY_fill_62 (lv_at hl 4 rfl) ?_
        refine lv_aload_n hx hb dd_SY_fill_64 rfl (lv_at hl 0 rfl) ?_
        refine gf_SY_19 hx hb hts hown hK hP 0 rfl rfl dd_SY_fill_65 ?_
        refine xb_gt (tgt := 97) hx hb (by omega) (by omega) dd_SY_fill_68 rfl (fun qj9 => ?_) (fun qj9 => ?_)
        · refine lv_iinc (k := 3) (lv' := [(3, .int (nI (i + 1))), (0, .ref h), (1, .ref rw), (2, .int (nI L)), (4, .int (nI j))]) hx hb dd_SY_fill_97 hl rfl (xi_inc _) (by decide) rfl (fun ls hl => ?_)
          refine lv_goto (tgt := 2) hx hb dd_SY_fill_100 rfl ?_
          exact ih1 _ (by omega) (i + 1) f H locs ls rfl (by omega) (lv_sub hl [1, 2, 3, 0] rfl) (hP.sub [0, 1, 2] rfl) (hD.sub [0, 1, 2] (by decide) rfl) hS
        · refine lv_aload_n hx hb dd_SY_fill_71 rfl (lv_at hl 0 rfl) ?_
          refine lv_iload_n hx hb dd_SY_fill_72 rfl (lv_at hl 3 rfl) ?_
          refine lv_iload hx hb dd_SY_fill_73 (lv_at hl 4 rfl) ?_
          refine lv_aload_n hx hb dd_SY_fill_75 rfl (lv_at hl 1 rfl) ?_
          refine lv_iload_n hx hb dd_SY_fill_76 rfl (lv_at hl 3 rfl) ?_
          refine lv_aload_n hx hb dd_SY_fill_77 rfl (lv_at hl 0 rfl) ?_
          refine gf_SY_19 hx hb hts hown hK hP 0 rfl rfl dd_SY_fill_78 ?_
          refine xi_imul hx hb dd_SY_fill_81 ?_
          refine lv_iload hx hb dd_SY_fill_82 (lv_at hl 4 rfl) ?_
          refine xi_iadd hx hb dd_SY_fill_84 ?_
          refine lv_iconst (v := nI 1) hx hb dd_SY_fill_85 (by decide) ?_
          refine xi_isub hx hb (by omega) dd_SY_fill_86 ?_
          have qiy := xr_iy qi9 qj1 qj9
          refine xa_ld hx hb hK hP 2 rfl (j := (i * cc + j) - 1) (by omega) (by omega) dd_SY_fill_87 ?_
          have qix := xr_ix (j := j) qi9 (by omega) qr2 qn
          refine xc_Vv (wr := [oc_i g rw 928 f0]) (k1 := 0) (k2 := 0) (As := [.int (nI i), .int (nI j), .int (f0 ((i * cc + j) - 1))]) (rest := []) (k := 3) hF hP hD hS (ct_sy_set l g h p9 rr cc i j (f0 ((i * cc + j) - 1)) f (by omega) (by omega) (by omega) (by omega) (by omega) (by omega) (by omega)) (xt_V ml_SY_40 wi_SY_set wx_SY_set wn_SY wc_SY_set) (by decide) 0 rfl rfl rfl [0, 1] [2] ⟨rfl, rfl, by decide, by decide, by decide⟩ ⟨⟨Nat.le_of_ble_eq_true rfl, Nat.le_of_ble_eq_true rfl⟩, rfl, rfl, Nat.le_of_ble_eq_true rfl, Nat.le_of_ble_eq_true rfl⟩ rfl hl.1 rfl (Nat.le_of_ble_eq_true rfl) dd_SY_fill_88 (fun f_13 H locs hp hP hD hS => ?_)
          have hP : va_P g.1 vwCl [oc_i g rw 928 f0, oc_o h 7 [.ref p9, .int (nI rr), .int (nI cc)], oc_i g p9 1108 f_13] H := hP
          have hD : va_D A [oc_i g rw 928 f0, oc_o h 7 [.ref p9, .int (nI rr), .int (nI cc)], oc_i g p9 1108 f_13] := hD
          refine lv_iinc (k := 4) (lv' := [(4, .int (nI (j + 1))), (0, .ref h), (1, .ref rw), (2, .int (nI L)), (3, .int (nI i))]) hx hb dd_SY_fill_91 hl rfl (xi_inc _) (by decide) rfl (fun ls hl => ?_)
          refine lv_goto (tgt := 62) hx hb dd_SY_fill_94 rfl ?_
          exact ih12 _ (by omega) (j + 1) f_13 H locs ls rfl (by omega) (by omega) (lv_sub hl [1, 2, 3, 4, 0] rfl) (hP.sub [1, 2, 0] rfl) (hD.sub [1, 2, 0] (by decide) rfl) hS
      exact lp_12 _ 1 f_10 H locs ls rfl (by omega) (by omega) (lv_sub hl [1, 2, 3, 4, 0] rfl) (hP.sub [1, 2, 0] rfl) (hD.sub [1, 2, 0] (by decide) rfl) hS
  exact lp_1 _ 0 f H locs ls rfl (by omega) (lv_sub hl [1, 2, 3, 0] rfl) (hP.sub [0, 1, 2] rfl) (hD.sub [0, 1, 2] (by decide) rfl) hS
