set_option maxHeartbeats 4000000 in
set_option maxRecDepth 100000 in
theorem ct_tape_init (l : Launch) (g : xg_G) (h : Nat) : kc_V l yy_TP_init cd_TP_init 1 { frames := 1, cells := 1, slots := 1200, locals := 12 } g [.ref h] [oc_o h 8 [.null, .int (nI 0)]] (S := Nat) (fun _ => True) (fun u0 => [oc_o h 8 [.ref u0, .int (nI 0)], oc_i g u0 1200 (fun _ => 0)]) := by
  refine kc_Vof (by decide) (Nat.le_of_ble_eq_true rfl) ?_
  intro p e s m args below meth c A ls Q H locs hQ hB hP hS
  obtain ⟨hx, hb, hr, hlk, hin, hml, hown, hts, hA, hK, hD, hE, hl⟩ := hB
  have hF : xf_F g p m c cd_TP_init 1 s args "StackedRows$Tape" A := ⟨⟨hx, hb, hml, hown, hts⟩, hE, hK, hA⟩
  have hl : lv_has ls 1 [(0, .ref h)] := hl
  have hown : s.vm.findClass "StackedRows$Tape" = some m.cls := hown
  refine lv_aload_n hx hb dd_TP_init_0 rfl (lv_at hl 0 rfl) ?_
  refine oi_TP_3 hx hb hts hown hml hl.1 (Nat.le_of_ble_eq_true rfl) (Nat.le_of_ble_eq_true rfl) dd_TP_init_1 ?_
  refine lv_aload_n hx hb dd_TP_init_4 rfl (lv_at hl 0 rfl) ?_
  refine lv_sipush (v := nI 1200) hx hb dd_TP_init_5 (by decide) ?_
  refine xa_newI (k1 := 1) (k2 := 1200) hx hb (hts _ wa_int) hK hP hD hS hA (by decide) rfl rfl (Nat.le_of_ble_eq_true rfl) (Nat.le_of_ble_eq_true rfl) dd_TP_init_8 (fun q_1 H hP hD hS => ?_)
  have hP : va_P g.1 vwCl [oc_o h 8 [.null, .int (nI 0)], oc_i g q_1 1200 (fun _ => 0)] H := hP
  have hD : va_D A [oc_o h 8 [.null, .int (nI 0)], oc_i g q_1 1200 (fun _ => 0)] := hD
  refine pf_TP_9 hin hx hb hts hown hK hP hD hS 0 rfl rfl rfl (Nat.le_of_ble_eq_true rfl) dd_TP_init_10 (fun H locs hP hD hS => ?_)
  have hP : va_P g.1 vwCl [oc_o h 8 [.ref q_1, .int (nI 0)], oc_i g q_1 1200 (fun _ => 0)] H := hP
  have hD : va_D A [oc_o h 8 [.ref q_1, .int (nI 0)], oc_i g q_1 1200 (fun _ => 0)] := hD
  refine lv_aload_n hx hb dd_TP_init_13 rfl (lv_at hl 0 rfl) ?_
  refine lv_iconst (v := nI 0) hx hb dd_TP_init_14 (by decide) ?_
  refine pf_TP_15 hx hb hts hown hK hP hD hS 0 rfl rfl rfl (Nat.le_of_ble_eq_true rfl) dd_TP_init_15 (fun H locs hP hD hS => ?_)
  have hP : va_P g.1 vwCl [oc_o h 8 [.ref q_1, .int (nI 0)], oc_i g q_1 1200 (fun _ => 0)] H := hP
  have hD : va_D A [oc_o h 8 [.ref q_1, .int (nI 0)], oc_i g q_1 1200 (fun _ => 0)] := hD
  exact xr_v hx hb hr hlk hQ hP hD hS (q_1) trivial [0, 1] (by decide) rfl (Nat.le_of_ble_eq_true rfl) (Nat.le_of_ble_eq_true rfl) dd_TP_init_18

set_option maxHeartbeats 4000000 in
set_option maxRecDepth 100000 in
theorem ct_tape_size (l : Launch) (g : xg_G) (h : Nat) (b : Nat) (k : Nat) : kc_I l yy_TP_size cd_TP_size 1 .int { frames := 0, cells := 0, slots := 0, locals := 0 } g [.ref h] [oc_o h 8 [.ref b, .int (nI k)]] (S := Unit) (fun r0 _ => r0 = nI k) (fun _ => [oc_o h 8 [.ref b, .int (nI k)]]) := by
  refine kc_Iof (by decide) (Nat.le_of_ble_eq_true rfl) ?_
  intro p e s m args below meth c A ls Q H locs hQ hB hP hS
  obtain ⟨hx, hb, hr, hlk, hin, hml, hown, hts, hA, hK, hD, hE, hl⟩ := hB
  have hF : xf_F g p m c cd_TP_size 1 s args "StackedRows$Tape" A := ⟨⟨hx, hb, hml, hown, hts⟩, hE, hK, hA⟩
  have hl : lv_has ls 1 [(0, .ref h)] := hl
  have hown : s.vm.findClass "StackedRows$Tape" = some m.cls := hown
  refine lv_aload_n hx hb dd_TP_size_0 rfl (lv_at hl 0 rfl) ?_
  refine gf_TP_15 hx hb hts hown hK hP 0 rfl rfl dd_TP_size_1 ?_
  exact xr_i hx hb hr hlk hQ hP hD hS () (by first | rfl | exact congrArg nI (by omega)) [0] (by decide) rfl rfl (Nat.le_of_ble_eq_true rfl) (Nat.le_of_ble_eq_true rfl) dd_TP_size_4

set_option maxHeartbeats 4000000 in
set_option maxRecDepth 100000 in
theorem ct_tape_add (l : Launch) (g : xg_G) (h : Nat) (b : Nat) (k : Nat) (f : Nat → Int32) (x : Int32) (qk : k < 1200) : kc_V l yy_TP_add cd_TP_add 2 { frames := 0, cells := 0, slots := 0, locals := 0 } g [.ref h, .int x] [oc_o h 8 [.ref b, .int (nI k)], oc_i g b 1200 f] (S := (Nat → Int32)) (fun _ => True) (fun u0 => [oc_o h 8 [.ref b, .int (nI (k + 1))], oc_i g b 1200 u0]) := by
  refine kc_Vof (by decide) (Nat.le_of_ble_eq_true rfl) ?_
  intro p e s m args below meth c A ls Q H locs hQ hB hP hS
  obtain ⟨hx, hb, hr, hlk, hin, hml, hown, hts, hA, hK, hD, hE, hl⟩ := hB
  have hF : xf_F g p m c cd_TP_add 2 s args "StackedRows$Tape" A := ⟨⟨hx, hb, hml, hown, hts⟩, hE, hK, hA⟩
  have hl : lv_has ls 2 [(0, .ref h), (1, .int x)] := hl
  have hown : s.vm.findClass "StackedRows$Tape" = some m.cls := hown
  refine lv_aload_n hx hb dd_TP_add_0 rfl (lv_at hl 0 rfl) ?_
  refine gf_TP_15 hx hb hts hown hK hP 0 rfl rfl dd_TP_add_1 ?_
  refine lv_sipush (v := nI 1200) hx hb dd_TP_add_4 (by decide) ?_
  refine xb_ge (tgt := 20) hx hb (by omega) (by omega) dd_TP_add_7 rfl (fun h_1 => False.elim (by omega)) (fun h_1 => ?_)
  refine lv_aload_n hx hb dd_TP_add_10 rfl (lv_at hl 0 rfl) ?_
  refine gf_TP_9 hx hb hts hown hK hP 0 rfl rfl dd_TP_add_11 ?_
  refine lv_aload_n hx hb dd_TP_add_14 rfl (lv_at hl 0 rfl) ?_
  refine gf_TP_15 hx hb hts hown hK hP 0 rfl rfl dd_TP_add_15 ?_
  refine lv_iload_n hx hb dd_TP_add_18 rfl (lv_at hl 1 rfl) ?_
  refine xa_st hx hb hK hP hD hS 1 rfl (j := k) (by omega) (by omega) dd_TP_add_19 (fun f_2 H locs hP hD hS => ?_)
  have hP : va_P g.1 vwCl [oc_o h 8 [.ref b, .int (nI k)], oc_i g b 1200 f_2] H := hP
  have hD : va_D A [oc_o h 8 [.ref b, .int (nI k)], oc_i g b 1200 f_2] := hD
  refine lv_aload_n hx hb dd_TP_add_20 rfl (lv_at hl 0 rfl) ?_
  refine lv_dup hx hb dd_TP_add_21 rfl ?_
  refine gf_TP_15 hx hb hts hown hK hP 0 rfl rfl dd_TP_add_22 ?_
  refine lv_iconst (v := nI 1) hx hb dd_TP_add_25 (by decide) ?_
  refine xi_iadd hx hb dd_TP_add_26 ?_
  refine pf_TP_15 hx hb hts hown hK hP hD hS 0 rfl rfl rfl (Nat.le_of_ble_eq_true rfl) dd_TP_add_27 (fun H locs hP hD hS => ?_)
  have hP : va_P g.1 vwCl [oc_o h 8 [.ref b, .int (nI (k + 1))], oc_i g b 1200 f_2] H := hP
  have hD : va_D A [oc_o h 8 [.ref b, .int (nI (k + 1))], oc_i g b 1200 f_2] := hD
  exact xr_v hx hb hr hlk hQ hP hD hS (f_2) trivial [0, 1] (by decide) rfl (Nat.le_of_ble_eq_true rfl) (Nat.le_of_ble_eq_true rfl) dd_TP_add_30

set_option maxHeartbeats 4000000 in
set_option maxRecDepth 100000 in
theorem ct_tape_four (l : Launch) (g : xg_G) (h : Nat) (b : Nat) (k : Nat) (f : Nat → Int32) (x : Int32) (qk : k < 1190) : kc_V l yy_TP_addFour cd_TP_addFour 3 { frames := 1, cells := 0, slots := 0, locals := 21 } g [.ref h, .int x] [oc_o h 8 [.ref b, .int (nI k)], oc_i g b 1200 f] (S := (Nat → Int32)) (fun _ => True) (fun u0 => [oc_o h 8 [.ref b, .int (nI (k + 4))], oc_i g b 1200 u0]) := by
  refine kc_Vof (by decide) (Nat.le_of_ble_eq_true rfl) ?_
  intro p e s m args below meth c A ls Q H locs hQ hB hP hS
  obtain ⟨hx, hb, hr, hlk, hin, hml, hown, hts, hA, hK, hD, hE, hl⟩ := hB
  have hF : xf_F g p m c cd_TP_addFour 3 s args "StackedRows$Tape" A := ⟨⟨hx, hb, hml, hown, hts⟩, hE, hK, hA⟩
  have hl : lv_has ls 3 [(0, .ref h), (1, .int x)] := hl
  have hown : s.vm.findClass "StackedRows$Tape" = some m.cls := hown
  refine lv_bipush (v := nI 24) hx hb dd_TP_addFour_0 (by decide) ?_
  refine lv_istore_n (lv' := [(2, .int (nI 24)), (0, .ref h), (1, .int x)]) hx hb dd_TP_addFour_2 rfl hl (by decide) rfl (fun ls hl => ?_)
  refine lv_iload_n hx hb dd_TP_addFour_3 rfl (lv_at hl 0 rfl) ?_
  refine lv_if_lt (tgt := 24) hx hb dd_TP_addFour_4 rfl (fun h_1 => absurd h_1 (by decide)) (fun _ => ?_)
  refine lv_aload_n hx hb dd_TP_addFour_7 rfl (lv_at hl 1 rfl) ?_
  refine lv_iload_n hx hb dd_TP_addFour_8 rfl (lv_at hl 2 rfl) ?_
  refine lv_iload_n hx hb dd_TP_addFour_9 rfl (lv_at hl 0 rfl) ?_
  refine lv_ishr hx hb dd_TP_addFour_10 (lv_topi (fun x_2 _ => ?_))
  refine lv_sipush (v := nI 255) hx hb dd_TP_addFour_11 (by decide) ?_
  refine lv_iand hx hb dd_TP_addFour_14 (lv_topi (fun x_3 _ => ?_))
  refine xc_Vv (wr := []) (k1 := 0) (k2 := 0) (As := [.int x_3]) (rest := []) (k := 1) hF hP hD hS (ct_tape_add l g h b k f x_3 (by omega)) (xt_V ml_TP_19 wi_TP_add wx_TP_add wn_TP wc_TP_add) (by decide) 0 rfl rfl rfl [0, 1] [] ⟨rfl, rfl, by decide, by decide, by decide⟩ ⟨⟨Nat.le_of_ble_eq_true rfl, Nat.le_of_ble_eq_true rfl⟩, rfl, rfl, Nat.le_of_ble_eq_true rfl, Nat.le_of_ble_eq_true rfl⟩ rfl hl.1 rfl (Nat.le_of_ble_eq_true rfl) dd_TP_addFour_15 (fun f_4 H locs hp hP hD hS => ?_)
  have hP : va_P g.1 vwCl [oc_o h 8 [.ref b, .int (nI (k + 1))], oc_i g b 1200 f_4] H := hP
  have hD : va_D A [oc_o h 8 [.ref b, .int (nI (k + 1))], oc_i g b 1200 f_4] := hD
  refine lv_iinc (k := 0) (lv' := [(2, .int (nI 16)), (0, .ref h), (1, .int x)]) hx hb dd_TP_addFour_18 hl rfl (by decide) (by decide) rfl (fun ls hl => ?_)
  refine lv_goto (tgt := 3) hx hb dd_TP_addFour_21 rfl ?_
  refine lv_iload_n hx hb dd_TP_addFour_3 rfl (lv_at hl 0 rfl) ?_
  refine lv_if_lt (tgt := 24) hx hb dd_TP_addFour_4 rfl (fun h_6 => absurd h_6 (by decide)) (fun _ => ?_)
  refine lv_aload_n hx hb dd_TP_addFour_7 rfl (lv_at hl 1 rfl) ?_
  refine lv_iload_n hx hb dd_TP_addFour_8 rfl (lv_at hl 2 rfl) ?_
  refine lv_iload_n hx hb dd_TP_addFour_9 rfl (lv_at hl 0 rfl) ?_
  refine lv_ishr hx hb dd_TP_addFour_10 (lv_topi (fun x_7 _ => ?_))
  refine lv_sipush (v := nI 255) hx hb dd_TP_addFour_11 (by decide) ?_
  refine lv_iand hx hb dd_TP_addFour_14 (lv_topi (fun x_8 _ => ?_))
  refine xc_Vv (wr := []) (k1 := 0) (k2 := 0) (As := [.int x_8]) (rest := []) (k := 1) hF hP hD hS (ct_tape_add l g h b (k + 1) f_4 x_8 (by omega)) (xt_V ml_TP_19 wi_TP_add wx_TP_add wn_TP wc_TP_add) (by decide) 0 rfl rfl rfl [0, 1] [] ⟨rfl, rfl, by decide, by decide, by decide⟩ ⟨⟨Nat.le_of_ble_eq_true rfl, Nat.le_of_ble_eq_true rfl⟩, rfl, rfl, Nat.le_of_ble_eq_true rfl, Nat.le_of_ble_eq_true rfl⟩ rfl hl.1 rfl (Nat.le_of_ble_eq_true rfl) dd_TP_addFour_15 (fun f_9 H locs hp hP hD hS => ?_)
  have hP : va_P g.1 vwCl [oc_o h 8 [.ref b, .int (nI ((k + 1) + 1))], oc_i g b 1200 f_9] H := hP
  have hD : va_D A [oc_o h 8 [.ref b, .int (nI ((k + 1) + 1))], oc_i g b 1200 f_9] := hD
  refine lv_iinc (k := 0) (lv' := [(2, .int (nI 8)), (0, .ref h), (1, .int x)]) hx hb dd_TP_addFour_18 hl rfl (by decide) (by decide) rfl (fun ls hl => ?_)
  refine lv_goto (tgt := 3) hx hb dd_TP_addFour_21 rfl ?_
  refine lv_iload_n hx hb dd_TP_addFour_3 rfl (lv_at hl 0 rfl) ?_
  refine lv_if_lt (tgt := 24) hx hb dd_TP_addFour_4 rfl (fun h_11 => absurd h_11 (by decide)) (fun _ => ?_)
  refine lv_aload_n hx hb dd_TP_addFour_7 rfl (lv_at hl 1 rfl) ?_
  refine lv_iload_n hx hb dd_TP_addFour_8 rfl (lv_at hl 2 rfl) ?_
  refine lv_iload_n hx hb dd_TP_addFour_9 rfl (lv_at hl 0 rfl) ?_
  refine lv_ishr hx hb dd_TP_addFour_10 (lv_topi (fun x_12 _ => ?_))
  refine lv_sipush (v := nI 255) hx hb dd_TP_addFour_11 (by decide) ?_
  refine lv_iand hx hb dd_TP_addFour_14 (lv_topi (fun x_13 _ => ?_))
  refine xc_Vv (wr := []) (k1 := 0) (k2 := 0) (As := [.int x_13]) (rest := []) (k := 1) hF hP hD hS (ct_tape_add l g h b ((k + 1) + 1) f_9 x_13 (by omega)) (xt_V ml_TP_19 wi_TP_add wx_TP_add wn_TP wc_TP_add) (by decide) 0 rfl rfl rfl [0, 1] [] ⟨rfl, rfl, by decide, by decide, by decide⟩ ⟨⟨Nat.le_of_ble_eq_true rfl, Nat.le_of_ble_eq_true rfl⟩, rfl, rfl, Nat.le_of_ble_eq_true rfl, Nat.le_of_ble_eq_true rfl⟩ rfl hl.1 rfl (Nat.le_of_ble_eq_true rfl) dd_TP_addFour_15 (fun f_14 H locs hp hP hD hS => ?_)
  have hP : va_P g.1 vwCl [oc_o h 8 [.ref b, .int (nI (((k + 1) + 1) + 1))], oc_i g b 1200 f_14] H := hP
  have hD : va_D A [oc_o h 8 [.ref b, .int (nI (((k + 1) + 1) + 1))], oc_i g b 1200 f_14] := hD
  refine lv_iinc (k := 0) (lv' := [(2, .int (nI 0)), (0, .ref h), (1, .int x)]) hx hb dd_TP_addFour_18 hl rfl (by decide) (by decide) rfl (fun ls hl => ?_)
  refine lv_goto (tgt := 3) hx hb dd_TP_addFour_21 rfl ?_
  refine lv_iload_n hx hb dd_TP_addFour_3 rfl (lv_at hl 0 rfl) ?_
  refine lv_if_lt (tgt := 24) hx hb dd_TP_addFour_4 rfl (fun h_16 => absurd h_16 (by decide)) (fun _ => ?_)
  refine lv_aload_n hx hb dd_TP_addFour_7 rfl (lv_at hl 1 rfl) ?_
  refine lv_iload_n hx hb dd_TP_addFour_8 rfl (lv_at hl 2 rfl) ?_
  refine lv_iload_n hx hb dd_TP_addFour_9 rfl (lv_at hl 0 rfl) ?_
  refine lv_ishr hx hb dd_TP_addFour_10 (lv_topi (fun x_17 _ => ?_))
  refine lv_sipush (v := nI 255) hx hb dd_TP_addFour_11 (by decide) ?_
  refine lv_iand hx hb dd_TP_addFour_14 (lv_topi (fun x_18 _ => ?_))
  refine xc_Vv (wr := []) (k1 := 0) (k2 := 0) (As := [.int x_18]) (rest := []) (k := 1) hF hP hD hS (ct_tape_add l g h b (((k + 1) + 1) + 1) f_14 x_18 (by omega)) (xt_V ml_TP_19 wi_TP_add wx_TP_add wn_TP wc_TP_add) (by decide) 0 rfl rfl rfl [0, 1] [] ⟨rfl, rfl, by decide, by decide, by decide⟩ ⟨⟨Nat.le_of_ble_eq_true rfl, Nat.le_of_ble_eq_true rfl⟩, rfl, rfl, Nat.le_of_ble_eq_true rfl, Nat.le_of_ble_eq_true rfl⟩ rfl hl.1 rfl (Nat.le_of_ble_eq_true rfl) dd_TP_addFour_15 (fun f_19 H locs hp hP hD hS => ?_)
  have hP : va_P g.1 vwCl [oc_o h 8 [.ref b, .int (nI ((((k + 1) + 1) + 1) + 1))], oc_i g b 1200 f_19] H := hP
  have hD : va_D A [oc_o h 8 [.ref b, .int (nI ((((k + 1) + 1) + 1) + 1))], oc_i g b 1200 f_19] := hD
  refine lv_iinc (k := 0) (lv' := [(2, .int (-8)), (0, .ref h), (1, .int x)]) hx hb dd_TP_addFour_18 hl rfl (by decide) (by decide) rfl (fun ls hl => ?_)
  refine lv_goto (tgt := 3) hx hb dd_TP_addFour_21 rfl ?_
  refine lv_iload_n hx hb dd_TP_addFour_3 rfl (lv_at hl 0 rfl) ?_
  refine lv_if_lt (tgt := 24) hx hb dd_TP_addFour_4 rfl (fun _ => ?_) (fun h_21 => absurd (by decide) h_21)
  exact xr_v hx hb hr hlk hQ hP hD hS (f_19) trivial [0, 1] (by decide) rfl (Nat.le_of_ble_eq_true rfl) (Nat.le_of_ble_eq_true rfl) dd_TP_addFour_24

set_option maxHeartbeats 4000000 in
set_option maxRecDepth 100000 in
theorem ct_tape_cut (l : Launch) (g : xg_G) (h : Nat) (b : Nat) (k : Nat) (x : Int32) : kc_V l yy_TP_cut cd_TP_cut 2 { frames := 0, cells := 0, slots := 0, locals := 0 } g [.ref h, .int x] [oc_o h 8 [.ref b, .int (nI k)]] (S := Unit) (fun _ => True) (fun _ => [oc_o h 8 [.ref b, .int x]]) := by
  refine kc_Vof (by decide) (Nat.le_of_ble_eq_true rfl) ?_
  intro p e s m args below meth c A ls Q H locs hQ hB hP hS
  obtain ⟨hx, hb, hr, hlk, hin, hml, hown, hts, hA, hK, hD, hE, hl⟩ := hB
  have hF : xf_F g p m c cd_TP_cut 2 s args "StackedRows$Tape" A := ⟨⟨hx, hb, hml, hown, hts⟩, hE, hK, hA⟩
  have hl : lv_has ls 2 [(0, .ref h), (1, .int x)] := hl
  have hown : s.vm.findClass "StackedRows$Tape" = some m.cls := hown
  refine lv_aload_n hx hb dd_TP_cut_0 rfl (lv_at hl 0 rfl) ?_
  refine lv_iload_n hx hb dd_TP_cut_1 rfl (lv_at hl 1 rfl) ?_
  refine pf_TP_15 hx hb hts hown hK hP hD hS 0 rfl rfl rfl (Nat.le_of_ble_eq_true rfl) dd_TP_cut_2 (fun H locs hP hD hS => ?_)
  have hP : va_P g.1 vwCl [oc_o h 8 [.ref b, .int x]] H := hP
  have hD : va_D A [oc_o h 8 [.ref b, .int x]] := hD
  exact xr_v hx hb hr hlk hQ hP hD hS () trivial [0] (by decide) rfl (Nat.le_of_ble_eq_true rfl) (Nat.le_of_ble_eq_true rfl) dd_TP_cut_5

set_option maxHeartbeats 4000000 in
set_option maxRecDepth 100000 in
theorem ct_cw_init (l : Launch) (g : xg_G) (h : Nat) : kc_V l yy_CW_init cd_CW_init 1 { frames := 1, cells := 1, slots := 2400, locals := 12 } g [.ref h] [oc_o h 3 [.null, .int (nI 0)]] (S := Nat) (fun _ => True) (fun u0 => [oc_o h 3 [.ref u0, .int (nI 0)]]) := by
  refine kc_Vof (by decide) (Nat.le_of_ble_eq_true rfl) ?_
  intro p e s m args below meth c A ls Q H locs hQ hB hP hS
  obtain ⟨hx, hb, hr, hlk, hin, hml, hown, hts, hA, hK, hD, hE, hl⟩ := hB
  have hF : xf_F g p m c cd_CW_init 1 s args "StackedRows$Codewords" A := ⟨⟨hx, hb, hml, hown, hts⟩, hE, hK, hA⟩
  have hl : lv_has ls 1 [(0, .ref h)] := hl
  have hown : s.vm.findClass "StackedRows$Codewords" = some m.cls := hown
  refine lv_aload_n hx hb dd_CW_init_0 rfl (lv_at hl 0 rfl) ?_
  refine oi_CW_3 hx hb hts hown hml hl.1 (Nat.le_of_ble_eq_true rfl) (Nat.le_of_ble_eq_true rfl) dd_CW_init_1 ?_
  refine lv_aload_n hx hb dd_CW_init_4 rfl (lv_at hl 0 rfl) ?_
  refine lv_sipush (v := nI 2400) hx hb dd_CW_init_5 (by decide) ?_
  refine xa_newI (k1 := 1) (k2 := 2400) hx hb (hts _ wa_int) hK hP hD hS hA (by decide) rfl rfl (Nat.le_of_ble_eq_true rfl) (Nat.le_of_ble_eq_true rfl) dd_CW_init_8 (fun q_1 H hP hD hS => ?_)
  have hP : va_P g.1 vwCl [oc_o h 3 [.null, .int (nI 0)], oc_i g q_1 2400 (fun _ => 0)] H := hP
  have hD : va_D A [oc_o h 3 [.null, .int (nI 0)], oc_i g q_1 2400 (fun _ => 0)] := hD
  refine pf_CW_9 hin hx hb hts hown hK hP hD hS 0 rfl rfl rfl (Nat.le_of_ble_eq_true rfl) dd_CW_init_10 (fun H locs hP hD hS => ?_)
  have hP : va_P g.1 vwCl [oc_o h 3 [.ref q_1, .int (nI 0)], oc_i g q_1 2400 (fun _ => 0)] H := hP
  have hD : va_D A [oc_o h 3 [.ref q_1, .int (nI 0)], oc_i g q_1 2400 (fun _ => 0)] := hD
  refine lv_aload_n hx hb dd_CW_init_13 rfl (lv_at hl 0 rfl) ?_
  refine lv_iconst (v := nI 0) hx hb dd_CW_init_14 (by decide) ?_
  refine pf_CW_15 hx hb hts hown hK hP hD hS 0 rfl rfl rfl (Nat.le_of_ble_eq_true rfl) dd_CW_init_15 (fun H locs hP hD hS => ?_)
  have hP : va_P g.1 vwCl [oc_o h 3 [.ref q_1, .int (nI 0)], oc_i g q_1 2400 (fun _ => 0)] H := hP
  have hD : va_D A [oc_o h 3 [.ref q_1, .int (nI 0)], oc_i g q_1 2400 (fun _ => 0)] := hD
  exact xr_v hx hb hr hlk hQ hP hD hS (q_1) trivial [0] (by decide) rfl (Nat.le_of_ble_eq_true rfl) (Nat.le_of_ble_eq_true rfl) dd_CW_init_18

set_option maxHeartbeats 4000000 in
set_option maxRecDepth 100000 in
theorem ct_cw_size (l : Launch) (g : xg_G) (h : Nat) (b : Nat) (k : Nat) : kc_I l yy_CW_size cd_CW_size 1 .int { frames := 0, cells := 0, slots := 0, locals := 0 } g [.ref h] [oc_o h 3 [.ref b, .int (nI k)]] (S := Unit) (fun r0 _ => r0 = nI k) (fun _ => [oc_o h 3 [.ref b, .int (nI k)]]) := by
  refine kc_Iof (by decide) (Nat.le_of_ble_eq_true rfl) ?_
  intro p e s m args below meth c A ls Q H locs hQ hB hP hS
  obtain ⟨hx, hb, hr, hlk, hin, hml, hown, hts, hA, hK, hD, hE, hl⟩ := hB
  have hF : xf_F g p m c cd_CW_size 1 s args "StackedRows$Codewords" A := ⟨⟨hx, hb, hml, hown, hts⟩, hE, hK, hA⟩
  have hl : lv_has ls 1 [(0, .ref h)] := hl
  have hown : s.vm.findClass "StackedRows$Codewords" = some m.cls := hown
  refine lv_aload_n hx hb dd_CW_size_0 rfl (lv_at hl 0 rfl) ?_
  refine gf_CW_15 hx hb hts hown hK hP 0 rfl rfl dd_CW_size_1 ?_
  exact xr_i hx hb hr hlk hQ hP hD hS () (by first | rfl | exact congrArg nI (by omega)) [0] (by decide) rfl rfl (Nat.le_of_ble_eq_true rfl) (Nat.le_of_ble_eq_true rfl) dd_CW_size_4

set_option maxHeartbeats 4000000 in
set_option maxRecDepth 100000 in
theorem ct_cw_clear (l : Launch) (g : xg_G) (h : Nat) (b : Nat) (k : Nat) : kc_V l yy_CW_clear cd_CW_clear 1 { frames := 0, cells := 0, slots := 0, locals := 0 } g [.ref h] [oc_o h 3 [.ref b, .int (nI k)]] (S := Unit) (fun _ => True) (fun _ => [oc_o h 3 [.ref b, .int (nI 0)]]) := by
  refine kc_Vof (by decide) (Nat.le_of_ble_eq_true rfl) ?_
  intro p e s m args below meth c A ls Q H locs hQ hB hP hS
  obtain ⟨hx, hb, hr, hlk, hin, hml, hown, hts, hA, hK, hD, hE, hl⟩ := hB
  have hF : xf_F g p m c cd_CW_clear 1 s args "StackedRows$Codewords" A := ⟨⟨hx, hb, hml, hown, hts⟩, hE, hK, hA⟩
  have hl : lv_has ls 1 [(0, .ref h)] := hl
  have hown : s.vm.findClass "StackedRows$Codewords" = some m.cls := hown
  refine lv_aload_n hx hb dd_CW_clear_0 rfl (lv_at hl 0 rfl) ?_
  refine lv_iconst (v := nI 0) hx hb dd_CW_clear_1 (by decide) ?_
  refine pf_CW_15 hx hb hts hown hK hP hD hS 0 rfl rfl rfl (Nat.le_of_ble_eq_true rfl) dd_CW_clear_2 (fun H locs hP hD hS => ?_)
  have hP : va_P g.1 vwCl [oc_o h 3 [.ref b, .int (nI 0)]] H := hP
  have hD : va_D A [oc_o h 3 [.ref b, .int (nI 0)]] := hD
  exact xr_v hx hb hr hlk hQ hP hD hS () trivial [0] (by decide) rfl (Nat.le_of_ble_eq_true rfl) (Nat.le_of_ble_eq_true rfl) dd_CW_clear_5

set_option maxHeartbeats 4000000 in
set_option maxRecDepth 100000 in
theorem ct_bn_init15 (l : Launch) (g : xg_G) (h : Nat) : kc_V l yy_BN_init cd_BN_init 3 { frames := 1, cells := 1, slots := 15, locals := 16 } g [.ref h, .int (nI 900), .int (nI 15)] [oc_o h 1 [.int (nI 0), .null]] (S := Unit) (fun _ => True) (fun _ => []) := by
  refine kc_Vof (by decide) (Nat.le_of_ble_eq_true rfl) ?_
  intro p e s m args below meth c A ls Q H locs hQ hB hP hS
  obtain ⟨hx, hb, hr, hlk, hin, hml, hown, hts, hA, hK, hD, hE, hl⟩ := hB
  have hF : xf_F g p m c cd_BN_init 3 s args "StackedRows$BigNumber" A := ⟨⟨hx, hb, hml, hown, hts⟩, hE, hK, hA⟩
  have hl : lv_has ls 3 [(0, .ref h), (1, .int (nI 900)), (2, .int (nI 15))] := hl
  have hown : s.vm.findClass "StackedRows$BigNumber" = some m.cls := hown
  refine lv_aload_n hx hb dd_BN_init_0 rfl (lv_at hl 0 rfl) ?_
  refine oi_BN_1 hx hb hts hown hml hl.1 (Nat.le_of_ble_eq_true rfl) (Nat.le_of_ble_eq_true rfl) dd_BN_init_1 ?_
  refine lv_aload_n hx hb dd_BN_init_4 rfl (lv_at hl 0 rfl) ?_
  refine lv_iload_n hx hb dd_BN_init_5 rfl (lv_at hl 1 rfl) ?_
  refine lv_iconst (v := nI 2) hx hb dd_BN_init_6 (by decide) ?_
  refine mx_BN_7 hx hb hts hown hml hl.1 (Nat.le_of_ble_eq_true rfl) (Nat.le_of_ble_eq_true rfl) (Nat.le_of_ble_eq_true rfl) (Nat.le_of_ble_eq_true rfl) dd_BN_init_7 (xi_eq (v := nI 900) (by decide) ?_)
  refine pf_BN_13 hin hx hb hts hown hK hP hD hS 0 rfl rfl rfl (Nat.le_of_ble_eq_true rfl) dd_BN_init_10 (fun H locs hP hD hS => ?_)
  have hP : va_P g.1 vwCl [oc_o h 1 [.int (nI 900), .null]] H := hP
  have hD : va_D A [oc_o h 1 [.int (nI 900), .null]] := hD
  refine lv_aload_n hx hb dd_BN_init_13 rfl (lv_at hl 0 rfl) ?_
  refine lv_iload_n hx hb dd_BN_init_14 rfl (lv_at hl 2 rfl) ?_
  refine lv_iconst (v := nI 1) hx hb dd_BN_init_15 (by decide) ?_
  refine mx_BN_7 hx hb hts hown hml hl.1 (Nat.le_of_ble_eq_true rfl) (Nat.le_of_ble_eq_true rfl) (Nat.le_of_ble_eq_true rfl) (Nat.le_of_ble_eq_true rfl) dd_BN_init_16 (xi_eq (v := nI 15) (by decide) ?_)
  refine xa_newI (k1 := 1) (k2 := 15) hx hb (hts _ wa_int) hK hP hD hS hA (by decide) rfl rfl (Nat.le_of_ble_eq_true rfl) (Nat.le_of_ble_eq_true rfl) dd_BN_init_19 (fun q_1 H hP hD hS => ?_)
  have hP : va_P g.1 vwCl [oc_o h 1 [.int (nI 900), .null], oc_i g q_1 15 (fun _ => 0)] H := hP
  have hD : va_D A [oc_o h 1 [.int (nI 900), .null], oc_i g q_1 15 (fun _ => 0)] := hD
  refine pf_BN_19 hin hx hb hts hown hK hP hD hS 0 rfl rfl rfl (Nat.le_of_ble_eq_true rfl) dd_BN_init_21 (fun H locs hP hD hS => ?_)
  have hP : va_P g.1 vwCl [oc_o h 1 [.int (nI 900), .ref q_1], oc_i g q_1 15 (fun _ => 0)] H := hP
  have hD : va_D A [oc_o h 1 [.int (nI 900), .ref q_1], oc_i g q_1 15 (fun _ => 0)] := hD
  exact xr_v hx hb hr hlk hQ hP hD hS () trivial [] (by decide) rfl (Nat.le_of_ble_eq_true rfl) (Nat.le_of_ble_eq_true rfl) dd_BN_init_24

set_option maxHeartbeats 4000000 in
set_option maxRecDepth 100000 in
theorem ct_bn_init45 (l : Launch) (g : xg_G) (h : Nat) : kc_V l yy_BN_init cd_BN_init 3 { frames := 1, cells := 1, slots := 45, locals := 16 } g [.ref h, .int (nI 10), .int (nI 45)] [oc_o h 1 [.int (nI 0), .null]] (S := Unit) (fun _ => True) (fun _ => []) := by
  refine kc_Vof (by decide) (Nat.le_of_ble_eq_true rfl) ?_
  intro p e s m args below meth c A ls Q H locs hQ hB hP hS
  obtain ⟨hx, hb, hr, hlk, hin, hml, hown, hts, hA, hK, hD, hE, hl⟩ := hB
  have hF : xf_F g p m c cd_BN_init 3 s args "StackedRows$BigNumber" A := ⟨⟨hx, hb, hml, hown, hts⟩, hE, hK, hA⟩
  have hl : lv_has ls 3 [(0, .ref h), (1, .int (nI 10)), (2, .int (nI 45))] := hl
  have hown : s.vm.findClass "StackedRows$BigNumber" = some m.cls := hown
  refine lv_aload_n hx hb dd_BN_init_0 rfl (lv_at hl 0 rfl) ?_
  refine oi_BN_1 hx hb hts hown hml hl.1 (Nat.le_of_ble_eq_true rfl) (Nat.le_of_ble_eq_true rfl) dd_BN_init_1 ?_
  refine lv_aload_n hx hb dd_BN_init_4 rfl (lv_at hl 0 rfl) ?_
  refine lv_iload_n hx hb dd_BN_init_5 rfl (lv_at hl 1 rfl) ?_
  refine lv_iconst (v := nI 2) hx hb dd_BN_init_6 (by decide) ?_
  refine mx_BN_7 hx hb hts hown hml hl.1 (Nat.le_of_ble_eq_true rfl) (Nat.le_of_ble_eq_true rfl) (Nat.le_of_ble_eq_true rfl) (Nat.le_of_ble_eq_true rfl) dd_BN_init_7 (xi_eq (v := nI 10) (by decide) ?_)
  refine pf_BN_13 hin hx hb hts hown hK hP hD hS 0 rfl rfl rfl (Nat.le_of_ble_eq_true rfl) dd_BN_init_10 (fun H locs hP hD hS => ?_)
  have hP : va_P g.1 vwCl [oc_o h 1 [.int (nI 10), .null]] H := hP
  have hD : va_D A [oc_o h 1 [.int (nI 10), .null]] := hD
  refine lv_aload_n hx hb dd_BN_init_13 rfl (lv_at hl 0 rfl) ?_
  refine lv_iload_n hx hb dd_BN_init_14 rfl (lv_at hl 2 rfl) ?_
  refine lv_iconst (v := nI 1) hx hb dd_BN_init_15 (by decide) ?_
  refine mx_BN_7 hx hb hts hown hml hl.1 (Nat.le_of_ble_eq_true rfl) (Nat.le_of_ble_eq_true rfl) (Nat.le_of_ble_eq_true rfl) (Nat.le_of_ble_eq_true rfl) dd_BN_init_16 (xi_eq (v := nI 45) (by decide) ?_)
  refine xa_newI (k1 := 1) (k2 := 45) hx hb (hts _ wa_int) hK hP hD hS hA (by decide) rfl rfl (Nat.le_of_ble_eq_true rfl) (Nat.le_of_ble_eq_true rfl) dd_BN_init_19 (fun q_1 H hP hD hS => ?_)
  have hP : va_P g.1 vwCl [oc_o h 1 [.int (nI 10), .null], oc_i g q_1 45 (fun _ => 0)] H := hP
  have hD : va_D A [oc_o h 1 [.int (nI 10), .null], oc_i g q_1 45 (fun _ => 0)] := hD
  refine pf_BN_19 hin hx hb hts hown hK hP hD hS 0 rfl rfl rfl (Nat.le_of_ble_eq_true rfl) dd_BN_init_21 (fun H locs hP hD hS => ?_)
  have hP : va_P g.1 vwCl [oc_o h 1 [.int (nI 10), .ref q_1], oc_i g q_1 45 (fun _ => 0)] H := hP
  have hD : va_D A [oc_o h 1 [.int (nI 10), .ref q_1], oc_i g q_1 45 (fun _ => 0)] := hD
  exact xr_v hx hb hr hlk hQ hP hD hS () trivial [] (by decide) rfl (Nat.le_of_ble_eq_true rfl) (Nat.le_of_ble_eq_true rfl) dd_BN_init_24

set_option maxHeartbeats 4000000 in
set_option maxRecDepth 100000 in
theorem ct_tw_init (l : Launch) (g : xg_G) (h : Nat) (o : Nat) : kc_V l yy_TW_init cd_TW_init 2 { frames := 1, cells := 0, slots := 0, locals := 12 } g [.ref h, .ref o] [oc_o h 9 [.null, .null, .int (nI 0)]] (S := Value) (fun _ => True) (fun u0 => [oc_o h 9 [.ref o, u0, .int (-1)]]) := by
  refine kc_Vof (by decide) (Nat.le_of_ble_eq_true rfl) ?_
  intro p e s m args below meth c A ls Q H locs hQ hB hP hS
  obtain ⟨hx, hb, hr, hlk, hin, hml, hown, hts, hA, hK, hD, hE, hl⟩ := hB
  have hF : xf_F g p m c cd_TW_init 2 s args "StackedRows$TextWriter" A := ⟨⟨hx, hb, hml, hown, hts⟩, hE, hK, hA⟩
  have hl : lv_has ls 2 [(0, .ref h), (1, .ref o)] := hl
  have hown : s.vm.findClass "StackedRows$TextWriter" = some m.cls := hown
  refine lv_aload_n hx hb dd_TW_init_0 rfl (lv_at hl 0 rfl) ?_
  refine oi_TW_3 hx hb hts hown hml hl.1 (Nat.le_of_ble_eq_true rfl) (Nat.le_of_ble_eq_true rfl) dd_TW_init_1 ?_
  refine lv_aload_n hx hb dd_TW_init_4 rfl (lv_at hl 0 rfl) ?_
  refine lv_aload_n hx hb dd_TW_init_5 rfl (lv_at hl 1 rfl) ?_
  refine pf_TW_9 hin hx hb hts hown hK hP hD hS 0 rfl rfl rfl (Nat.le_of_ble_eq_true rfl) dd_TW_init_6 (fun H locs hP hD hS => ?_)
  have hP : va_P g.1 vwCl [oc_o h 9 [.ref o, .null, .int (nI 0)]] H := hP
  have hD : va_D A [oc_o h 9 [.ref o, .null, .int (nI 0)]] := hD
  refine lv_aload_n hx hb dd_TW_init_9 rfl (lv_at hl 0 rfl) ?_
  refine gs_TW_15 hx hb hts hown hE hS dd_TW_init_10 (fun v_1 hv_1 => ?_)
  refine pf_TW_21 hx hb hts hown hK hP hD hS 0 rfl (xs_nar hv_1) (xs_fit hv_1) (Nat.le_of_ble_eq_true rfl) dd_TW_init_13 (fun H locs hP hD hS => ?_)
  have hP : va_P g.1 vwCl [oc_o h 9 [.ref o, v_1, .int (nI 0)]] H := hP
  have hD : va_D A [oc_o h 9 [.ref o, v_1, .int (nI 0)]] := hD
  refine lv_aload_n hx hb dd_TW_init_16 rfl (lv_at hl 0 rfl) ?_
  refine lv_iconst (v := -1) hx hb dd_TW_init_17 (by decide) ?_
  refine pf_TW_24 hx hb hts hown hK hP hD hS 0 rfl rfl rfl (Nat.le_of_ble_eq_true rfl) dd_TW_init_18 (fun H locs hP hD hS => ?_)
  have hP : va_P g.1 vwCl [oc_o h 9 [.ref o, v_1, .int (-1)]] H := hP
  have hD : va_D A [oc_o h 9 [.ref o, v_1, .int (-1)]] := hD
  exact xr_v hx hb hr hlk hQ hP hD hS (v_1) trivial [0] (by decide) rfl (Nat.le_of_ble_eq_true rfl) (Nat.le_of_ble_eq_true rfl) dd_TW_init_21

set_option maxHeartbeats 4000000 in
set_option maxRecDepth 100000 in
theorem ct_tw_begin (l : Launch) (g : xg_G) (h : Nat) (o : Nat) (w : Value) (x : Int32) : kc_V l yy_TW_beginWithCapitals cd_TW_beginWithCapitals 1 { frames := 0, cells := 0, slots := 0, locals := 0 } g [.ref h] [oc_o h 9 [.ref o, w, .int x]] (S := Value) (fun _ => True) (fun u0 => [oc_o h 9 [.ref o, u0, .int x]]) := by
  refine kc_Vof (by decide) (Nat.le_of_ble_eq_true rfl) ?_
  intro p e s m args below meth c A ls Q H locs hQ hB hP hS
  obtain ⟨hx, hb, hr, hlk, hin, hml, hown, hts, hA, hK, hD, hE, hl⟩ := hB
  have hF : xf_F g p m c cd_TW_beginWithCapitals 1 s args "StackedRows$TextWriter" A := ⟨⟨hx, hb, hml, hown, hts⟩, hE, hK, hA⟩
  have hl : lv_has ls 1 [(0, .ref h)] := hl
  have hown : s.vm.findClass "StackedRows$TextWriter" = some m.cls := hown
  refine lv_aload_n hx hb dd_TW_beginWithCapitals_0 rfl (lv_at hl 0 rfl) ?_
  refine gs_TW_15 hx hb hts hown hE hS dd_TW_beginWithCapitals_1 (fun v_1 hv_1 => ?_)
  refine pf_TW_21 hx hb hts hown hK hP hD hS 0 rfl (xs_nar hv_1) (xs_fit hv_1) (Nat.le_of_ble_eq_true rfl) dd_TW_beginWithCapitals_4 (fun H locs hP hD hS => ?_)
  have hP : va_P g.1 vwCl [oc_o h 9 [.ref o, v_1, .int x]] H := hP
  have hD : va_D A [oc_o h 9 [.ref o, v_1, .int x]] := hD
  exact xr_v hx hb hr hlk hQ hP hD hS (v_1) trivial [0] (by decide) rfl (Nat.le_of_ble_eq_true rfl) (Nat.le_of_ble_eq_true rfl) dd_TW_beginWithCapitals_7

set_option maxHeartbeats 4000000 in
set_option maxRecDepth 100000 in
theorem ct_wr_init (l : Launch) (g : xg_G) (h : Nat) (t : Nat) : kc_V l yy_WR_init cd_WR_init 2 { frames := 2, cells := 7, slots := 4824, locals := 38 } g [.ref h, .ref t] [oc_o h 10 [.null, .null, .null, .null, .null, .null, .int (nI 0), .int (nI 0)]] (S := Nat × Nat × Nat × Nat × Nat × Nat × Value) (fun _ => True) (fun u0 => [oc_o h 10 [.ref t, .ref u0.1, .ref u0.2.1, .ref u0.2.2.1, .ref u0.2.2.2.1, .ref u0.2.2.2.2.1, .int (nI 900), .int (nI 0)], oc_o u0.1 3 [.ref u0.2.2.2.2.2.1, .int (nI 0)], oc_o u0.2.1 9 [.ref u0.1, u0.2.2.2.2.2.2, .int (-1)], oc_i g u0.2.2.2.1 1201 (fun _ => 0), oc_i g u0.2.2.2.2.1 1201 (fun _ => 0)]) := by
  refine kc_Vof (by decide) (Nat.le_of_ble_eq_true rfl) ?_
  intro p e s m args below meth c A ls Q H locs hQ hB hP hS
  obtain ⟨hx, hb, hr, hlk, hin, hml, hown, hts, hA, hK, hD, hE, hl⟩ := hB
  have hF : xf_F g p m c cd_WR_init 2 s args "StackedRows$Writer" A := ⟨⟨hx, hb, hml, hown, hts⟩, hE, hK, hA⟩
  have hl : lv_has ls 2 [(0, .ref h), (1, .ref t)] := hl
  have hown : s.vm.findClass "StackedRows$Writer" = some m.cls := hown
  refine lv_aload_n hx hb dd_WR_init_0 rfl (lv_at hl 0 rfl) ?_
  refine oi_WR_3 hx hb hts hown hml hl.1 (Nat.le_of_ble_eq_true rfl) (Nat.le_of_ble_eq_true rfl) dd_WR_init_1 ?_
  refine lv_aload_n hx hb dd_WR_init_4 rfl (lv_at hl 0 rfl) ?_
  refine lv_aload_n hx hb dd_WR_init_5 rfl (lv_at hl 1 rfl) ?_
  refine pf_WR_9 hin hx hb hts hown hK hP hD hS 0 rfl rfl rfl (Nat.le_of_ble_eq_true rfl) dd_WR_init_6 (fun H locs hP hD hS => ?_)
  have hP : va_P g.1 vwCl [oc_o h 10 [.ref t, .null, .null, .null, .null, .null, .int (nI 0), .int (nI 0)]] H := hP
  have hD : va_D A [oc_o h 10 [.ref t, .null, .null, .null, .null, .null, .int (nI 0), .int (nI 0)]] := hD
  refine lv_aload_n hx hb dd_WR_init_9 rfl (lv_at hl 0 rfl) ?_
  refine nw_WR_15 (k1 := 1) (k2 := 2) hx hb hts hown hK hP hD hS hA rfl rfl (Nat.le_of_ble_eq_true rfl) (Nat.le_of_ble_eq_true rfl) dd_WR_init_10 (fun q_1 H hP hD hS => ?_)
  have hP : va_P g.1 vwCl [oc_o h 10 [.ref t, .null, .null, .null, .null, .null, .int (nI 0), .int (nI 0)], oc_o q_1 3 [.null, .int (nI 0)]] H := hP
  have hD : va_D A [oc_o h 10 [.ref t, .null, .null, .null, .null, .null, .int (nI 0), .int (nI 0)], oc_o q_1 3 [.null, .int (nI 0)]] := hD
  refine lv_dup hx hb dd_WR_init_13 rfl ?_
  refine xc_Iv (wr := [oc_o h 10 [.ref t, .null, .null, .null, .null, .null, .int (nI 0), .int (nI 0)]]) (k1 := 2) (k2 := 2402) (As := []) (rest := [.ref q_1, .ref h]) (k := 0) hF hP hD hS (ct_cw_init l g q_1) wc_CW_init wn_CW ml_WR_17 wi_CW_init rfl (by decide) [1] [0] ⟨rfl, rfl, by decide, by decide, by decide⟩ ⟨⟨Nat.le_of_ble_eq_true rfl, Nat.le_of_ble_eq_true rfl⟩, rfl, rfl, Nat.le_of_ble_eq_true rfl, Nat.le_of_ble_eq_true rfl⟩ rfl hl.1 rfl (Nat.le_of_ble_eq_true rfl) dd_WR_init_14 (fun q_2 H locs hp hP hD hS => ?_)
  have hP : va_P g.1 vwCl [oc_o h 10 [.ref t, .null, .null, .null, .null, .null, .int (nI 0), .int (nI 0)], oc_o q_1 3 [.ref q_2, .int (nI 0)]] H := hP
  have hD : va_D A [oc_o h 10 [.ref t, .null, .null, .null, .null, .null, .int (nI 0), .int (nI 0)], oc_o q_1 3 [.ref q_2, .int (nI 0)]] := hD
  refine pf_WR_18 hin hx hb hts hown hK hP hD hS 0 rfl rfl rfl (Nat.le_of_ble_eq_true rfl) dd_WR_init_17 (fun H locs hP hD hS => ?_)
  have hP : va_P g.1 vwCl [oc_o h 10 [.ref t, .ref q_1, .null, .null, .null, .null, .int (nI 0), .int (nI 0)], oc_o q_1 3 [.ref q_2, .int (nI 0)]] H := hP
  have hD : va_D A [oc_o h 10 [.ref t, .ref q_1, .null, .null, .null, .null, .int (nI 0), .int (nI 0)], oc_o q_1 3 [.ref q_2, .int (nI 0)]] := hD
  refine lv_aload_n hx hb dd_WR_init_20 rfl (lv_at hl 0 rfl) ?_
  refine nw_WR_22 (k1 := 3) (k2 := 2405) hx hb hts hown hK hP hD hS hA rfl rfl (Nat.le_of_ble_eq_true rfl) (Nat.le_of_ble_eq_true rfl) dd_WR_init_21 (fun q_4 H hP hD hS => ?_)
  have hP : va_P g.1 vwCl [oc_o h 10 [.ref t, .ref q_1, .null, .null, .null, .null, .int (nI 0), .int (nI 0)], oc_o q_1 3 [.ref q_2, .int (nI 0)], oc_o q_4 9 [.null, .null, .int (nI 0)]] H := hP
  have hD : va_D A [oc_o h 10 [.ref t, .ref q_1, .null, .null, .null, .null, .int (nI 0), .int (nI 0)], oc_o q_1 3 [.ref q_2, .int (nI 0)], oc_o q_4 9 [.null, .null, .int (nI 0)]] := hD
  refine lv_dup hx hb dd_WR_init_24 rfl ?_
  refine lv_aload_n hx hb dd_WR_init_25 rfl (lv_at hl 0 rfl) ?_
  refine gf_WR_18 hx hb hts hown hK hP 0 rfl rfl dd_WR_init_26 ?_
  refine xc_Iv (wr := [oc_o h 10 [.ref t, .ref q_1, .null, .null, .null, .null, .int (nI 0), .int (nI 0)], oc_o q_1 3 [.ref q_2, .int (nI 0)]]) (k1 := 3) (k2 := 2405) (As := [.ref q_1]) (rest := [.ref q_4, .ref h]) (k := 1) hF hP hD hS (ct_tw_init l g q_4 q_1) wc_TW_init wn_TW ml_WR_24 wi_TW_init rfl (by decide) [2] [0, 1] ⟨rfl, rfl, by decide, by decide, by decide⟩ ⟨⟨Nat.le_of_ble_eq_true rfl, Nat.le_of_ble_eq_true rfl⟩, rfl, rfl, Nat.le_of_ble_eq_true rfl, Nat.le_of_ble_eq_true rfl⟩ rfl hl.1 rfl (Nat.le_of_ble_eq_true rfl) dd_WR_init_29 (fun v_5 H locs hp hP hD hS => ?_)
  have hP : va_P g.1 vwCl [oc_o h 10 [.ref t, .ref q_1, .null, .null, .null, .null, .int (nI 0), .int (nI 0)], oc_o q_1 3 [.ref q_2, .int (nI 0)], oc_o q_4 9 [.ref q_1, v_5, .int (-1)]] H := hP
  have hD : va_D A [oc_o h 10 [.ref t, .ref q_1, .null, .null, .null, .null, .int (nI 0), .int (nI 0)], oc_o q_1 3 [.ref q_2, .int (nI 0)], oc_o q_4 9 [.ref q_1, v_5, .int (-1)]] := hD
  refine pf_WR_27 hin hx hb hts hown hK hP hD hS 0 rfl rfl rfl (Nat.le_of_ble_eq_true rfl) dd_WR_init_32 (fun H locs hP hD hS => ?_)
  have hP : va_P g.1 vwCl [oc_o h 10 [.ref t, .ref q_1, .ref q_4, .null, .null, .null, .int (nI 0), .int (nI 0)], oc_o q_1 3 [.ref q_2, .int (nI 0)], oc_o q_4 9 [.ref q_1, v_5, .int (-1)]] H := hP
  have hD : va_D A [oc_o h 10 [.ref t, .ref q_1, .ref q_4, .null, .null, .null, .int (nI 0), .int (nI 0)], oc_o q_1 3 [.ref q_2, .int (nI 0)], oc_o q_4 9 [.ref q_1, v_5, .int (-1)]] := hD
  refine lv_aload_n hx hb dd_WR_init_35 rfl (lv_at hl 0 rfl) ?_
  refine nw_WR_31 (k1 := 4) (k2 := 2407) hx hb hts hown hK hP hD hS hA rfl rfl (Nat.le_of_ble_eq_true rfl) (Nat.le_of_ble_eq_true rfl) dd_WR_init_36 (fun q_7 H hP hD hS => ?_)
  have hP : va_P g.1 vwCl [oc_o h 10 [.ref t, .ref q_1, .ref q_4, .null, .null, .null, .int (nI 0), .int (nI 0)], oc_o q_1 3 [.ref q_2, .int (nI 0)], oc_o q_4 9 [.ref q_1, v_5, .int (-1)], oc_o q_7 1 [.int (nI 0), .null]] H := hP
  have hD : va_D A [oc_o h 10 [.ref t, .ref q_1, .ref q_4, .null, .null, .null, .int (nI 0), .int (nI 0)], oc_o q_1 3 [.ref q_2, .int (nI 0)], oc_o q_4 9 [.ref q_1, v_5, .int (-1)], oc_o q_7 1 [.int (nI 0), .null]] := hD
  refine lv_dup hx hb dd_WR_init_39 rfl ?_
  refine lv_sipush (v := nI 900) hx hb dd_WR_init_40 (by decide) ?_
  refine lv_bipush (v := nI 15) hx hb dd_WR_init_43 (by decide) ?_
  refine xc_Iv (wr := [oc_o h 10 [.ref t, .ref q_1, .ref q_4, .null, .null, .null, .int (nI 0), .int (nI 0)], oc_o q_1 3 [.ref q_2, .int (nI 0)], oc_o q_4 9 [.ref q_1, v_5, .int (-1)]]) (k1 := 5) (k2 := 2422) (As := [.int (nI 900), .int (nI 15)]) (rest := [.ref q_7, .ref h]) (k := 2) hF hP hD hS (ct_bn_init15 l g q_7) wc_BN_init wn_BN ml_WR_33 wi_BN_init rfl (by decide) [3] [0, 1, 2] ⟨rfl, rfl, by decide, by decide, by decide⟩ ⟨⟨Nat.le_of_ble_eq_true rfl, Nat.le_of_ble_eq_true rfl⟩, rfl, rfl, Nat.le_of_ble_eq_true rfl, Nat.le_of_ble_eq_true rfl⟩ rfl hl.1 rfl (Nat.le_of_ble_eq_true rfl) dd_WR_init_45 (fun u H locs hp hP hD hS => ?_)
  have hP : va_P g.1 vwCl [oc_o h 10 [.ref t, .ref q_1, .ref q_4, .null, .null, .null, .int (nI 0), .int (nI 0)], oc_o q_1 3 [.ref q_2, .int (nI 0)], oc_o q_4 9 [.ref q_1, v_5, .int (-1)]] H := hP
  have hD : va_D A [oc_o h 10 [.ref t, .ref q_1, .ref q_4, .null, .null, .null, .int (nI 0), .int (nI 0)], oc_o q_1 3 [.ref q_2, .int (nI 0)], oc_o q_4 9 [.ref q_1, v_5, .int (-1)]] := hD
  refine pf_WR_36 hin hx hb hts hown hK hP hD hS 0 rfl rfl rfl (Nat.le_of_ble_eq_true rfl) dd_WR_init_48 (fun H locs hP hD hS => ?_)
  have hP : va_P g.1 vwCl [oc_o h 10 [.ref t, .ref q_1, .ref q_4, .ref q_7, .null, .null, .int (nI 0), .int (nI 0)], oc_o q_1 3 [.ref q_2, .int (nI 0)], oc_o q_4 9 [.ref q_1, v_5, .int (-1)]] H := hP
  have hD : va_D A [oc_o h 10 [.ref t, .ref q_1, .ref q_4, .ref q_7, .null, .null, .int (nI 0), .int (nI 0)], oc_o q_1 3 [.ref q_2, .int (nI 0)], oc_o q_4 9 [.ref q_1, v_5, .int (-1)]] := hD
  refine lv_aload_n hx hb dd_WR_init_51 rfl (lv_at hl 0 rfl) ?_
  refine lv_sipush (v := nI 1201) hx hb dd_WR_init_52 (by decide) ?_
  refine xa_newI (k1 := 6) (k2 := 3623) hx hb (hts _ wa_int) hK hP hD hS hA (by decide) rfl rfl (Nat.le_of_ble_eq_true rfl) (Nat.le_of_ble_eq_true rfl) dd_WR_init_55 (fun q_9 H hP hD hS => ?_)
  have hP : va_P g.1 vwCl [oc_o h 10 [.ref t, .ref q_1, .ref q_4, .ref q_7, .null, .null, .int (nI 0), .int (nI 0)], oc_o q_1 3 [.ref q_2, .int (nI 0)], oc_o q_4 9 [.ref q_1, v_5, .int (-1)], oc_i g q_9 1201 (fun _ => 0)] H := hP
  have hD : va_D A [oc_o h 10 [.ref t, .ref q_1, .ref q_4, .ref q_7, .null, .null, .int (nI 0), .int (nI 0)], oc_o q_1 3 [.ref q_2, .int (nI 0)], oc_o q_4 9 [.ref q_1, v_5, .int (-1)], oc_i g q_9 1201 (fun _ => 0)] := hD
  refine pf_WR_40 hin hx hb hts hown hK hP hD hS 0 rfl rfl rfl (Nat.le_of_ble_eq_true rfl) dd_WR_init_57 (fun H locs hP hD hS => ?_)
  have hP : va_P g.1 vwCl [oc_o h 10 [.ref t, .ref q_1, .ref q_4, .ref q_7, .ref q_9, .null, .int (nI 0), .int (nI 0)], oc_o q_1 3 [.ref q_2, .int (nI 0)], oc_o q_4 9 [.ref q_1, v_5, .int (-1)], oc_i g q_9 1201 (fun _ => 0)] H := hP
  have hD : va_D A [oc_o h 10 [.ref t, .ref q_1, .ref q_4, .ref q_7, .ref q_9, .null, .int (nI 0), .int (nI 0)], oc_o q_1 3 [.ref q_2, .int (nI 0)], oc_o q_4 9 [.ref q_1, v_5, .int (-1)], oc_i g q_9 1201 (fun _ => 0)] := hD
  refine lv_aload_n hx hb dd_WR_init_60 rfl (lv_at hl 0 rfl) ?_
  refine lv_sipush (v := nI 1201) hx hb dd_WR_init_61 (by decide) ?_
  refine xa_newI (k1 := 7) (k2 := 4824) hx hb (hts _ wa_int) hK hP hD hS hA (by decide) rfl rfl (Nat.le_of_ble_eq_true rfl) (Nat.le_of_ble_eq_true rfl) dd_WR_init_64 (fun q_10 H hP hD hS => ?_)
  have hP : va_P g.1 vwCl [oc_o h 10 [.ref t, .ref q_1, .ref q_4, .ref q_7, .ref q_9, .null, .int (nI 0), .int (nI 0)], oc_o q_1 3 [.ref q_2, .int (nI 0)], oc_o q_4 9 [.ref q_1, v_5, .int (-1)], oc_i g q_9 1201 (fun _ => 0), oc_i g q_10 1201 (fun _ => 0)] H := hP
  have hD : va_D A [oc_o h 10 [.ref t, .ref q_1, .ref q_4, .ref q_7, .ref q_9, .null, .int (nI 0), .int (nI 0)], oc_o q_1 3 [.ref q_2, .int (nI 0)], oc_o q_4 9 [.ref q_1, v_5, .int (-1)], oc_i g q_9 1201 (fun _ => 0), oc_i g q_10 1201 (fun _ => 0)] := hD
  refine pf_WR_44 hin hx hb hts hown hK hP hD hS 0 rfl rfl rfl (Nat.le_of_ble_eq_true rfl) dd_WR_init_66 (fun H locs hP hD hS => ?_)
  have hP : va_P g.1 vwCl [oc_o h 10 [.ref t, .ref q_1, .ref q_4, .ref q_7, .ref q_9, .ref q_10, .int (nI 0), .int (nI 0)], oc_o q_1 3 [.ref q_2, .int (nI 0)], oc_o q_4 9 [.ref q_1, v_5, .int (-1)], oc_i g q_9 1201 (fun _ => 0), oc_i g q_10 1201 (fun _ => 0)] H := hP
  have hD : va_D A [oc_o h 10 [.ref t, .ref q_1, .ref q_4, .ref q_7, .ref q_9, .ref q_10, .int (nI 0), .int (nI 0)], oc_o q_1 3 [.ref q_2, .int (nI 0)], oc_o q_4 9 [.ref q_1, v_5, .int (-1)], oc_i g q_9 1201 (fun _ => 0), oc_i g q_10 1201 (fun _ => 0)] := hD
  refine lv_aload_n hx hb dd_WR_init_69 rfl (lv_at hl 0 rfl) ?_
  refine lv_sipush (v := nI 900) hx hb dd_WR_init_70 (by decide) ?_
  refine pf_WR_47 hx hb hts hown hK hP hD hS 0 rfl rfl rfl (Nat.le_of_ble_eq_true rfl) dd_WR_init_73 (fun H locs hP hD hS => ?_)
  have hP : va_P g.1 vwCl [oc_o h 10 [.ref t, .ref q_1, .ref q_4, .ref q_7, .ref q_9, .ref q_10, .int (nI 900), .int (nI 0)], oc_o q_1 3 [.ref q_2, .int (nI 0)], oc_o q_4 9 [.ref q_1, v_5, .int (-1)], oc_i g q_9 1201 (fun _ => 0), oc_i g q_10 1201 (fun _ => 0)] H := hP
  have hD : va_D A [oc_o h 10 [.ref t, .ref q_1, .ref q_4, .ref q_7, .ref q_9, .ref q_10, .int (nI 900), .int (nI 0)], oc_o q_1 3 [.ref q_2, .int (nI 0)], oc_o q_4 9 [.ref q_1, v_5, .int (-1)], oc_i g q_9 1201 (fun _ => 0), oc_i g q_10 1201 (fun _ => 0)] := hD
  refine lv_aload_n hx hb dd_WR_init_76 rfl (lv_at hl 0 rfl) ?_
  refine lv_iconst (v := nI 0) hx hb dd_WR_init_77 (by decide) ?_
  refine pf_WR_51 hx hb hts hown hK hP hD hS 0 rfl (by decide) (by decide) (Nat.le_of_ble_eq_true rfl) dd_WR_init_78 (fun H locs hP hD hS => ?_)
  have hP : va_P g.1 vwCl [oc_o h 10 [.ref t, .ref q_1, .ref q_4, .ref q_7, .ref q_9, .ref q_10, .int (nI 900), .int (nI 0)], oc_o q_1 3 [.ref q_2, .int (nI 0)], oc_o q_4 9 [.ref q_1, v_5, .int (-1)], oc_i g q_9 1201 (fun _ => 0), oc_i g q_10 1201 (fun _ => 0)] H := hP
  have hD : va_D A [oc_o h 10 [.ref t, .ref q_1, .ref q_4, .ref q_7, .ref q_9, .ref q_10, .int (nI 900), .int (nI 0)], oc_o q_1 3 [.ref q_2, .int (nI 0)], oc_o q_4 9 [.ref q_1, v_5, .int (-1)], oc_i g q_9 1201 (fun _ => 0), oc_i g q_10 1201 (fun _ => 0)] := hD
  exact xr_v hx hb hr hlk hQ hP hD hS (q_1, q_4, q_7, q_9, q_10, q_2, v_5) trivial [0, 1, 2, 3, 4] (by decide) rfl (Nat.le_of_ble_eq_true rfl) (Nat.le_of_ble_eq_true rfl) dd_WR_init_81

set_option maxHeartbeats 4000000 in
set_option maxRecDepth 100000 in
theorem ct_wr_forget (l : Launch) (g : xg_G) (h : Nat) (t : Nat) (o : Nat) (x : Nat) (n : Nat) (d : Nat) (e9 : Nat) : kc_V l yy_WR_forget cd_WR_forget 1 { frames := 0, cells := 0, slots := 0, locals := 0 } g [.ref h] [oc_o h 10 [.ref t, .ref o, .ref x, .ref n, .ref d, .ref e9, .int (nI 900), .int (nI 0)]] (S := Unit) (fun _ => True) (fun _ => [oc_o h 10 [.ref t, .ref o, .ref x, .ref n, .ref d, .ref e9, .int (nI 900), .int (nI 0)]]) := by
  refine kc_Vof (by decide) (Nat.le_of_ble_eq_true rfl) ?_
  intro p e s m args below meth c A ls Q H locs hQ hB hP hS
  obtain ⟨hx, hb, hr, hlk, hin, hml, hown, hts, hA, hK, hD, hE, hl⟩ := hB
  have hF : xf_F g p m c cd_WR_forget 1 s args "StackedRows$Writer" A := ⟨⟨hx, hb, hml, hown, hts⟩, hE, hK, hA⟩
  have hl : lv_has ls 1 [(0, .ref h)] := hl
  have hown : s.vm.findClass "StackedRows$Writer" = some m.cls := hown
  refine lv_aload_n hx hb dd_WR_forget_0 rfl (lv_at hl 0 rfl) ?_
  refine lv_iconst (v := nI 0) hx hb dd_WR_forget_1 (by decide) ?_
  refine pf_WR_51 hx hb hts hown hK hP hD hS 0 rfl (by decide) (by decide) (Nat.le_of_ble_eq_true rfl) dd_WR_forget_2 (fun H locs hP hD hS => ?_)
  have hP : va_P g.1 vwCl [oc_o h 10 [.ref t, .ref o, .ref x, .ref n, .ref d, .ref e9, .int (nI 900), .int (nI 0)]] H := hP
  have hD : va_D A [oc_o h 10 [.ref t, .ref o, .ref x, .ref n, .ref d, .ref e9, .int (nI 900), .int (nI 0)]] := hD
  exact xr_v hx hb hr hlk hQ hP hD hS () trivial [0] (by decide) rfl (Nat.le_of_ble_eq_true rfl) (Nat.le_of_ble_eq_true rfl) dd_WR_forget_5

set_option maxHeartbeats 4000000 in
set_option maxRecDepth 100000 in
theorem ct_wr_size (l : Launch) (g : xg_G) (h : Nat) (t : Nat) (o : Nat) (x : Nat) (n : Nat) (d : Nat) (e9 : Nat) (b : Nat) (k : Nat) (fr : Int32) : kc_I l yy_WR_size cd_WR_size 1 .int { frames := 1, cells := 0, slots := 0, locals := 20 } g [.ref h] [oc_o h 10 [.ref t, .ref o, .ref x, .ref n, .ref d, .ref e9, .int (nI 900), .int fr], oc_o o 3 [.ref b, .int (nI k)]] (S := Unit) (fun r0 _ => r0 = nI k) (fun _ => [oc_o h 10 [.ref t, .ref o, .ref x, .ref n, .ref d, .ref e9, .int (nI 900), .int fr], oc_o o 3 [.ref b, .int (nI k)]]) := by
  refine kc_Iof (by decide) (Nat.le_of_ble_eq_true rfl) ?_
  intro p e s m args below meth c A ls Q H locs hQ hB hP hS
  obtain ⟨hx, hb, hr, hlk, hin, hml, hown, hts, hA, hK, hD, hE, hl⟩ := hB
  have hF : xf_F g p m c cd_WR_size 1 s args "StackedRows$Writer" A := ⟨⟨hx, hb, hml, hown, hts⟩, hE, hK, hA⟩
  have hl : lv_has ls 1 [(0, .ref h)] := hl
  have hown : s.vm.findClass "StackedRows$Writer" = some m.cls := hown
  refine lv_aload_n hx hb dd_WR_size_0 rfl (lv_at hl 0 rfl) ?_
  refine gf_WR_18 hx hb hts hown hK hP 0 rfl rfl dd_WR_size_1 ?_
  refine xc_Vi (wr := [oc_o h 10 [.ref t, .ref o, .ref x, .ref n, .ref d, .ref e9, .int (nI 900), .int fr]]) (k1 := 0) (k2 := 0) (As := []) (rest := []) (k := 0) hF hP hD hS (ct_cw_size l g o b k) (xt_V ml_WR_55 wi_CW_size wx_CW_size wn_CW wc_CW_size) (by decide) 1 rfl rfl rfl [1] [0] ⟨rfl, rfl, by decide, by decide, by decide⟩ ⟨⟨Nat.le_of_ble_eq_true rfl, Nat.le_of_ble_eq_true rfl⟩, rfl, rfl, Nat.le_of_ble_eq_true rfl, Nat.le_of_ble_eq_true rfl⟩ rfl hl.1 rfl (Nat.le_of_ble_eq_true rfl) dd_WR_size_4 (fun r_1 u H locs hp hP hD hS => ?_)
  obtain rfl := hp
  have hP : va_P g.1 vwCl [oc_o h 10 [.ref t, .ref o, .ref x, .ref n, .ref d, .ref e9, .int (nI 900), .int fr], oc_o o 3 [.ref b, .int (nI k)]] H := hP
  have hD : va_D A [oc_o h 10 [.ref t, .ref o, .ref x, .ref n, .ref d, .ref e9, .int (nI 900), .int fr], oc_o o 3 [.ref b, .int (nI k)]] := hD
  exact xr_i hx hb hr hlk hQ hP hD hS () (by first | rfl | exact congrArg nI (by omega)) [0, 1] (by decide) rfl rfl (Nat.le_of_ble_eq_true rfl) (Nat.le_of_ble_eq_true rfl) dd_WR_size_7

set_option maxHeartbeats 4000000 in
set_option maxRecDepth 100000 in
theorem ct_wr_measure (l : Launch) (g : xg_G) (h : Nat) (t : Nat) (o : Nat) (x : Nat) (n : Nat) (d : Nat) (e9 : Nat) (fr : Int32) (f : Nat → Int32) (f1 : Nat → Int32) : kc_V l yy_WR_measure cd_WR_measure 3 { frames := 0, cells := 0, slots := 0, locals := 0 } g [.ref h, .int (nI 0)] [oc_o h 10 [.ref t, .ref o, .ref x, .ref n, .ref d, .ref e9, .int (nI 900), .int fr], oc_i g d 1201 f, oc_i g e9 1201 f1] (S := (Nat → Int32) × (Nat → Int32)) (fun _ => True) (fun u0 => [oc_o h 10 [.ref t, .ref o, .ref x, .ref n, .ref d, .ref e9, .int (nI 900), .int fr], oc_i g d 1201 u0.1, oc_i g e9 1201 u0.2]) := by
  refine kc_Vof (by decide) (Nat.le_of_ble_eq_true rfl) ?_
  intro p e s m args below meth c A ls Q H locs hQ hB hP hS
  obtain ⟨hx, hb, hr, hlk, hin, hml, hown, hts, hA, hK, hD, hE, hl⟩ := hB
  have hF : xf_F g p m c cd_WR_measure 3 s args "StackedRows$Writer" A := ⟨⟨hx, hb, hml, hown, hts⟩, hE, hK, hA⟩
  have hl : lv_has ls 3 [(0, .ref h), (1, .int (nI 0))] := hl
  have hown : s.vm.findClass "StackedRows$Writer" = some m.cls := hown
  refine lv_aload_n hx hb dd_WR_measure_0 rfl (lv_at hl 0 rfl) ?_
  refine gf_WR_40 hx hb hts hown hK hP 0 rfl rfl dd_WR_measure_1 ?_
  refine lv_iload_n hx hb dd_WR_measure_4 rfl (lv_at hl 1 rfl) ?_
  refine lv_iconst (v := nI 0) hx hb dd_WR_measure_5 (by decide) ?_
  refine xa_st hx hb hK hP hD hS 1 rfl (j := 0) (by omega) (by omega) dd_WR_measure_6 (fun f_1 H locs hP hD hS => ?_)
  have hP : va_P g.1 vwCl [oc_o h 10 [.ref t, .ref o, .ref x, .ref n, .ref d, .ref e9, .int (nI 900), .int fr], oc_i g d 1201 f_1, oc_i g e9 1201 f1] H := hP
  have hD : va_D A [oc_o h 10 [.ref t, .ref o, .ref x, .ref n, .ref d, .ref e9, .int (nI 900), .int fr], oc_i g d 1201 f_1, oc_i g e9 1201 f1] := hD
  refine lv_aload_n hx hb dd_WR_measure_7 rfl (lv_at hl 0 rfl) ?_
  refine gf_WR_44 hx hb hts hown hK hP 0 rfl rfl dd_WR_measure_8 ?_
  refine lv_iload_n hx hb dd_WR_measure_11 rfl (lv_at hl 1 rfl) ?_
  refine lv_iconst (v := nI 0) hx hb dd_WR_measure_12 (by decide) ?_
  refine xa_st hx hb hK hP hD hS 2 rfl (j := 0) (by omega) (by omega) dd_WR_measure_13 (fun f_2 H locs hP hD hS => ?_)
  have hP : va_P g.1 vwCl [oc_o h 10 [.ref t, .ref o, .ref x, .ref n, .ref d, .ref e9, .int (nI 900), .int fr], oc_i g d 1201 f_1, oc_i g e9 1201 f_2] H := hP
  have hD : va_D A [oc_o h 10 [.ref t, .ref o, .ref x, .ref n, .ref d, .ref e9, .int (nI 900), .int fr], oc_i g d 1201 f_1, oc_i g e9 1201 f_2] := hD
  refine lv_iload_n hx hb dd_WR_measure_14 rfl (lv_at hl 1 rfl) ?_
  refine lv_iconst (v := nI 1) hx hb dd_WR_measure_15 (by decide) ?_
  refine lv_isub hx hb dd_WR_measure_16 (xi_eq (v := -1) (by decide) ?_)
  refine lv_istore_n (lv' := [(2, .int (-1)), (0, .ref h), (1, .int (nI 0))]) hx hb dd_WR_measure_17 rfl hl (by decide) rfl (fun ls hl => ?_)
  refine lv_iload_n hx hb dd_WR_measure_18 rfl (lv_at hl 0 rfl) ?_
  refine lv_if_lt (tgt := 101) hx hb dd_WR_measure_19 rfl (fun _ => ?_) (fun h_3 => absurd (by decide) h_3)
  exact xr_v hx hb hr hlk hQ hP hD hS (f_1, f_2) trivial [0, 1, 2] (by decide) rfl (Nat.le_of_ble_eq_true rfl) (Nat.le_of_ble_eq_true rfl) dd_WR_measure_101

set_option maxHeartbeats 4000000 in
set_option maxRecDepth 100000 in
theorem ct_wr_write (l : Launch) (g : xg_G) (h : Nat) (t : Nat) (o : Nat) (x : Nat) (n : Nat) (d : Nat) (e9 : Nat) (tb : Nat) (b : Nat) (w : Value) (f : Nat → Int32) (f1 : Nat → Int32) : kc_V l yy_WR_write cd_WR_write 3 { frames := 1, cells := 0, slots := 0, locals := 22 } g [.ref h] [oc_o h 10 [.ref t, .ref o, .ref x, .ref n, .ref d, .ref e9, .int (nI 900), .int (nI 0)], oc_o t 8 [.ref tb, .int (nI 0)], oc_o o 3 [.ref b, .int (nI 0)], oc_o x 9 [.ref o, w, .int (-1)], oc_i g d 1201 f, oc_i g e9 1201 f1] (S := Value × (Nat → Int32) × (Nat → Int32)) (fun _ => True) (fun u0 => [oc_o h 10 [.ref t, .ref o, .ref x, .ref n, .ref d, .ref e9, .int (nI 900), .int (nI 1)], oc_o t 8 [.ref tb, .int (nI 0)], oc_o o 3 [.ref b, .int (nI 0)], oc_o x 9 [.ref o, u0.1, .int (-1)], oc_i g d 1201 u0.2.1, oc_i g e9 1201 u0.2.2]) := by
  refine kc_Vof (by decide) (Nat.le_of_ble_eq_true rfl) ?_
  intro p e s m args below meth c A ls Q H locs hQ hB hP hS
  obtain ⟨hx, hb, hr, hlk, hin, hml, hown, hts, hA, hK, hD, hE, hl⟩ := hB
  have hF : xf_F g p m c cd_WR_write 3 s args "StackedRows$Writer" A := ⟨⟨hx, hb, hml, hown, hts⟩, hE, hK, hA⟩
  have hl : lv_has ls 3 [(0, .ref h)] := hl
  have hown : s.vm.findClass "StackedRows$Writer" = some m.cls := hown
  refine lv_aload_n hx hb dd_WR_write_0 rfl (lv_at hl 0 rfl) ?_
  refine gf_WR_51 hx hb hts hown hK hP 0 rfl rfl dd_WR_write_1 ?_
  refine lv_if_eq (tgt := 8) hx hb dd_WR_write_4 rfl (fun _ => ?_) (fun h_1 => absurd (by decide) h_1)
  refine lv_aload_n hx hb dd_WR_write_8 rfl (lv_at hl 0 rfl) ?_
  refine lv_iconst (v := nI 1) hx hb dd_WR_write_9 (by decide) ?_
  refine pf_WR_51 hx hb hts hown hK hP hD hS 0 rfl (by decide) (by decide) (Nat.le_of_ble_eq_true rfl) dd_WR_write_10 (fun H locs hP hD hS => ?_)
  have hP : va_P g.1 vwCl [oc_o h 10 [.ref t, .ref o, .ref x, .ref n, .ref d, .ref e9, .int (nI 900), .int (nI 1)], oc_o t 8 [.ref tb, .int (nI 0)], oc_o o 3 [.ref b, .int (nI 0)], oc_o x 9 [.ref o, w, .int (-1)], oc_i g d 1201 f, oc_i g e9 1201 f1] H := hP
  have hD : va_D A [oc_o h 10 [.ref t, .ref o, .ref x, .ref n, .ref d, .ref e9, .int (nI 900), .int (nI 1)], oc_o t 8 [.ref tb, .int (nI 0)], oc_o o 3 [.ref b, .int (nI 0)], oc_o x 9 [.ref o, w, .int (-1)], oc_i g d 1201 f, oc_i g e9 1201 f1] := hD
  refine lv_aload_n hx hb dd_WR_write_13 rfl (lv_at hl 0 rfl) ?_
  refine lv_aload_n hx hb dd_WR_write_14 rfl (lv_at hl 0 rfl) ?_
  refine gf_WR_9 hx hb hts hown hK hP 0 rfl rfl dd_WR_write_15 ?_
  refine xc_Vi (wr := [oc_o h 10 [.ref t, .ref o, .ref x, .ref n, .ref d, .ref e9, .int (nI 900), .int (nI 1)], oc_o o 3 [.ref b, .int (nI 0)], oc_o x 9 [.ref o, w, .int (-1)], oc_i g d 1201 f, oc_i g e9 1201 f1]) (k1 := 0) (k2 := 0) (As := []) (rest := [.ref h]) (k := 0) hF hP hD hS (ct_tape_size l g t tb 0) (xt_V ml_WR_63 wi_TP_size wx_TP_size wn_TP wc_TP_size) (by decide) 1 rfl rfl rfl [1] [0, 2, 3, 4, 5] ⟨rfl, rfl, by decide, by decide, by decide⟩ ⟨⟨Nat.le_of_ble_eq_true rfl, Nat.le_of_ble_eq_true rfl⟩, rfl, rfl, Nat.le_of_ble_eq_true rfl, Nat.le_of_ble_eq_true rfl⟩ rfl hl.1 rfl (Nat.le_of_ble_eq_true rfl) dd_WR_write_18 (fun r_2 u H locs hp hP hD hS => ?_)
  obtain rfl := hp
  have hP : va_P g.1 vwCl [oc_o h 10 [.ref t, .ref o, .ref x, .ref n, .ref d, .ref e9, .int (nI 900), .int (nI 1)], oc_o o 3 [.ref b, .int (nI 0)], oc_o x 9 [.ref o, w, .int (-1)], oc_i g d 1201 f, oc_i g e9 1201 f1, oc_o t 8 [.ref tb, .int (nI 0)]] H := hP
  have hD : va_D A [oc_o h 10 [.ref t, .ref o, .ref x, .ref n, .ref d, .ref e9, .int (nI 900), .int (nI 1)], oc_o o 3 [.ref b, .int (nI 0)], oc_o x 9 [.ref o, w, .int (-1)], oc_i g d 1201 f, oc_i g e9 1201 f1, oc_o t 8 [.ref tb, .int (nI 0)]] := hD
  refine xc_Vv (wr := [oc_o o 3 [.ref b, .int (nI 0)], oc_o x 9 [.ref o, w, .int (-1)], oc_o t 8 [.ref tb, .int (nI 0)]]) (k1 := 0) (k2 := 0) (As := [.int (nI 0)]) (rest := []) (k := 1) hF hP hD hS (ct_wr_measure l g h t o x n d e9 (nI 1) f f1) (xt_V ml_WR_66 wi_WR_measure wx_WR_measure wn_WR wc_WR_measure) (by decide) 0 rfl rfl rfl [0, 3, 4] [1, 2, 5] ⟨rfl, rfl, by decide, by decide, by decide⟩ ⟨⟨Nat.le_of_ble_eq_true rfl, Nat.le_of_ble_eq_true rfl⟩, rfl, rfl, Nat.le_of_ble_eq_true rfl, Nat.le_of_ble_eq_true rfl⟩ rfl hl.1 rfl (Nat.le_of_ble_eq_true rfl) dd_WR_write_21 (fun u H locs hp hP hD hS => ?_)
  obtain ⟨f_3, f_4⟩ := u
  have hP : va_P g.1 vwCl [oc_o o 3 [.ref b, .int (nI 0)], oc_o x 9 [.ref o, w, .int (-1)], oc_o t 8 [.ref tb, .int (nI 0)], oc_o h 10 [.ref t, .ref o, .ref x, .ref n, .ref d, .ref e9, .int (nI 900), .int (nI 1)], oc_i g d 1201 f_3, oc_i g e9 1201 f_4] H := hP
  have hD : va_D A [oc_o o 3 [.ref b, .int (nI 0)], oc_o x 9 [.ref o, w, .int (-1)], oc_o t 8 [.ref tb, .int (nI 0)], oc_o h 10 [.ref t, .ref o, .ref x, .ref n, .ref d, .ref e9, .int (nI 900), .int (nI 1)], oc_i g d 1201 f_3, oc_i g e9 1201 f_4] := hD
  refine lv_aload_n hx hb dd_WR_write_24 rfl (lv_at hl 0 rfl) ?_
  refine lv_sipush (v := nI 900) hx hb dd_WR_write_25 (by decide) ?_
  refine pf_WR_47 hx hb hts hown hK hP hD hS 3 rfl rfl rfl (Nat.le_of_ble_eq_true rfl) dd_WR_write_28 (fun H locs hP hD hS => ?_)
  have hP : va_P g.1 vwCl [oc_o o 3 [.ref b, .int (nI 0)], oc_o x 9 [.ref o, w, .int (-1)], oc_o t 8 [.ref tb, .int (nI 0)], oc_o h 10 [.ref t, .ref o, .ref x, .ref n, .ref d, .ref e9, .int (nI 900), .int (nI 1)], oc_i g d 1201 f_3, oc_i g e9 1201 f_4] H := hP
  have hD : va_D A [oc_o o 3 [.ref b, .int (nI 0)], oc_o x 9 [.ref o, w, .int (-1)], oc_o t 8 [.ref tb, .int (nI 0)], oc_o h 10 [.ref t, .ref o, .ref x, .ref n, .ref d, .ref e9, .int (nI 900), .int (nI 1)], oc_i g d 1201 f_3, oc_i g e9 1201 f_4] := hD
  refine lv_aload_n hx hb dd_WR_write_31 rfl (lv_at hl 0 rfl) ?_
  refine gf_WR_27 hx hb hts hown hK hP 3 rfl rfl dd_WR_write_32 ?_
  refine xc_Vv (wr := [oc_o o 3 [.ref b, .int (nI 0)], oc_o t 8 [.ref tb, .int (nI 0)], oc_o h 10 [.ref t, .ref o, .ref x, .ref n, .ref d, .ref e9, .int (nI 900), .int (nI 1)], oc_i g d 1201 f_3, oc_i g e9 1201 f_4]) (k1 := 0) (k2 := 0) (As := []) (rest := []) (k := 0) hF hP hD hS (ct_tw_begin l g x o w (-1)) (xt_V ml_WR_70 wi_TW_beginWithCapitals wx_TW_beginWithCapitals wn_TW wc_TW_beginWithCapitals) (by decide) 1 rfl rfl rfl [1] [0, 2, 3, 4, 5] ⟨rfl, rfl, by decide, by decide, by decide⟩ ⟨⟨Nat.le_of_ble_eq_true rfl, Nat.le_of_ble_eq_true rfl⟩, rfl, rfl, Nat.le_of_ble_eq_true rfl, Nat.le_of_ble_eq_true rfl⟩ rfl hl.1 rfl (Nat.le_of_ble_eq_true rfl) dd_WR_write_35 (fun v_6 H locs hp hP hD hS => ?_)
  have hP : va_P g.1 vwCl [oc_o o 3 [.ref b, .int (nI 0)], oc_o t 8 [.ref tb, .int (nI 0)], oc_o h 10 [.ref t, .ref o, .ref x, .ref n, .ref d, .ref e9, .int (nI 900), .int (nI 1)], oc_i g d 1201 f_3, oc_i g e9 1201 f_4, oc_o x 9 [.ref o, v_6, .int (-1)]] H := hP
  have hD : va_D A [oc_o o 3 [.ref b, .int (nI 0)], oc_o t 8 [.ref tb, .int (nI 0)], oc_o h 10 [.ref t, .ref o, .ref x, .ref n, .ref d, .ref e9, .int (nI 900), .int (nI 1)], oc_i g d 1201 f_3, oc_i g e9 1201 f_4, oc_o x 9 [.ref o, v_6, .int (-1)]] := hD
  refine lv_aload_n hx hb dd_WR_write_38 rfl (lv_at hl 0 rfl) ?_
  refine gf_WR_18 hx hb hts hown hK hP 2 rfl rfl dd_WR_write_39 ?_
  refine xc_Vv (wr := [oc_o t 8 [.ref tb, .int (nI 0)], oc_o h 10 [.ref t, .ref o, .ref x, .ref n, .ref d, .ref e9, .int (nI 900), .int (nI 1)], oc_i g d 1201 f_3, oc_i g e9 1201 f_4, oc_o x 9 [.ref o, v_6, .int (-1)]]) (k1 := 0) (k2 := 0) (As := []) (rest := []) (k := 0) hF hP hD hS (ct_cw_clear l g o b 0) (xt_V ml_WR_73 wi_CW_clear wx_CW_clear wn_CW wc_CW_clear) (by decide) 0 rfl rfl rfl [0] [1, 2, 3, 4, 5] ⟨rfl, rfl, by decide, by decide, by decide⟩ ⟨⟨Nat.le_of_ble_eq_true rfl, Nat.le_of_ble_eq_true rfl⟩, rfl, rfl, Nat.le_of_ble_eq_true rfl, Nat.le_of_ble_eq_true rfl⟩ rfl hl.1 rfl (Nat.le_of_ble_eq_true rfl) dd_WR_write_42 (fun u H locs hp hP hD hS => ?_)
  have hP : va_P g.1 vwCl [oc_o t 8 [.ref tb, .int (nI 0)], oc_o h 10 [.ref t, .ref o, .ref x, .ref n, .ref d, .ref e9, .int (nI 900), .int (nI 1)], oc_i g d 1201 f_3, oc_i g e9 1201 f_4, oc_o x 9 [.ref o, v_6, .int (-1)], oc_o o 3 [.ref b, .int (nI 0)]] H := hP
  have hD : va_D A [oc_o t 8 [.ref tb, .int (nI 0)], oc_o h 10 [.ref t, .ref o, .ref x, .ref n, .ref d, .ref e9, .int (nI 900), .int (nI 1)], oc_i g d 1201 f_3, oc_i g e9 1201 f_4, oc_o x 9 [.ref o, v_6, .int (-1)], oc_o o 3 [.ref b, .int (nI 0)]] := hD
  refine lv_iconst (v := nI 0) hx hb dd_WR_write_45 (by decide) ?_
  refine lv_istore_n (lv' := [(1, .int (nI 0)), (0, .ref h)]) hx hb dd_WR_write_46 rfl hl (by decide) rfl (fun ls hl => ?_)
  refine lv_iconst (v := nI 0) hx hb dd_WR_write_47 (by decide) ?_
  refine lv_istore_n (lv' := [(2, .int (nI 0)), (1, .int (nI 0)), (0, .ref h)]) hx hb dd_WR_write_48 rfl hl (by decide) rfl (fun ls hl => ?_)
  refine lv_iload_n hx hb dd_WR_write_49 rfl (lv_at hl 0 rfl) ?_
  refine lv_aload_n hx hb dd_WR_write_50 rfl (lv_at hl 2 rfl) ?_
  refine gf_WR_9 hx hb hts hown hK hP 1 rfl rfl dd_WR_write_51 ?_
  refine xc_Vi (wr := [oc_o h 10 [.ref t, .ref o, .ref x, .ref n, .ref d, .ref e9, .int (nI 900), .int (nI 1)], oc_i g d 1201 f_3, oc_i g e9 1201 f_4, oc_o x 9 [.ref o, v_6, .int (-1)], oc_o o 3 [.ref b, .int (nI 0)]]) (k1 := 0) (k2 := 0) (As := []) (rest := [.int (nI 0)]) (k := 0) hF hP hD hS (ct_tape_size l g t tb 0) (xt_V ml_WR_63 wi_TP_size wx_TP_size wn_TP wc_TP_size) (by decide) 0 rfl rfl rfl [0] [1, 2, 3, 4, 5] ⟨rfl, rfl, by decide, by decide, by decide⟩ ⟨⟨Nat.le_of_ble_eq_true rfl, Nat.le_of_ble_eq_true rfl⟩, rfl, rfl, Nat.le_of_ble_eq_true rfl, Nat.le_of_ble_eq_true rfl⟩ rfl hl.1 rfl (Nat.le_of_ble_eq_true rfl) dd_WR_write_54 (fun r_9 u H locs hp hP hD hS => ?_)
  obtain rfl := hp
  have hP : va_P g.1 vwCl [oc_o h 10 [.ref t, .ref o, .ref x, .ref n, .ref d, .ref e9, .int (nI 900), .int (nI 1)], oc_i g d 1201 f_3, oc_i g e9 1201 f_4, oc_o x 9 [.ref o, v_6, .int (-1)], oc_o o 3 [.ref b, .int (nI 0)], oc_o t 8 [.ref tb, .int (nI 0)]] H := hP
  have hD : va_D A [oc_o h 10 [.ref t, .ref o, .ref x, .ref n, .ref d, .ref e9, .int (nI 900), .int (nI 1)], oc_i g d 1201 f_3, oc_i g e9 1201 f_4, oc_o x 9 [.ref o, v_6, .int (-1)], oc_o o 3 [.ref b, .int (nI 0)], oc_o t 8 [.ref tb, .int (nI 0)]] := hD
  refine lv_icmp_ge (tgt := 83) hx hb dd_WR_write_57 rfl (fun _ => ?_) (fun h_10 => absurd (by decide) h_10)
  exact xr_v hx hb hr hlk hQ hP hD hS (v_6, f_3, f_4) trivial [0, 5, 4, 3, 1, 2] (by decide) rfl (Nat.le_of_ble_eq_true rfl) (Nat.le_of_ble_eq_true rfl) dd_WR_write_83

set_option maxHeartbeats 4000000 in
set_option maxRecDepth 100000 in
theorem ct_md_init (l : Launch) (g : xg_G) (h : Nat) (rw : Nat) : kc_V l yy_MD_init cd_MD_init 2 { frames := 1, cells := 5, slots := 2565, locals := 12 } g [.ref h, .ref rw] [oc_o h 4 [.null, .null, .null, .null, .null, .null, .int (nI 0), .int (nI 0), .int (nI 0)]] (S := Unit) (fun _ => True) (fun _ => []) := by
  refine kc_Vof (by decide) (Nat.le_of_ble_eq_true rfl) ?_
  intro p e s m args below meth c A ls Q H locs hQ hB hP hS
  obtain ⟨hx, hb, hr, hlk, hin, hml, hown, hts, hA, hK, hD, hE, hl⟩ := hB
  have hF : xf_F g p m c cd_MD_init 2 s args "StackedRows$Mender" A := ⟨⟨hx, hb, hml, hown, hts⟩, hE, hK, hA⟩
  have hl : lv_has ls 2 [(0, .ref h), (1, .ref rw)] := hl
  have hown : s.vm.findClass "StackedRows$Mender" = some m.cls := hown
  refine lv_aload_n hx hb dd_MD_init_0 rfl (lv_at hl 0 rfl) ?_
  refine oi_MD_3 hx hb hts hown hml hl.1 (Nat.le_of_ble_eq_true rfl) (Nat.le_of_ble_eq_true rfl) dd_MD_init_1 ?_
  refine lv_aload_n hx hb dd_MD_init_4 rfl (lv_at hl 0 rfl) ?_
  refine lv_aload_n hx hb dd_MD_init_5 rfl (lv_at hl 1 rfl) ?_
  refine pf_MD_9 hin hx hb hts hown hK hP hD hS 0 rfl rfl rfl (Nat.le_of_ble_eq_true rfl) dd_MD_init_6 (fun H locs hP hD hS => ?_)
  have hP : va_P g.1 vwCl [oc_o h 4 [.ref rw, .null, .null, .null, .null, .null, .int (nI 0), .int (nI 0), .int (nI 0)]] H := hP
  have hD : va_D A [oc_o h 4 [.ref rw, .null, .null, .null, .null, .null, .int (nI 0), .int (nI 0), .int (nI 0)]] := hD
  refine lv_aload_n hx hb dd_MD_init_9 rfl (lv_at hl 0 rfl) ?_
  refine lv_sipush (v := nI 513) hx hb dd_MD_init_10 (by decide) ?_
  refine xa_newI (k1 := 1) (k2 := 513) hx hb (hts _ wa_int) hK hP hD hS hA (by decide) rfl rfl (Nat.le_of_ble_eq_true rfl) (Nat.le_of_ble_eq_true rfl) dd_MD_init_13 (fun q_1 H hP hD hS => ?_)
  have hP : va_P g.1 vwCl [oc_o h 4 [.ref rw, .null, .null, .null, .null, .null, .int (nI 0), .int (nI 0), .int (nI 0)], oc_i g q_1 513 (fun _ => 0)] H := hP
  have hD : va_D A [oc_o h 4 [.ref rw, .null, .null, .null, .null, .null, .int (nI 0), .int (nI 0), .int (nI 0)], oc_i g q_1 513 (fun _ => 0)] := hD
  refine pf_MD_15 hin hx hb hts hown hK hP hD hS 0 rfl rfl rfl (Nat.le_of_ble_eq_true rfl) dd_MD_init_15 (fun H locs hP hD hS => ?_)
  have hP : va_P g.1 vwCl [oc_o h 4 [.ref rw, .ref q_1, .null, .null, .null, .null, .int (nI 0), .int (nI 0), .int (nI 0)], oc_i g q_1 513 (fun _ => 0)] H := hP
  have hD : va_D A [oc_o h 4 [.ref rw, .ref q_1, .null, .null, .null, .null, .int (nI 0), .int (nI 0), .int (nI 0)], oc_i g q_1 513 (fun _ => 0)] := hD
  refine lv_aload_n hx hb dd_MD_init_18 rfl (lv_at hl 0 rfl) ?_
  refine lv_sipush (v := nI 513) hx hb dd_MD_init_19 (by decide) ?_
  refine xa_newI (k1 := 2) (k2 := 1026) hx hb (hts _ wa_int) hK hP hD hS hA (by decide) rfl rfl (Nat.le_of_ble_eq_true rfl) (Nat.le_of_ble_eq_true rfl) dd_MD_init_22 (fun q_2 H hP hD hS => ?_)
  have hP : va_P g.1 vwCl [oc_o h 4 [.ref rw, .ref q_1, .null, .null, .null, .null, .int (nI 0), .int (nI 0), .int (nI 0)], oc_i g q_1 513 (fun _ => 0), oc_i g q_2 513 (fun _ => 0)] H := hP
  have hD : va_D A [oc_o h 4 [.ref rw, .ref q_1, .null, .null, .null, .null, .int (nI 0), .int (nI 0), .int (nI 0)], oc_i g q_1 513 (fun _ => 0), oc_i g q_2 513 (fun _ => 0)] := hD
  refine pf_MD_18 hin hx hb hts hown hK hP hD hS 0 rfl rfl rfl (Nat.le_of_ble_eq_true rfl) dd_MD_init_24 (fun H locs hP hD hS => ?_)
  have hP : va_P g.1 vwCl [oc_o h 4 [.ref rw, .ref q_1, .ref q_2, .null, .null, .null, .int (nI 0), .int (nI 0), .int (nI 0)], oc_i g q_1 513 (fun _ => 0), oc_i g q_2 513 (fun _ => 0)] H := hP
  have hD : va_D A [oc_o h 4 [.ref rw, .ref q_1, .ref q_2, .null, .null, .null, .int (nI 0), .int (nI 0), .int (nI 0)], oc_i g q_1 513 (fun _ => 0), oc_i g q_2 513 (fun _ => 0)] := hD
  refine lv_aload_n hx hb dd_MD_init_27 rfl (lv_at hl 0 rfl) ?_
  refine lv_sipush (v := nI 513) hx hb dd_MD_init_28 (by decide) ?_
  refine xa_newI (k1 := 3) (k2 := 1539) hx hb (hts _ wa_int) hK hP hD hS hA (by decide) rfl rfl (Nat.le_of_ble_eq_true rfl) (Nat.le_of_ble_eq_true rfl) dd_MD_init_31 (fun q_3 H hP hD hS => ?_)
  have hP : va_P g.1 vwCl [oc_o h 4 [.ref rw, .ref q_1, .ref q_2, .null, .null, .null, .int (nI 0), .int (nI 0), .int (nI 0)], oc_i g q_1 513 (fun _ => 0), oc_i g q_2 513 (fun _ => 0), oc_i g q_3 513 (fun _ => 0)] H := hP
  have hD : va_D A [oc_o h 4 [.ref rw, .ref q_1, .ref q_2, .null, .null, .null, .int (nI 0), .int (nI 0), .int (nI 0)], oc_i g q_1 513 (fun _ => 0), oc_i g q_2 513 (fun _ => 0), oc_i g q_3 513 (fun _ => 0)] := hD
  refine pf_MD_21 hin hx hb hts hown hK hP hD hS 0 rfl rfl rfl (Nat.le_of_ble_eq_true rfl) dd_MD_init_33 (fun H locs hP hD hS => ?_)
  have hP : va_P g.1 vwCl [oc_o h 4 [.ref rw, .ref q_1, .ref q_2, .ref q_3, .null, .null, .int (nI 0), .int (nI 0), .int (nI 0)], oc_i g q_1 513 (fun _ => 0), oc_i g q_2 513 (fun _ => 0), oc_i g q_3 513 (fun _ => 0)] H := hP
  have hD : va_D A [oc_o h 4 [.ref rw, .ref q_1, .ref q_2, .ref q_3, .null, .null, .int (nI 0), .int (nI 0), .int (nI 0)], oc_i g q_1 513 (fun _ => 0), oc_i g q_2 513 (fun _ => 0), oc_i g q_3 513 (fun _ => 0)] := hD
  refine lv_aload_n hx hb dd_MD_init_36 rfl (lv_at hl 0 rfl) ?_
  refine lv_sipush (v := nI 513) hx hb dd_MD_init_37 (by decide) ?_
  refine xa_newI (k1 := 4) (k2 := 2052) hx hb (hts _ wa_int) hK hP hD hS hA (by decide) rfl rfl (Nat.le_of_ble_eq_true rfl) (Nat.le_of_ble_eq_true rfl) dd_MD_init_40 (fun q_4 H hP hD hS => ?_)
  have hP : va_P g.1 vwCl [oc_o h 4 [.ref rw, .ref q_1, .ref q_2, .ref q_3, .null, .null, .int (nI 0), .int (nI 0), .int (nI 0)], oc_i g q_1 513 (fun _ => 0), oc_i g q_2 513 (fun _ => 0), oc_i g q_3 513 (fun _ => 0), oc_i g q_4 513 (fun _ => 0)] H := hP
  have hD : va_D A [oc_o h 4 [.ref rw, .ref q_1, .ref q_2, .ref q_3, .null, .null, .int (nI 0), .int (nI 0), .int (nI 0)], oc_i g q_1 513 (fun _ => 0), oc_i g q_2 513 (fun _ => 0), oc_i g q_3 513 (fun _ => 0), oc_i g q_4 513 (fun _ => 0)] := hD
  refine pf_MD_24 hin hx hb hts hown hK hP hD hS 0 rfl rfl rfl (Nat.le_of_ble_eq_true rfl) dd_MD_init_42 (fun H locs hP hD hS => ?_)
  have hP : va_P g.1 vwCl [oc_o h 4 [.ref rw, .ref q_1, .ref q_2, .ref q_3, .ref q_4, .null, .int (nI 0), .int (nI 0), .int (nI 0)], oc_i g q_1 513 (fun _ => 0), oc_i g q_2 513 (fun _ => 0), oc_i g q_3 513 (fun _ => 0), oc_i g q_4 513 (fun _ => 0)] H := hP
  have hD : va_D A [oc_o h 4 [.ref rw, .ref q_1, .ref q_2, .ref q_3, .ref q_4, .null, .int (nI 0), .int (nI 0), .int (nI 0)], oc_i g q_1 513 (fun _ => 0), oc_i g q_2 513 (fun _ => 0), oc_i g q_3 513 (fun _ => 0), oc_i g q_4 513 (fun _ => 0)] := hD
  refine lv_aload_n hx hb dd_MD_init_45 rfl (lv_at hl 0 rfl) ?_
  refine lv_sipush (v := nI 513) hx hb dd_MD_init_46 (by decide) ?_
  refine xa_newI (k1 := 5) (k2 := 2565) hx hb (hts _ wa_int) hK hP hD hS hA (by decide) rfl rfl (Nat.le_of_ble_eq_true rfl) (Nat.le_of_ble_eq_true rfl) dd_MD_init_49 (fun q_5 H hP hD hS => ?_)
  have hP : va_P g.1 vwCl [oc_o h 4 [.ref rw, .ref q_1, .ref q_2, .ref q_3, .ref q_4, .null, .int (nI 0), .int (nI 0), .int (nI 0)], oc_i g q_1 513 (fun _ => 0), oc_i g q_2 513 (fun _ => 0), oc_i g q_3 513 (fun _ => 0), oc_i g q_4 513 (fun _ => 0), oc_i g q_5 513 (fun _ => 0)] H := hP
  have hD : va_D A [oc_o h 4 [.ref rw, .ref q_1, .ref q_2, .ref q_3, .ref q_4, .null, .int (nI 0), .int (nI 0), .int (nI 0)], oc_i g q_1 513 (fun _ => 0), oc_i g q_2 513 (fun _ => 0), oc_i g q_3 513 (fun _ => 0), oc_i g q_4 513 (fun _ => 0), oc_i g q_5 513 (fun _ => 0)] := hD
  refine pf_MD_27 hin hx hb hts hown hK hP hD hS 0 rfl rfl rfl (Nat.le_of_ble_eq_true rfl) dd_MD_init_51 (fun H locs hP hD hS => ?_)
  have hP : va_P g.1 vwCl [oc_o h 4 [.ref rw, .ref q_1, .ref q_2, .ref q_3, .ref q_4, .ref q_5, .int (nI 0), .int (nI 0), .int (nI 0)], oc_i g q_1 513 (fun _ => 0), oc_i g q_2 513 (fun _ => 0), oc_i g q_3 513 (fun _ => 0), oc_i g q_4 513 (fun _ => 0), oc_i g q_5 513 (fun _ => 0)] H := hP
  have hD : va_D A [oc_o h 4 [.ref rw, .ref q_1, .ref q_2, .ref q_3, .ref q_4, .ref q_5, .int (nI 0), .int (nI 0), .int (nI 0)], oc_i g q_1 513 (fun _ => 0), oc_i g q_2 513 (fun _ => 0), oc_i g q_3 513 (fun _ => 0), oc_i g q_4 513 (fun _ => 0), oc_i g q_5 513 (fun _ => 0)] := hD
  refine lv_aload_n hx hb dd_MD_init_54 rfl (lv_at hl 0 rfl) ?_
  refine lv_iconst (v := nI 0) hx hb dd_MD_init_55 (by decide) ?_
  refine pf_MD_30 hx hb hts hown hK hP hD hS 0 rfl rfl rfl (Nat.le_of_ble_eq_true rfl) dd_MD_init_56 (fun H locs hP hD hS => ?_)
  have hP : va_P g.1 vwCl [oc_o h 4 [.ref rw, .ref q_1, .ref q_2, .ref q_3, .ref q_4, .ref q_5, .int (nI 0), .int (nI 0), .int (nI 0)], oc_i g q_1 513 (fun _ => 0), oc_i g q_2 513 (fun _ => 0), oc_i g q_3 513 (fun _ => 0), oc_i g q_4 513 (fun _ => 0), oc_i g q_5 513 (fun _ => 0)] H := hP
  have hD : va_D A [oc_o h 4 [.ref rw, .ref q_1, .ref q_2, .ref q_3, .ref q_4, .ref q_5, .int (nI 0), .int (nI 0), .int (nI 0)], oc_i g q_1 513 (fun _ => 0), oc_i g q_2 513 (fun _ => 0), oc_i g q_3 513 (fun _ => 0), oc_i g q_4 513 (fun _ => 0), oc_i g q_5 513 (fun _ => 0)] := hD
  refine lv_aload_n hx hb dd_MD_init_59 rfl (lv_at hl 0 rfl) ?_
  refine lv_iconst (v := nI 0) hx hb dd_MD_init_60 (by decide) ?_
  refine pf_MD_34 hx hb hts hown hK hP hD hS 0 rfl rfl rfl (Nat.le_of_ble_eq_true rfl) dd_MD_init_61 (fun H locs hP hD hS => ?_)
  have hP : va_P g.1 vwCl [oc_o h 4 [.ref rw, .ref q_1, .ref q_2, .ref q_3, .ref q_4, .ref q_5, .int (nI 0), .int (nI 0), .int (nI 0)], oc_i g q_1 513 (fun _ => 0), oc_i g q_2 513 (fun _ => 0), oc_i g q_3 513 (fun _ => 0), oc_i g q_4 513 (fun _ => 0), oc_i g q_5 513 (fun _ => 0)] H := hP
  have hD : va_D A [oc_o h 4 [.ref rw, .ref q_1, .ref q_2, .ref q_3, .ref q_4, .ref q_5, .int (nI 0), .int (nI 0), .int (nI 0)], oc_i g q_1 513 (fun _ => 0), oc_i g q_2 513 (fun _ => 0), oc_i g q_3 513 (fun _ => 0), oc_i g q_4 513 (fun _ => 0), oc_i g q_5 513 (fun _ => 0)] := hD
  refine lv_aload_n hx hb dd_MD_init_64 rfl (lv_at hl 0 rfl) ?_
  refine lv_iconst (v := nI 0) hx hb dd_MD_init_65 (by decide) ?_
  refine pf_MD_37 hx hb hts hown hK hP hD hS 0 rfl rfl rfl (Nat.le_of_ble_eq_true rfl) dd_MD_init_66 (fun H locs hP hD hS => ?_)
  have hP : va_P g.1 vwCl [oc_o h 4 [.ref rw, .ref q_1, .ref q_2, .ref q_3, .ref q_4, .ref q_5, .int (nI 0), .int (nI 0), .int (nI 0)], oc_i g q_1 513 (fun _ => 0), oc_i g q_2 513 (fun _ => 0), oc_i g q_3 513 (fun _ => 0), oc_i g q_4 513 (fun _ => 0), oc_i g q_5 513 (fun _ => 0)] H := hP
  have hD : va_D A [oc_o h 4 [.ref rw, .ref q_1, .ref q_2, .ref q_3, .ref q_4, .ref q_5, .int (nI 0), .int (nI 0), .int (nI 0)], oc_i g q_1 513 (fun _ => 0), oc_i g q_2 513 (fun _ => 0), oc_i g q_3 513 (fun _ => 0), oc_i g q_4 513 (fun _ => 0), oc_i g q_5 513 (fun _ => 0)] := hD
  exact xr_v hx hb hr hlk hQ hP hD hS () trivial [] (by decide) rfl (Nat.le_of_ble_eq_true rfl) (Nat.le_of_ble_eq_true rfl) dd_MD_init_69

set_option maxHeartbeats 4000000 in
set_option maxRecDepth 100000 in
theorem ct_rd_init (l : Launch) (g : xg_G) (h : Nat) (rw : Nat) (o : Nat) : kc_V l yy_RD_init cd_RD_init 3 { frames := 2, cells := 2, slots := 47, locals := 38 } g [.ref h, .ref rw, .ref o] [oc_o h 5 [.null, .null, .null, .int (nI 0), .int (nI 0), .null, .null, .int (nI 0)]] (S := Unit) (fun _ => True) (fun _ => []) := by
  refine kc_Vof (by decide) (Nat.le_of_ble_eq_true rfl) ?_
  intro p e s m args below meth c A ls Q H locs hQ hB hP hS
  obtain ⟨hx, hb, hr, hlk, hin, hml, hown, hts, hA, hK, hD, hE, hl⟩ := hB
  have hF : xf_F g p m c cd_RD_init 3 s args "StackedRows$Reader" A := ⟨⟨hx, hb, hml, hown, hts⟩, hE, hK, hA⟩
  have hl : lv_has ls 3 [(0, .ref h), (1, .ref rw), (2, .ref o)] := hl
  have hown : s.vm.findClass "StackedRows$Reader" = some m.cls := hown
  refine lv_aload_n hx hb dd_RD_init_0 rfl (lv_at hl 0 rfl) ?_
  refine oi_RD_3 hx hb hts hown hml hl.1 (Nat.le_of_ble_eq_true rfl) (Nat.le_of_ble_eq_true rfl) dd_RD_init_1 ?_
  refine lv_aload_n hx hb dd_RD_init_4 rfl (lv_at hl 0 rfl) ?_
  refine lv_aload_n hx hb dd_RD_init_5 rfl (lv_at hl 1 rfl) ?_
  refine pf_RD_9 hin hx hb hts hown hK hP hD hS 0 rfl rfl rfl (Nat.le_of_ble_eq_true rfl) dd_RD_init_6 (fun H locs hP hD hS => ?_)
  have hP : va_P g.1 vwCl [oc_o h 5 [.ref rw, .null, .null, .int (nI 0), .int (nI 0), .null, .null, .int (nI 0)]] H := hP
  have hD : va_D A [oc_o h 5 [.ref rw, .null, .null, .int (nI 0), .int (nI 0), .null, .null, .int (nI 0)]] := hD
  refine lv_aload_n hx hb dd_RD_init_9 rfl (lv_at hl 0 rfl) ?_
  refine lv_aload_n hx hb dd_RD_init_10 rfl (lv_at hl 2 rfl) ?_
  refine pf_RD_15 hin hx hb hts hown hK hP hD hS 0 rfl rfl rfl (Nat.le_of_ble_eq_true rfl) dd_RD_init_11 (fun H locs hP hD hS => ?_)
  have hP : va_P g.1 vwCl [oc_o h 5 [.ref rw, .ref o, .null, .int (nI 0), .int (nI 0), .null, .null, .int (nI 0)]] H := hP
  have hD : va_D A [oc_o h 5 [.ref rw, .ref o, .null, .int (nI 0), .int (nI 0), .null, .null, .int (nI 0)]] := hD
  refine lv_aload_n hx hb dd_RD_init_14 rfl (lv_at hl 0 rfl) ?_
  refine nw_RD_19 (k1 := 1) (k2 := 2) hx hb hts hown hK hP hD hS hA rfl rfl (Nat.le_of_ble_eq_true rfl) (Nat.le_of_ble_eq_true rfl) dd_RD_init_15 (fun q_1 H hP hD hS => ?_)
  have hP : va_P g.1 vwCl [oc_o h 5 [.ref rw, .ref o, .null, .int (nI 0), .int (nI 0), .null, .null, .int (nI 0)], oc_o q_1 1 [.int (nI 0), .null]] H := hP
  have hD : va_D A [oc_o h 5 [.ref rw, .ref o, .null, .int (nI 0), .int (nI 0), .null, .null, .int (nI 0)], oc_o q_1 1 [.int (nI 0), .null]] := hD
  refine lv_dup hx hb dd_RD_init_18 rfl ?_
  refine lv_bipush (v := nI 10) hx hb dd_RD_init_19 (by decide) ?_
  refine lv_bipush (v := nI 45) hx hb dd_RD_init_21 (by decide) ?_
  refine xc_Iv (wr := [oc_o h 5 [.ref rw, .ref o, .null, .int (nI 0), .int (nI 0), .null, .null, .int (nI 0)]]) (k1 := 2) (k2 := 47) (As := [.int (nI 10), .int (nI 45)]) (rest := [.ref q_1, .ref h]) (k := 2) hF hP hD hS (ct_bn_init45 l g q_1) wc_BN_init wn_BN ml_RD_21 wi_BN_init rfl (by decide) [1] [0] ⟨rfl, rfl, by decide, by decide, by decide⟩ ⟨⟨Nat.le_of_ble_eq_true rfl, Nat.le_of_ble_eq_true rfl⟩, rfl, rfl, Nat.le_of_ble_eq_true rfl, Nat.le_of_ble_eq_true rfl⟩ rfl hl.1 rfl (Nat.le_of_ble_eq_true rfl) dd_RD_init_23 (fun u H locs hp hP hD hS => ?_)
  have hP : va_P g.1 vwCl [oc_o h 5 [.ref rw, .ref o, .null, .int (nI 0), .int (nI 0), .null, .null, .int (nI 0)]] H := hP
  have hD : va_D A [oc_o h 5 [.ref rw, .ref o, .null, .int (nI 0), .int (nI 0), .null, .null, .int (nI 0)]] := hD
  refine pf_RD_24 hin hx hb hts hown hK hP hD hS 0 rfl rfl rfl (Nat.le_of_ble_eq_true rfl) dd_RD_init_26 (fun H locs hP hD hS => ?_)
  have hP : va_P g.1 vwCl [oc_o h 5 [.ref rw, .ref o, .ref q_1, .int (nI 0), .int (nI 0), .null, .null, .int (nI 0)]] H := hP
  have hD : va_D A [oc_o h 5 [.ref rw, .ref o, .ref q_1, .int (nI 0), .int (nI 0), .null, .null, .int (nI 0)]] := hD
  refine lv_aload_n hx hb dd_RD_init_29 rfl (lv_at hl 0 rfl) ?_
  refine lv_iconst (v := nI 0) hx hb dd_RD_init_30 (by decide) ?_
  refine pf_RD_28 hx hb hts hown hK hP hD hS 0 rfl rfl rfl (Nat.le_of_ble_eq_true rfl) dd_RD_init_31 (fun H locs hP hD hS => ?_)
  have hP : va_P g.1 vwCl [oc_o h 5 [.ref rw, .ref o, .ref q_1, .int (nI 0), .int (nI 0), .null, .null, .int (nI 0)]] H := hP
  have hD : va_D A [oc_o h 5 [.ref rw, .ref o, .ref q_1, .int (nI 0), .int (nI 0), .null, .null, .int (nI 0)]] := hD
  refine lv_aload_n hx hb dd_RD_init_34 rfl (lv_at hl 0 rfl) ?_
  refine lv_sipush (v := nI 900) hx hb dd_RD_init_35 (by decide) ?_
  refine pf_RD_32 hx hb hts hown hK hP hD hS 0 rfl rfl rfl (Nat.le_of_ble_eq_true rfl) dd_RD_init_38 (fun H locs hP hD hS => ?_)
  have hP : va_P g.1 vwCl [oc_o h 5 [.ref rw, .ref o, .ref q_1, .int (nI 0), .int (nI 900), .null, .null, .int (nI 0)]] H := hP
  have hD : va_D A [oc_o h 5 [.ref rw, .ref o, .ref q_1, .int (nI 0), .int (nI 900), .null, .null, .int (nI 0)]] := hD
  refine lv_aload_n hx hb dd_RD_init_41 rfl (lv_at hl 0 rfl) ?_
  refine gs_RD_35 hx hb hts hown hE hS dd_RD_init_42 (fun v_3 hv_3 => ?_)
  refine pf_RD_41 hx hb hts hown hK hP hD hS 0 rfl (xs_nar hv_3) (xs_fit hv_3) (Nat.le_of_ble_eq_true rfl) dd_RD_init_45 (fun H locs hP hD hS => ?_)
  have hP : va_P g.1 vwCl [oc_o h 5 [.ref rw, .ref o, .ref q_1, .int (nI 0), .int (nI 900), v_3, .null, .int (nI 0)]] H := hP
  have hD : va_D A [oc_o h 5 [.ref rw, .ref o, .ref q_1, .int (nI 0), .int (nI 900), v_3, .null, .int (nI 0)]] := hD
  refine lv_aload_n hx hb dd_RD_init_48 rfl (lv_at hl 0 rfl) ?_
  refine lv_null hx hb dd_RD_init_49 ?_
  refine pf_RD_44 hx hb hts hown hK hP hD hS 0 rfl rfl rfl (Nat.le_of_ble_eq_true rfl) dd_RD_init_50 (fun H locs hP hD hS => ?_)
  have hP : va_P g.1 vwCl [oc_o h 5 [.ref rw, .ref o, .ref q_1, .int (nI 0), .int (nI 900), v_3, .null, .int (nI 0)]] H := hP
  have hD : va_D A [oc_o h 5 [.ref rw, .ref o, .ref q_1, .int (nI 0), .int (nI 900), v_3, .null, .int (nI 0)]] := hD
  refine lv_aload_n hx hb dd_RD_init_53 rfl (lv_at hl 0 rfl) ?_
  refine lv_iconst (v := nI 0) hx hb dd_RD_init_54 (by decide) ?_
  refine pf_RD_47 hx hb hts hown hK hP hD hS 0 rfl rfl rfl (Nat.le_of_ble_eq_true rfl) dd_RD_init_55 (fun H locs hP hD hS => ?_)
  have hP : va_P g.1 vwCl [oc_o h 5 [.ref rw, .ref o, .ref q_1, .int (nI 0), .int (nI 900), v_3, .null, .int (nI 0)]] H := hP
  have hD : va_D A [oc_o h 5 [.ref rw, .ref o, .ref q_1, .int (nI 0), .int (nI 900), v_3, .null, .int (nI 0)]] := hD
  exact xr_v hx hb hr hlk hQ hP hD hS () trivial [] (by decide) rfl (Nat.le_of_ble_eq_true rfl) (Nat.le_of_ble_eq_true rfl) dd_RD_init_58

set_option maxHeartbeats 4000000 in
set_option maxRecDepth 100000 in
theorem ct_sv_init (l : Launch) (g : xg_G) (h : Nat) (rw : Nat) : kc_V l yy_SV_init cd_SV_init 2 { frames := 3, cells := 13, slots := 4849, locals := 60 } g [.ref h, .ref rw] [oc_o h 6 [.null, .null, .null, .null, .null, .null, .int (nI 0), .int (nI 0), .int (nI 0)]] (S := Unit) (fun _ => True) (fun _ => []) := by
  refine kc_Vof (by decide) (Nat.le_of_ble_eq_true rfl) ?_
  intro p e s m args below meth c A ls Q H locs hQ hB hP hS
  obtain ⟨hx, hb, hr, hlk, hin, hml, hown, hts, hA, hK, hD, hE, hl⟩ := hB
  have hF : xf_F g p m c cd_SV_init 2 s args "StackedRows$Solver" A := ⟨⟨hx, hb, hml, hown, hts⟩, hE, hK, hA⟩
  have hl : lv_has ls 2 [(0, .ref h), (1, .ref rw)] := hl
  have hown : s.vm.findClass "StackedRows$Solver" = some m.cls := hown
  refine lv_aload_n hx hb dd_SV_init_0 rfl (lv_at hl 0 rfl) ?_
  refine oi_SV_3 hx hb hts hown hml hl.1 (Nat.le_of_ble_eq_true rfl) (Nat.le_of_ble_eq_true rfl) dd_SV_init_1 ?_
  refine lv_aload_n hx hb dd_SV_init_4 rfl (lv_at hl 0 rfl) ?_
  refine lv_aload_n hx hb dd_SV_init_5 rfl (lv_at hl 1 rfl) ?_
  refine pf_SV_9 hin hx hb hts hown hK hP hD hS 0 rfl rfl rfl (Nat.le_of_ble_eq_true rfl) dd_SV_init_6 (fun H locs hP hD hS => ?_)
  have hP : va_P g.1 vwCl [oc_o h 6 [.null, .ref rw, .null, .null, .null, .null, .int (nI 0), .int (nI 0), .int (nI 0)]] H := hP
  have hD : va_D A [oc_o h 6 [.null, .ref rw, .null, .null, .null, .null, .int (nI 0), .int (nI 0), .int (nI 0)]] := hD
  refine lv_aload_n hx hb dd_SV_init_9 rfl (lv_at hl 0 rfl) ?_
  refine lv_bipush (v := nI 90) hx hb dd_SV_init_10 (by decide) ?_
  refine xa_newI (k1 := 1) (k2 := 90) hx hb (hts _ wa_int) hK hP hD hS hA (by decide) rfl rfl (Nat.le_of_ble_eq_true rfl) (Nat.le_of_ble_eq_true rfl) dd_SV_init_12 (fun q_1 H hP hD hS => ?_)
  have hP : va_P g.1 vwCl [oc_o h 6 [.null, .ref rw, .null, .null, .null, .null, .int (nI 0), .int (nI 0), .int (nI 0)], oc_i g q_1 90 (fun _ => 0)] H := hP
  have hD : va_D A [oc_o h 6 [.null, .ref rw, .null, .null, .null, .null, .int (nI 0), .int (nI 0), .int (nI 0)], oc_i g q_1 90 (fun _ => 0)] := hD
  refine pf_SV_15 hin hx hb hts hown hK hP hD hS 0 rfl rfl rfl (Nat.le_of_ble_eq_true rfl) dd_SV_init_14 (fun H locs hP hD hS => ?_)
  have hP : va_P g.1 vwCl [oc_o h 6 [.ref q_1, .ref rw, .null, .null, .null, .null, .int (nI 0), .int (nI 0), .int (nI 0)], oc_i g q_1 90 (fun _ => 0)] H := hP
  have hD : va_D A [oc_o h 6 [.ref q_1, .ref rw, .null, .null, .null, .null, .int (nI 0), .int (nI 0), .int (nI 0)], oc_i g q_1 90 (fun _ => 0)] := hD
  refine lv_aload_n hx hb dd_SV_init_17 rfl (lv_at hl 0 rfl) ?_
  refine lv_sipush (v := nI 928) hx hb dd_SV_init_18 (by decide) ?_
  refine xa_newI (k1 := 2) (k2 := 1018) hx hb (hts _ wa_int) hK hP hD hS hA (by decide) rfl rfl (Nat.le_of_ble_eq_true rfl) (Nat.le_of_ble_eq_true rfl) dd_SV_init_21 (fun q_2 H hP hD hS => ?_)
  have hP : va_P g.1 vwCl [oc_o h 6 [.ref q_1, .ref rw, .null, .null, .null, .null, .int (nI 0), .int (nI 0), .int (nI 0)], oc_i g q_1 90 (fun _ => 0), oc_i g q_2 928 (fun _ => 0)] H := hP
  have hD : va_D A [oc_o h 6 [.ref q_1, .ref rw, .null, .null, .null, .null, .int (nI 0), .int (nI 0), .int (nI 0)], oc_i g q_1 90 (fun _ => 0), oc_i g q_2 928 (fun _ => 0)] := hD
  refine pf_SV_18 hin hx hb hts hown hK hP hD hS 0 rfl rfl rfl (Nat.le_of_ble_eq_true rfl) dd_SV_init_23 (fun H locs hP hD hS => ?_)
  have hP : va_P g.1 vwCl [oc_o h 6 [.ref q_1, .ref rw, .ref q_2, .null, .null, .null, .int (nI 0), .int (nI 0), .int (nI 0)], oc_i g q_1 90 (fun _ => 0), oc_i g q_2 928 (fun _ => 0)] H := hP
  have hD : va_D A [oc_o h 6 [.ref q_1, .ref rw, .ref q_2, .null, .null, .null, .int (nI 0), .int (nI 0), .int (nI 0)], oc_i g q_1 90 (fun _ => 0), oc_i g q_2 928 (fun _ => 0)] := hD
  refine lv_aload_n hx hb dd_SV_init_26 rfl (lv_at hl 0 rfl) ?_
  refine nw_SV_21 (k1 := 3) (k2 := 1027) hx hb hts hown hK hP hD hS hA rfl rfl (Nat.le_of_ble_eq_true rfl) (Nat.le_of_ble_eq_true rfl) dd_SV_init_27 (fun q_3 H hP hD hS => ?_)
  have hP : va_P g.1 vwCl [oc_o h 6 [.ref q_1, .ref rw, .ref q_2, .null, .null, .null, .int (nI 0), .int (nI 0), .int (nI 0)], oc_i g q_1 90 (fun _ => 0), oc_i g q_2 928 (fun _ => 0), oc_o q_3 4 [.null, .null, .null, .null, .null, .null, .int (nI 0), .int (nI 0), .int (nI 0)]] H := hP
  have hD : va_D A [oc_o h 6 [.ref q_1, .ref rw, .ref q_2, .null, .null, .null, .int (nI 0), .int (nI 0), .int (nI 0)], oc_i g q_1 90 (fun _ => 0), oc_i g q_2 928 (fun _ => 0), oc_o q_3 4 [.null, .null, .null, .null, .null, .null, .int (nI 0), .int (nI 0), .int (nI 0)]] := hD
  refine lv_dup hx hb dd_SV_init_30 rfl ?_
  refine lv_aload_n hx hb dd_SV_init_31 rfl (lv_at hl 0 rfl) ?_
  refine gf_SV_18 hx hb hts hown hK hP 0 rfl rfl dd_SV_init_32 ?_
  refine xc_Iv (wr := [oc_o h 6 [.ref q_1, .ref rw, .ref q_2, .null, .null, .null, .int (nI 0), .int (nI 0), .int (nI 0)], oc_i g q_1 90 (fun _ => 0), oc_i g q_2 928 (fun _ => 0)]) (k1 := 8) (k2 := 3592) (As := [.ref q_2]) (rest := [.ref q_3, .ref h]) (k := 1) hF hP hD hS (ct_md_init l g q_3 q_2) wc_MD_init wn_MD ml_SV_23 wi_MD_init rfl (by decide) [3] [0, 1, 2] ⟨rfl, rfl, by decide, by decide, by decide⟩ ⟨⟨Nat.le_of_ble_eq_true rfl, Nat.le_of_ble_eq_true rfl⟩, rfl, rfl, Nat.le_of_ble_eq_true rfl, Nat.le_of_ble_eq_true rfl⟩ rfl hl.1 rfl (Nat.le_of_ble_eq_true rfl) dd_SV_init_35 (fun u H locs hp hP hD hS => ?_)
  have hP : va_P g.1 vwCl [oc_o h 6 [.ref q_1, .ref rw, .ref q_2, .null, .null, .null, .int (nI 0), .int (nI 0), .int (nI 0)], oc_i g q_1 90 (fun _ => 0), oc_i g q_2 928 (fun _ => 0)] H := hP
  have hD : va_D A [oc_o h 6 [.ref q_1, .ref rw, .ref q_2, .null, .null, .null, .int (nI 0), .int (nI 0), .int (nI 0)], oc_i g q_1 90 (fun _ => 0), oc_i g q_2 928 (fun _ => 0)] := hD
  refine pf_SV_26 hin hx hb hts hown hK hP hD hS 0 rfl rfl rfl (Nat.le_of_ble_eq_true rfl) dd_SV_init_38 (fun H locs hP hD hS => ?_)
  have hP : va_P g.1 vwCl [oc_o h 6 [.ref q_1, .ref rw, .ref q_2, .ref q_3, .null, .null, .int (nI 0), .int (nI 0), .int (nI 0)], oc_i g q_1 90 (fun _ => 0), oc_i g q_2 928 (fun _ => 0)] H := hP
  have hD : va_D A [oc_o h 6 [.ref q_1, .ref rw, .ref q_2, .ref q_3, .null, .null, .int (nI 0), .int (nI 0), .int (nI 0)], oc_i g q_1 90 (fun _ => 0), oc_i g q_2 928 (fun _ => 0)] := hD
  refine lv_aload_n hx hb dd_SV_init_41 rfl (lv_at hl 0 rfl) ?_
  refine nw_SV_30 (k1 := 9) (k2 := 3594) hx hb hts hown hK hP hD hS hA rfl rfl (Nat.le_of_ble_eq_true rfl) (Nat.le_of_ble_eq_true rfl) dd_SV_init_42 (fun q_5 H hP hD hS => ?_)
  have hP : va_P g.1 vwCl [oc_o h 6 [.ref q_1, .ref rw, .ref q_2, .ref q_3, .null, .null, .int (nI 0), .int (nI 0), .int (nI 0)], oc_i g q_1 90 (fun _ => 0), oc_i g q_2 928 (fun _ => 0), oc_o q_5 8 [.null, .int (nI 0)]] H := hP
  have hD : va_D A [oc_o h 6 [.ref q_1, .ref rw, .ref q_2, .ref q_3, .null, .null, .int (nI 0), .int (nI 0), .int (nI 0)], oc_i g q_1 90 (fun _ => 0), oc_i g q_2 928 (fun _ => 0), oc_o q_5 8 [.null, .int (nI 0)]] := hD
  refine lv_dup hx hb dd_SV_init_45 rfl ?_
  refine xc_Iv (wr := [oc_o h 6 [.ref q_1, .ref rw, .ref q_2, .ref q_3, .null, .null, .int (nI 0), .int (nI 0), .int (nI 0)], oc_i g q_1 90 (fun _ => 0), oc_i g q_2 928 (fun _ => 0)]) (k1 := 10) (k2 := 4794) (As := []) (rest := [.ref q_5, .ref h]) (k := 0) hF hP hD hS (ct_tape_init l g q_5) wc_TP_init wn_TP ml_SV_32 wi_TP_init rfl (by decide) [3] [0, 1, 2] ⟨rfl, rfl, by decide, by decide, by decide⟩ ⟨⟨Nat.le_of_ble_eq_true rfl, Nat.le_of_ble_eq_true rfl⟩, rfl, rfl, Nat.le_of_ble_eq_true rfl, Nat.le_of_ble_eq_true rfl⟩ rfl hl.1 rfl (Nat.le_of_ble_eq_true rfl) dd_SV_init_46 (fun q_6 H locs hp hP hD hS => ?_)
  have hP : va_P g.1 vwCl [oc_o h 6 [.ref q_1, .ref rw, .ref q_2, .ref q_3, .null, .null, .int (nI 0), .int (nI 0), .int (nI 0)], oc_i g q_1 90 (fun _ => 0), oc_i g q_2 928 (fun _ => 0), oc_o q_5 8 [.ref q_6, .int (nI 0)], oc_i g q_6 1200 (fun _ => 0)] H := hP
  have hD : va_D A [oc_o h 6 [.ref q_1, .ref rw, .ref q_2, .ref q_3, .null, .null, .int (nI 0), .int (nI 0), .int (nI 0)], oc_i g q_1 90 (fun _ => 0), oc_i g q_2 928 (fun _ => 0), oc_o q_5 8 [.ref q_6, .int (nI 0)], oc_i g q_6 1200 (fun _ => 0)] := hD
  refine pf_SV_33 hin hx hb hts hown hK hP hD hS 0 rfl rfl rfl (Nat.le_of_ble_eq_true rfl) dd_SV_init_49 (fun H locs hP hD hS => ?_)
  have hP : va_P g.1 vwCl [oc_o h 6 [.ref q_1, .ref rw, .ref q_2, .ref q_3, .ref q_5, .null, .int (nI 0), .int (nI 0), .int (nI 0)], oc_i g q_1 90 (fun _ => 0), oc_i g q_2 928 (fun _ => 0), oc_o q_5 8 [.ref q_6, .int (nI 0)], oc_i g q_6 1200 (fun _ => 0)] H := hP
  have hD : va_D A [oc_o h 6 [.ref q_1, .ref rw, .ref q_2, .ref q_3, .ref q_5, .null, .int (nI 0), .int (nI 0), .int (nI 0)], oc_i g q_1 90 (fun _ => 0), oc_i g q_2 928 (fun _ => 0), oc_o q_5 8 [.ref q_6, .int (nI 0)], oc_i g q_6 1200 (fun _ => 0)] := hD
  refine lv_aload_n hx hb dd_SV_init_52 rfl (lv_at hl 0 rfl) ?_
  refine nw_SV_37 (k1 := 11) (k2 := 4802) hx hb hts hown hK hP hD hS hA rfl rfl (Nat.le_of_ble_eq_true rfl) (Nat.le_of_ble_eq_true rfl) dd_SV_init_53 (fun q_8 H hP hD hS => ?_)
  have hP : va_P g.1 vwCl [oc_o h 6 [.ref q_1, .ref rw, .ref q_2, .ref q_3, .ref q_5, .null, .int (nI 0), .int (nI 0), .int (nI 0)], oc_i g q_1 90 (fun _ => 0), oc_i g q_2 928 (fun _ => 0), oc_o q_5 8 [.ref q_6, .int (nI 0)], oc_i g q_6 1200 (fun _ => 0), oc_o q_8 5 [.null, .null, .null, .int (nI 0), .int (nI 0), .null, .null, .int (nI 0)]] H := hP
  have hD : va_D A [oc_o h 6 [.ref q_1, .ref rw, .ref q_2, .ref q_3, .ref q_5, .null, .int (nI 0), .int (nI 0), .int (nI 0)], oc_i g q_1 90 (fun _ => 0), oc_i g q_2 928 (fun _ => 0), oc_o q_5 8 [.ref q_6, .int (nI 0)], oc_i g q_6 1200 (fun _ => 0), oc_o q_8 5 [.null, .null, .null, .int (nI 0), .int (nI 0), .null, .null, .int (nI 0)]] := hD
  refine lv_dup hx hb dd_SV_init_56 rfl ?_
  refine lv_aload_n hx hb dd_SV_init_57 rfl (lv_at hl 0 rfl) ?_
  refine gf_SV_18 hx hb hts hown hK hP 0 rfl rfl dd_SV_init_58 ?_
  refine lv_aload_n hx hb dd_SV_init_61 rfl (lv_at hl 0 rfl) ?_
  refine gf_SV_33 hx hb hts hown hK hP 0 rfl rfl dd_SV_init_62 ?_
  refine xc_Iv (wr := [oc_o h 6 [.ref q_1, .ref rw, .ref q_2, .ref q_3, .ref q_5, .null, .int (nI 0), .int (nI 0), .int (nI 0)], oc_i g q_1 90 (fun _ => 0), oc_i g q_2 928 (fun _ => 0), oc_o q_5 8 [.ref q_6, .int (nI 0)], oc_i g q_6 1200 (fun _ => 0)]) (k1 := 13) (k2 := 4849) (As := [.ref q_2, .ref q_5]) (rest := [.ref q_8, .ref h]) (k := 2) hF hP hD hS (ct_rd_init l g q_8 q_2 q_5) wc_RD_init wn_RD ml_SV_39 wi_RD_init rfl (by decide) [5] [0, 1, 2, 3, 4] ⟨rfl, rfl, by decide, by decide, by decide⟩ ⟨⟨Nat.le_of_ble_eq_true rfl, Nat.le_of_ble_eq_true rfl⟩, rfl, rfl, Nat.le_of_ble_eq_true rfl, Nat.le_of_ble_eq_true rfl⟩ rfl hl.1 rfl (Nat.le_of_ble_eq_true rfl) dd_SV_init_65 (fun u H locs hp hP hD hS => ?_)
  have hP : va_P g.1 vwCl [oc_o h 6 [.ref q_1, .ref rw, .ref q_2, .ref q_3, .ref q_5, .null, .int (nI 0), .int (nI 0), .int (nI 0)], oc_i g q_1 90 (fun _ => 0), oc_i g q_2 928 (fun _ => 0), oc_o q_5 8 [.ref q_6, .int (nI 0)], oc_i g q_6 1200 (fun _ => 0)] H := hP
  have hD : va_D A [oc_o h 6 [.ref q_1, .ref rw, .ref q_2, .ref q_3, .ref q_5, .null, .int (nI 0), .int (nI 0), .int (nI 0)], oc_i g q_1 90 (fun _ => 0), oc_i g q_2 928 (fun _ => 0), oc_o q_5 8 [.ref q_6, .int (nI 0)], oc_i g q_6 1200 (fun _ => 0)] := hD
  refine pf_SV_42 hin hx hb hts hown hK hP hD hS 0 rfl rfl rfl (Nat.le_of_ble_eq_true rfl) dd_SV_init_68 (fun H locs hP hD hS => ?_)
  have hP : va_P g.1 vwCl [oc_o h 6 [.ref q_1, .ref rw, .ref q_2, .ref q_3, .ref q_5, .ref q_8, .int (nI 0), .int (nI 0), .int (nI 0)], oc_i g q_1 90 (fun _ => 0), oc_i g q_2 928 (fun _ => 0), oc_o q_5 8 [.ref q_6, .int (nI 0)], oc_i g q_6 1200 (fun _ => 0)] H := hP
  have hD : va_D A [oc_o h 6 [.ref q_1, .ref rw, .ref q_2, .ref q_3, .ref q_5, .ref q_8, .int (nI 0), .int (nI 0), .int (nI 0)], oc_i g q_1 90 (fun _ => 0), oc_i g q_2 928 (fun _ => 0), oc_o q_5 8 [.ref q_6, .int (nI 0)], oc_i g q_6 1200 (fun _ => 0)] := hD
  refine lv_aload_n hx hb dd_SV_init_71 rfl (lv_at hl 0 rfl) ?_
  refine lv_iconst (v := nI 0) hx hb dd_SV_init_72 (by decide) ?_
  refine pf_SV_46 hx hb hts hown hK hP hD hS 0 rfl rfl rfl (Nat.le_of_ble_eq_true rfl) dd_SV_init_73 (fun H locs hP hD hS => ?_)
  have hP : va_P g.1 vwCl [oc_o h 6 [.ref q_1, .ref rw, .ref q_2, .ref q_3, .ref q_5, .ref q_8, .int (nI 0), .int (nI 0), .int (nI 0)], oc_i g q_1 90 (fun _ => 0), oc_i g q_2 928 (fun _ => 0), oc_o q_5 8 [.ref q_6, .int (nI 0)], oc_i g q_6 1200 (fun _ => 0)] H := hP
  have hD : va_D A [oc_o h 6 [.ref q_1, .ref rw, .ref q_2, .ref q_3, .ref q_5, .ref q_8, .int (nI 0), .int (nI 0), .int (nI 0)], oc_i g q_1 90 (fun _ => 0), oc_i g q_2 928 (fun _ => 0), oc_o q_5 8 [.ref q_6, .int (nI 0)], oc_i g q_6 1200 (fun _ => 0)] := hD
  refine lv_aload_n hx hb dd_SV_init_76 rfl (lv_at hl 0 rfl) ?_
  refine lv_iconst (v := nI 0) hx hb dd_SV_init_77 (by decide) ?_
  refine pf_SV_50 hx hb hts hown hK hP hD hS 0 rfl rfl rfl (Nat.le_of_ble_eq_true rfl) dd_SV_init_78 (fun H locs hP hD hS => ?_)
  have hP : va_P g.1 vwCl [oc_o h 6 [.ref q_1, .ref rw, .ref q_2, .ref q_3, .ref q_5, .ref q_8, .int (nI 0), .int (nI 0), .int (nI 0)], oc_i g q_1 90 (fun _ => 0), oc_i g q_2 928 (fun _ => 0), oc_o q_5 8 [.ref q_6, .int (nI 0)], oc_i g q_6 1200 (fun _ => 0)] H := hP
  have hD : va_D A [oc_o h 6 [.ref q_1, .ref rw, .ref q_2, .ref q_3, .ref q_5, .ref q_8, .int (nI 0), .int (nI 0), .int (nI 0)], oc_i g q_1 90 (fun _ => 0), oc_i g q_2 928 (fun _ => 0), oc_o q_5 8 [.ref q_6, .int (nI 0)], oc_i g q_6 1200 (fun _ => 0)] := hD
  refine lv_aload_n hx hb dd_SV_init_81 rfl (lv_at hl 0 rfl) ?_
  refine lv_iconst (v := nI 0) hx hb dd_SV_init_82 (by decide) ?_
  refine pf_SV_53 hx hb hts hown hK hP hD hS 0 rfl rfl rfl (Nat.le_of_ble_eq_true rfl) dd_SV_init_83 (fun H locs hP hD hS => ?_)
  have hP : va_P g.1 vwCl [oc_o h 6 [.ref q_1, .ref rw, .ref q_2, .ref q_3, .ref q_5, .ref q_8, .int (nI 0), .int (nI 0), .int (nI 0)], oc_i g q_1 90 (fun _ => 0), oc_i g q_2 928 (fun _ => 0), oc_o q_5 8 [.ref q_6, .int (nI 0)], oc_i g q_6 1200 (fun _ => 0)] H := hP
  have hD : va_D A [oc_o h 6 [.ref q_1, .ref rw, .ref q_2, .ref q_3, .ref q_5, .ref q_8, .int (nI 0), .int (nI 0), .int (nI 0)], oc_i g q_1 90 (fun _ => 0), oc_i g q_2 928 (fun _ => 0), oc_o q_5 8 [.ref q_6, .int (nI 0)], oc_i g q_6 1200 (fun _ => 0)] := hD
  exact xr_v hx hb hr hlk hQ hP hD hS () trivial [] (by decide) rfl (Nat.le_of_ble_eq_true rfl) (Nat.le_of_ble_eq_true rfl) dd_SV_init_86
