set_option maxHeartbeats 4000000 in
set_option maxRecDepth 100000 in
theorem ct_sr_init (l : Launch) (g : xg_G) (h : Nat) : kc_V l yy_SR_init cd_SR_init 1 { frames := 4, cells := 30, slots := 13449, locals := 81 } g [.ref h] [oc_o h 0 [.null, .null, .null, .null, .null, .null, .null]] (S := Nat × Nat × Nat × Nat × Nat × Nat × Nat × Nat × Nat × Nat × Nat × Nat × Nat × Nat × Nat × Nat × Value) (fun _ => True) (fun u0 => [oc_o h 0 [.ref u0.1, .ref u0.2.1, .ref u0.2.2.1, .ref u0.2.2.2.1, .ref u0.2.2.2.2.1, .ref u0.2.2.2.2.2.1, .ref u0.2.2.2.2.2.2.1], oc_o u0.1 8 [.ref u0.2.2.2.2.2.2.2.1, .int (nI 0)], oc_i g u0.2.2.2.2.2.2.2.1 1200 (fun _ => 0), oc_o u0.2.1 10 [.ref u0.1, .ref u0.2.2.2.2.2.2.2.2.1, .ref u0.2.2.2.2.2.2.2.2.2.1, .ref u0.2.2.2.2.2.2.2.2.2.2.1, .ref u0.2.2.2.2.2.2.2.2.2.2.2.1, .ref u0.2.2.2.2.2.2.2.2.2.2.2.2.1, .int (nI 900), .int (nI 0)], oc_o u0.2.2.2.2.2.2.2.2.1 3 [.ref u0.2.2.2.2.2.2.2.2.2.2.2.2.2.1, .int (nI 0)], oc_o u0.2.2.2.2.2.2.2.2.2.1 9 [.ref u0.2.2.2.2.2.2.2.2.1, u0.2.2.2.2.2.2.2.2.2.2.2.2.2.2.2.2, .int (-1)], oc_i g u0.2.2.2.2.2.2.2.2.2.2.2.1 1201 (fun _ => 0), oc_i g u0.2.2.2.2.2.2.2.2.2.2.2.2.1 1201 (fun _ => 0), oc_o u0.2.2.1 2 [.ref u0.2.2.2.2.2.2.2.2.2.2.2.2.2.2.1], oc_i g u0.2.2.2.2.2.2.2.2.2.2.2.2.2.2.1 513 (fun _ => 0), oc_o u0.2.2.2.1 7 [.ref u0.2.2.2.2.2.2.2.2.2.2.2.2.2.2.2.1, .int (nI 0), .int (nI 0)], oc_i g u0.2.2.2.2.2.2.2.2.2.2.2.2.2.2.2.1 1108 (fun _ => 0), oc_i g u0.2.2.2.2.2.1 928 (fun _ => 0), oc_i g u0.2.2.2.2.2.2.1 4 (fun _ => 0)]) := by
  refine kc_Vof (by decide) (Nat.le_of_ble_eq_true rfl) ?_
  intro p e s m args below meth c A ls Q H locs hQ hB hP hS
  obtain ⟨hx, hb, hr, hlk, hin, hml, hown, hts, hA, hK, hD, hE, hl⟩ := hB
  have hF : xf_F g p m c cd_SR_init 1 s args "StackedRows" A := ⟨⟨hx, hb, hml, hown, hts⟩, hE, hK, hA⟩
  have hl : lv_has ls 1 [(0, .ref h)] := hl
  have hown : s.vm.findClass "StackedRows" = some m.cls := hown
  refine lv_aload_n hx hb dd_SR_init_0 rfl (lv_at hl 0 rfl) ?_
  refine oi_SR_3 hx hb hts hown hml hl.1 (Nat.le_of_ble_eq_true rfl) (Nat.le_of_ble_eq_true rfl) dd_SR_init_1 ?_
  refine lv_aload_n hx hb dd_SR_init_4 rfl (lv_at hl 0 rfl) ?_
  refine nw_SR_9 (k1 := 1) (k2 := 2) hx hb hts hown hK hP hD hS hA rfl rfl (Nat.le_of_ble_eq_true rfl) (Nat.le_of_ble_eq_true rfl) dd_SR_init_5 (fun q_1 H hP hD hS => ?_)
  have hP : va_P g.1 vwCl [oc_o h 0 [.null, .null, .null, .null, .null, .null, .null], oc_o q_1 8 [.null, .int (nI 0)]] H := hP
  have hD : va_D A [oc_o h 0 [.null, .null, .null, .null, .null, .null, .null], oc_o q_1 8 [.null, .int (nI 0)]] := hD
  refine lv_dup hx hb dd_SR_init_8 rfl ?_
  refine xc_Iv (wr := [oc_o h 0 [.null, .null, .null, .null, .null, .null, .null]]) (k1 := 2) (k2 := 1202) (As := []) (rest := [.ref q_1, .ref h]) (k := 0) hF hP hD hS (ct_tape_init l g q_1) wc_TP_init wn_TP ml_SR_11 wi_TP_init rfl (by decide) [1] [0] ⟨rfl, rfl, by decide, by decide, by decide⟩ ⟨⟨Nat.le_of_ble_eq_true rfl, Nat.le_of_ble_eq_true rfl⟩, rfl, rfl, Nat.le_of_ble_eq_true rfl, Nat.le_of_ble_eq_true rfl⟩ rfl hl.1 rfl (Nat.le_of_ble_eq_true rfl) dd_SR_init_9 (fun q_2 H locs hp hP hD hS => ?_)
  have hP : va_P g.1 vwCl [oc_o h 0 [.null, .null, .null, .null, .null, .null, .null], oc_o q_1 8 [.ref q_2, .int (nI 0)], oc_i g q_2 1200 (fun _ => 0)] H := hP
  have hD : va_D A [oc_o h 0 [.null, .null, .null, .null, .null, .null, .null], oc_o q_1 8 [.ref q_2, .int (nI 0)], oc_i g q_2 1200 (fun _ => 0)] := hD
  refine pf_SR_12 hin hx hb hts hown hK hP hD hS 0 rfl rfl rfl (Nat.le_of_ble_eq_true rfl) dd_SR_init_12 (fun H locs hP hD hS => ?_)
  have hP : va_P g.1 vwCl [oc_o h 0 [.ref q_1, .null, .null, .null, .null, .null, .null], oc_o q_1 8 [.ref q_2, .int (nI 0)], oc_i g q_2 1200 (fun _ => 0)] H := hP
  have hD : va_D A [oc_o h 0 [.ref q_1, .null, .null, .null, .null, .null, .null], oc_o q_1 8 [.ref q_2, .int (nI 0)], oc_i g q_2 1200 (fun _ => 0)] := hD
  refine lv_aload_n hx hb dd_SR_init_15 rfl (lv_at hl 0 rfl) ?_
  refine nw_SR_16 (k1 := 3) (k2 := 1210) hx hb hts hown hK hP hD hS hA rfl rfl (Nat.le_of_ble_eq_true rfl) (Nat.le_of_ble_eq_true rfl) dd_SR_init_16 (fun q_4 H hP hD hS => ?_)
  have hP : va_P g.1 vwCl [oc_o h 0 [.ref q_1, .null, .null, .null, .null, .null, .null], oc_o q_1 8 [.ref q_2, .int (nI 0)], oc_i g q_2 1200 (fun _ => 0), oc_o q_4 10 [.null, .null, .null, .null, .null, .null, .int (nI 0), .int (nI 0)]] H := hP
  have hD : va_D A [oc_o h 0 [.ref q_1, .null, .null, .null, .null, .null, .null], oc_o q_1 8 [.ref q_2, .int (nI 0)], oc_i g q_2 1200 (fun _ => 0), oc_o q_4 10 [.null, .null, .null, .null, .null, .null, .int (nI 0), .int (nI 0)]] := hD
  refine lv_dup hx hb dd_SR_init_19 rfl ?_
  refine lv_aload_n hx hb dd_SR_init_20 rfl (lv_at hl 0 rfl) ?_
  refine gf_SR_12 hx hb hts hown hK hP 0 rfl rfl dd_SR_init_21 ?_
  refine xc_Iv (wr := [oc_o h 0 [.ref q_1, .null, .null, .null, .null, .null, .null], oc_o q_1 8 [.ref q_2, .int (nI 0)], oc_i g q_2 1200 (fun _ => 0)]) (k1 := 10) (k2 := 6034) (As := [.ref q_1]) (rest := [.ref q_4, .ref h]) (k := 1) hF hP hD hS (ct_wr_init l g q_4 q_1) wc_WR_init wn_WR ml_SR_18 wi_WR_init rfl (by decide) [3] [0, 1, 2] ⟨rfl, rfl, by decide, by decide, by decide⟩ ⟨⟨Nat.le_of_ble_eq_true rfl, Nat.le_of_ble_eq_true rfl⟩, rfl, rfl, Nat.le_of_ble_eq_true rfl, Nat.le_of_ble_eq_true rfl⟩ rfl hl.1 rfl (Nat.le_of_ble_eq_true rfl) dd_SR_init_24 (fun u H locs hp hP hD hS => ?_)
  obtain ⟨o_5, x_6, n_7, d_8, e_9, q_10, v_11⟩ := u
  have hP : va_P g.1 vwCl [oc_o h 0 [.ref q_1, .null, .null, .null, .null, .null, .null], oc_o q_1 8 [.ref q_2, .int (nI 0)], oc_i g q_2 1200 (fun _ => 0), oc_o q_4 10 [.ref q_1, .ref o_5, .ref x_6, .ref n_7, .ref d_8, .ref e_9, .int (nI 900), .int (nI 0)], oc_o o_5 3 [.ref q_10, .int (nI 0)], oc_o x_6 9 [.ref o_5, v_11, .int (-1)], oc_i g d_8 1201 (fun _ => 0), oc_i g e_9 1201 (fun _ => 0)] H := hP
  have hD : va_D A [oc_o h 0 [.ref q_1, .null, .null, .null, .null, .null, .null], oc_o q_1 8 [.ref q_2, .int (nI 0)], oc_i g q_2 1200 (fun _ => 0), oc_o q_4 10 [.ref q_1, .ref o_5, .ref x_6, .ref n_7, .ref d_8, .ref e_9, .int (nI 900), .int (nI 0)], oc_o o_5 3 [.ref q_10, .int (nI 0)], oc_o x_6 9 [.ref o_5, v_11, .int (-1)], oc_i g d_8 1201 (fun _ => 0), oc_i g e_9 1201 (fun _ => 0)] := hD
  refine pf_SR_21 hin hx hb hts hown hK hP hD hS 0 rfl rfl rfl (Nat.le_of_ble_eq_true rfl) dd_SR_init_27 (fun H locs hP hD hS => ?_)
  have hP : va_P g.1 vwCl [oc_o h 0 [.ref q_1, .ref q_4, .null, .null, .null, .null, .null], oc_o q_1 8 [.ref q_2, .int (nI 0)], oc_i g q_2 1200 (fun _ => 0), oc_o q_4 10 [.ref q_1, .ref o_5, .ref x_6, .ref n_7, .ref d_8, .ref e_9, .int (nI 900), .int (nI 0)], oc_o o_5 3 [.ref q_10, .int (nI 0)], oc_o x_6 9 [.ref o_5, v_11, .int (-1)], oc_i g d_8 1201 (fun _ => 0), oc_i g e_9 1201 (fun _ => 0)] H := hP
  have hD : va_D A [oc_o h 0 [.ref q_1, .ref q_4, .null, .null, .null, .null, .null], oc_o q_1 8 [.ref q_2, .int (nI 0)], oc_i g q_2 1200 (fun _ => 0), oc_o q_4 10 [.ref q_1, .ref o_5, .ref x_6, .ref n_7, .ref d_8, .ref e_9, .int (nI 900), .int (nI 0)], oc_o o_5 3 [.ref q_10, .int (nI 0)], oc_o x_6 9 [.ref o_5, v_11, .int (-1)], oc_i g d_8 1201 (fun _ => 0), oc_i g e_9 1201 (fun _ => 0)] := hD
  refine lv_aload_n hx hb dd_SR_init_30 rfl (lv_at hl 0 rfl) ?_
  refine nw_SR_25 (k1 := 11) (k2 := 6035) hx hb hts hown hK hP hD hS hA rfl rfl (Nat.le_of_ble_eq_true rfl) (Nat.le_of_ble_eq_true rfl) dd_SR_init_31 (fun q_13 H hP hD hS => ?_)
  have hP : va_P g.1 vwCl [oc_o h 0 [.ref q_1, .ref q_4, .null, .null, .null, .null, .null], oc_o q_1 8 [.ref q_2, .int (nI 0)], oc_i g q_2 1200 (fun _ => 0), oc_o q_4 10 [.ref q_1, .ref o_5, .ref x_6, .ref n_7, .ref d_8, .ref e_9, .int (nI 900), .int (nI 0)], oc_o o_5 3 [.ref q_10, .int (nI 0)], oc_o x_6 9 [.ref o_5, v_11, .int (-1)], oc_i g d_8 1201 (fun _ => 0), oc_i g e_9 1201 (fun _ => 0), oc_o q_13 2 [.null]] H := hP
  have hD : va_D A [oc_o h 0 [.ref q_1, .ref q_4, .null, .null, .null, .null, .null], oc_o q_1 8 [.ref q_2, .int (nI 0)], oc_i g q_2 1200 (fun _ => 0), oc_o q_4 10 [.ref q_1, .ref o_5, .ref x_6, .ref n_7, .ref d_8, .ref e_9, .int (nI 900), .int (nI 0)], oc_o o_5 3 [.ref q_10, .int (nI 0)], oc_o x_6 9 [.ref o_5, v_11, .int (-1)], oc_i g d_8 1201 (fun _ => 0), oc_i g e_9 1201 (fun _ => 0), oc_o q_13 2 [.null]] := hD
  refine lv_dup hx hb dd_SR_init_34 rfl ?_
  refine xc_Iv (wr := [oc_o h 0 [.ref q_1, .ref q_4, .null, .null, .null, .null, .null], oc_o q_1 8 [.ref q_2, .int (nI 0)], oc_i g q_2 1200 (fun _ => 0), oc_o q_4 10 [.ref q_1, .ref o_5, .ref x_6, .ref n_7, .ref d_8, .ref e_9, .int (nI 900), .int (nI 0)], oc_o o_5 3 [.ref q_10, .int (nI 0)], oc_o x_6 9 [.ref o_5, v_11, .int (-1)], oc_i g d_8 1201 (fun _ => 0), oc_i g e_9 1201 (fun _ => 0)]) (k1 := 12) (k2 := 6548) (As := []) (rest := [.ref q_13, .ref h]) (k := 0) hF hP hD hS (ct_ck_init l g q_13) wc_CK_init wn_CK ml_SR_27 wi_CK_init rfl (by decide) [8] [0, 1, 2, 3, 4, 5, 6, 7] ⟨rfl, rfl, by decide, by decide, by decide⟩ ⟨⟨Nat.le_of_ble_eq_true rfl, Nat.le_of_ble_eq_true rfl⟩, rfl, rfl, Nat.le_of_ble_eq_true rfl, Nat.le_of_ble_eq_true rfl⟩ rfl hl.1 rfl (Nat.le_of_ble_eq_true rfl) dd_SR_init_35 (fun q_14 H locs hp hP hD hS => ?_)
  have hP : va_P g.1 vwCl [oc_o h 0 [.ref q_1, .ref q_4, .null, .null, .null, .null, .null], oc_o q_1 8 [.ref q_2, .int (nI 0)], oc_i g q_2 1200 (fun _ => 0), oc_o q_4 10 [.ref q_1, .ref o_5, .ref x_6, .ref n_7, .ref d_8, .ref e_9, .int (nI 900), .int (nI 0)], oc_o o_5 3 [.ref q_10, .int (nI 0)], oc_o x_6 9 [.ref o_5, v_11, .int (-1)], oc_i g d_8 1201 (fun _ => 0), oc_i g e_9 1201 (fun _ => 0), oc_o q_13 2 [.ref q_14], oc_i g q_14 513 (fun _ => 0)] H := hP
  have hD : va_D A [oc_o h 0 [.ref q_1, .ref q_4, .null, .null, .null, .null, .null], oc_o q_1 8 [.ref q_2, .int (nI 0)], oc_i g q_2 1200 (fun _ => 0), oc_o q_4 10 [.ref q_1, .ref o_5, .ref x_6, .ref n_7, .ref d_8, .ref e_9, .int (nI 900), .int (nI 0)], oc_o o_5 3 [.ref q_10, .int (nI 0)], oc_o x_6 9 [.ref o_5, v_11, .int (-1)], oc_i g d_8 1201 (fun _ => 0), oc_i g e_9 1201 (fun _ => 0), oc_o q_13 2 [.ref q_14], oc_i g q_14 513 (fun _ => 0)] := hD
  refine pf_SR_28 hin hx hb hts hown hK hP hD hS 0 rfl rfl rfl (Nat.le_of_ble_eq_true rfl) dd_SR_init_38 (fun H locs hP hD hS => ?_)
  have hP : va_P g.1 vwCl [oc_o h 0 [.ref q_1, .ref q_4, .ref q_13, .null, .null, .null, .null], oc_o q_1 8 [.ref q_2, .int (nI 0)], oc_i g q_2 1200 (fun _ => 0), oc_o q_4 10 [.ref q_1, .ref o_5, .ref x_6, .ref n_7, .ref d_8, .ref e_9, .int (nI 900), .int (nI 0)], oc_o o_5 3 [.ref q_10, .int (nI 0)], oc_o x_6 9 [.ref o_5, v_11, .int (-1)], oc_i g d_8 1201 (fun _ => 0), oc_i g e_9 1201 (fun _ => 0), oc_o q_13 2 [.ref q_14], oc_i g q_14 513 (fun _ => 0)] H := hP
  have hD : va_D A [oc_o h 0 [.ref q_1, .ref q_4, .ref q_13, .null, .null, .null, .null], oc_o q_1 8 [.ref q_2, .int (nI 0)], oc_i g q_2 1200 (fun _ => 0), oc_o q_4 10 [.ref q_1, .ref o_5, .ref x_6, .ref n_7, .ref d_8, .ref e_9, .int (nI 900), .int (nI 0)], oc_o o_5 3 [.ref q_10, .int (nI 0)], oc_o x_6 9 [.ref o_5, v_11, .int (-1)], oc_i g d_8 1201 (fun _ => 0), oc_i g e_9 1201 (fun _ => 0), oc_o q_13 2 [.ref q_14], oc_i g q_14 513 (fun _ => 0)] := hD
  refine lv_aload_n hx hb dd_SR_init_41 rfl (lv_at hl 0 rfl) ?_
  refine nw_SR_32 (k1 := 13) (k2 := 6551) hx hb hts hown hK hP hD hS hA rfl rfl (Nat.le_of_ble_eq_true rfl) (Nat.le_of_ble_eq_true rfl) dd_SR_init_42 (fun q_16 H hP hD hS => ?_)
  have hP : va_P g.1 vwCl [oc_o h 0 [.ref q_1, .ref q_4, .ref q_13, .null, .null, .null, .null], oc_o q_1 8 [.ref q_2, .int (nI 0)], oc_i g q_2 1200 (fun _ => 0), oc_o q_4 10 [.ref q_1, .ref o_5, .ref x_6, .ref n_7, .ref d_8, .ref e_9, .int (nI 900), .int (nI 0)], oc_o o_5 3 [.ref q_10, .int (nI 0)], oc_o x_6 9 [.ref o_5, v_11, .int (-1)], oc_i g d_8 1201 (fun _ => 0), oc_i g e_9 1201 (fun _ => 0), oc_o q_13 2 [.ref q_14], oc_i g q_14 513 (fun _ => 0), oc_o q_16 7 [.null, .int (nI 0), .int (nI 0)]] H := hP
  have hD : va_D A [oc_o h 0 [.ref q_1, .ref q_4, .ref q_13, .null, .null, .null, .null], oc_o q_1 8 [.ref q_2, .int (nI 0)], oc_i g q_2 1200 (fun _ => 0), oc_o q_4 10 [.ref q_1, .ref o_5, .ref x_6, .ref n_7, .ref d_8, .ref e_9, .int (nI 900), .int (nI 0)], oc_o o_5 3 [.ref q_10, .int (nI 0)], oc_o x_6 9 [.ref o_5, v_11, .int (-1)], oc_i g d_8 1201 (fun _ => 0), oc_i g e_9 1201 (fun _ => 0), oc_o q_13 2 [.ref q_14], oc_i g q_14 513 (fun _ => 0), oc_o q_16 7 [.null, .int (nI 0), .int (nI 0)]] := hD
  refine lv_dup hx hb dd_SR_init_45 rfl ?_
  refine xc_Iv (wr := [oc_o h 0 [.ref q_1, .ref q_4, .ref q_13, .null, .null, .null, .null], oc_o q_1 8 [.ref q_2, .int (nI 0)], oc_i g q_2 1200 (fun _ => 0), oc_o q_4 10 [.ref q_1, .ref o_5, .ref x_6, .ref n_7, .ref d_8, .ref e_9, .int (nI 900), .int (nI 0)], oc_o o_5 3 [.ref q_10, .int (nI 0)], oc_o x_6 9 [.ref o_5, v_11, .int (-1)], oc_i g d_8 1201 (fun _ => 0), oc_i g e_9 1201 (fun _ => 0), oc_o q_13 2 [.ref q_14], oc_i g q_14 513 (fun _ => 0)]) (k1 := 14) (k2 := 7659) (As := []) (rest := [.ref q_16, .ref h]) (k := 0) hF hP hD hS (ct_sy_init l g q_16) wc_SY_init wn_SY ml_SR_34 wi_SY_init rfl (by decide) [10] [0, 1, 2, 3, 4, 5, 6, 7, 8, 9] ⟨rfl, rfl, by decide, by decide, by decide⟩ ⟨⟨Nat.le_of_ble_eq_true rfl, Nat.le_of_ble_eq_true rfl⟩, rfl, rfl, Nat.le_of_ble_eq_true rfl, Nat.le_of_ble_eq_true rfl⟩ rfl hl.1 rfl (Nat.le_of_ble_eq_true rfl) dd_SR_init_46 (fun q_17 H locs hp hP hD hS => ?_)
  have hP : va_P g.1 vwCl [oc_o h 0 [.ref q_1, .ref q_4, .ref q_13, .null, .null, .null, .null], oc_o q_1 8 [.ref q_2, .int (nI 0)], oc_i g q_2 1200 (fun _ => 0), oc_o q_4 10 [.ref q_1, .ref o_5, .ref x_6, .ref n_7, .ref d_8, .ref e_9, .int (nI 900), .int (nI 0)], oc_o o_5 3 [.ref q_10, .int (nI 0)], oc_o x_6 9 [.ref o_5, v_11, .int (-1)], oc_i g d_8 1201 (fun _ => 0), oc_i g e_9 1201 (fun _ => 0), oc_o q_13 2 [.ref q_14], oc_i g q_14 513 (fun _ => 0), oc_o q_16 7 [.ref q_17, .int (nI 0), .int (nI 0)], oc_i g q_17 1108 (fun _ => 0)] H := hP
  have hD : va_D A [oc_o h 0 [.ref q_1, .ref q_4, .ref q_13, .null, .null, .null, .null], oc_o q_1 8 [.ref q_2, .int (nI 0)], oc_i g q_2 1200 (fun _ => 0), oc_o q_4 10 [.ref q_1, .ref o_5, .ref x_6, .ref n_7, .ref d_8, .ref e_9, .int (nI 900), .int (nI 0)], oc_o o_5 3 [.ref q_10, .int (nI 0)], oc_o x_6 9 [.ref o_5, v_11, .int (-1)], oc_i g d_8 1201 (fun _ => 0), oc_i g e_9 1201 (fun _ => 0), oc_o q_13 2 [.ref q_14], oc_i g q_14 513 (fun _ => 0), oc_o q_16 7 [.ref q_17, .int (nI 0), .int (nI 0)], oc_i g q_17 1108 (fun _ => 0)] := hD
  refine pf_SR_35 hin hx hb hts hown hK hP hD hS 0 rfl rfl rfl (Nat.le_of_ble_eq_true rfl) dd_SR_init_49 (fun H locs hP hD hS => ?_)
  have hP : va_P g.1 vwCl [oc_o h 0 [.ref q_1, .ref q_4, .ref q_13, .ref q_16, .null, .null, .null], oc_o q_1 8 [.ref q_2, .int (nI 0)], oc_i g q_2 1200 (fun _ => 0), oc_o q_4 10 [.ref q_1, .ref o_5, .ref x_6, .ref n_7, .ref d_8, .ref e_9, .int (nI 900), .int (nI 0)], oc_o o_5 3 [.ref q_10, .int (nI 0)], oc_o x_6 9 [.ref o_5, v_11, .int (-1)], oc_i g d_8 1201 (fun _ => 0), oc_i g e_9 1201 (fun _ => 0), oc_o q_13 2 [.ref q_14], oc_i g q_14 513 (fun _ => 0), oc_o q_16 7 [.ref q_17, .int (nI 0), .int (nI 0)], oc_i g q_17 1108 (fun _ => 0)] H := hP
  have hD : va_D A [oc_o h 0 [.ref q_1, .ref q_4, .ref q_13, .ref q_16, .null, .null, .null], oc_o q_1 8 [.ref q_2, .int (nI 0)], oc_i g q_2 1200 (fun _ => 0), oc_o q_4 10 [.ref q_1, .ref o_5, .ref x_6, .ref n_7, .ref d_8, .ref e_9, .int (nI 900), .int (nI 0)], oc_o o_5 3 [.ref q_10, .int (nI 0)], oc_o x_6 9 [.ref o_5, v_11, .int (-1)], oc_i g d_8 1201 (fun _ => 0), oc_i g e_9 1201 (fun _ => 0), oc_o q_13 2 [.ref q_14], oc_i g q_14 513 (fun _ => 0), oc_o q_16 7 [.ref q_17, .int (nI 0), .int (nI 0)], oc_i g q_17 1108 (fun _ => 0)] := hD
  refine lv_aload_n hx hb dd_SR_init_52 rfl (lv_at hl 0 rfl) ?_
  refine lv_sipush (v := nI 928) hx hb dd_SR_init_53 (by decide) ?_
  refine xa_newI (k1 := 15) (k2 := 8587) hx hb (hts _ wa_int) hK hP hD hS hA (by decide) rfl rfl (Nat.le_of_ble_eq_true rfl) (Nat.le_of_ble_eq_true rfl) dd_SR_init_56 (fun q_19 H hP hD hS => ?_)
  have hP : va_P g.1 vwCl [oc_o h 0 [.ref q_1, .ref q_4, .ref q_13, .ref q_16, .null, .null, .null], oc_o q_1 8 [.ref q_2, .int (nI 0)], oc_i g q_2 1200 (fun _ => 0), oc_o q_4 10 [.ref q_1, .ref o_5, .ref x_6, .ref n_7, .ref d_8, .ref e_9, .int (nI 900), .int (nI 0)], oc_o o_5 3 [.ref q_10, .int (nI 0)], oc_o x_6 9 [.ref o_5, v_11, .int (-1)], oc_i g d_8 1201 (fun _ => 0), oc_i g e_9 1201 (fun _ => 0), oc_o q_13 2 [.ref q_14], oc_i g q_14 513 (fun _ => 0), oc_o q_16 7 [.ref q_17, .int (nI 0), .int (nI 0)], oc_i g q_17 1108 (fun _ => 0), oc_i g q_19 928 (fun _ => 0)] H := hP
  have hD : va_D A [oc_o h 0 [.ref q_1, .ref q_4, .ref q_13, .ref q_16, .null, .null, .null], oc_o q_1 8 [.ref q_2, .int (nI 0)], oc_i g q_2 1200 (fun _ => 0), oc_o q_4 10 [.ref q_1, .ref o_5, .ref x_6, .ref n_7, .ref d_8, .ref e_9, .int (nI 900), .int (nI 0)], oc_o o_5 3 [.ref q_10, .int (nI 0)], oc_o x_6 9 [.ref o_5, v_11, .int (-1)], oc_i g d_8 1201 (fun _ => 0), oc_i g e_9 1201 (fun _ => 0), oc_o q_13 2 [.ref q_14], oc_i g q_14 513 (fun _ => 0), oc_o q_16 7 [.ref q_17, .int (nI 0), .int (nI 0)], oc_i g q_17 1108 (fun _ => 0), oc_i g q_19 928 (fun _ => 0)] := hD
  refine pf_SR_39 hin hx hb hts hown hK hP hD hS 0 rfl rfl rfl (Nat.le_of_ble_eq_true rfl) dd_SR_init_58 (fun H locs hP hD hS => ?_)
  have hP : va_P g.1 vwCl [oc_o h 0 [.ref q_1, .ref q_4, .ref q_13, .ref q_16, .null, .ref q_19, .null], oc_o q_1 8 [.ref q_2, .int (nI 0)], oc_i g q_2 1200 (fun _ => 0), oc_o q_4 10 [.ref q_1, .ref o_5, .ref x_6, .ref n_7, .ref d_8, .ref e_9, .int (nI 900), .int (nI 0)], oc_o o_5 3 [.ref q_10, .int (nI 0)], oc_o x_6 9 [.ref o_5, v_11, .int (-1)], oc_i g d_8 1201 (fun _ => 0), oc_i g e_9 1201 (fun _ => 0), oc_o q_13 2 [.ref q_14], oc_i g q_14 513 (fun _ => 0), oc_o q_16 7 [.ref q_17, .int (nI 0), .int (nI 0)], oc_i g q_17 1108 (fun _ => 0), oc_i g q_19 928 (fun _ => 0)] H := hP
  have hD : va_D A [oc_o h 0 [.ref q_1, .ref q_4, .ref q_13, .ref q_16, .null, .ref q_19, .null], oc_o q_1 8 [.ref q_2, .int (nI 0)], oc_i g q_2 1200 (fun _ => 0), oc_o q_4 10 [.ref q_1, .ref o_5, .ref x_6, .ref n_7, .ref d_8, .ref e_9, .int (nI 900), .int (nI 0)], oc_o o_5 3 [.ref q_10, .int (nI 0)], oc_o x_6 9 [.ref o_5, v_11, .int (-1)], oc_i g d_8 1201 (fun _ => 0), oc_i g e_9 1201 (fun _ => 0), oc_o q_13 2 [.ref q_14], oc_i g q_14 513 (fun _ => 0), oc_o q_16 7 [.ref q_17, .int (nI 0), .int (nI 0)], oc_i g q_17 1108 (fun _ => 0), oc_i g q_19 928 (fun _ => 0)] := hD
  refine lv_aload_n hx hb dd_SR_init_61 rfl (lv_at hl 0 rfl) ?_
  refine nw_SR_43 (k1 := 16) (k2 := 8596) hx hb hts hown hK hP hD hS hA rfl rfl (Nat.le_of_ble_eq_true rfl) (Nat.le_of_ble_eq_true rfl) dd_SR_init_62 (fun q_20 H hP hD hS => ?_)
  have hP : va_P g.1 vwCl [oc_o h 0 [.ref q_1, .ref q_4, .ref q_13, .ref q_16, .null, .ref q_19, .null], oc_o q_1 8 [.ref q_2, .int (nI 0)], oc_i g q_2 1200 (fun _ => 0), oc_o q_4 10 [.ref q_1, .ref o_5, .ref x_6, .ref n_7, .ref d_8, .ref e_9, .int (nI 900), .int (nI 0)], oc_o o_5 3 [.ref q_10, .int (nI 0)], oc_o x_6 9 [.ref o_5, v_11, .int (-1)], oc_i g d_8 1201 (fun _ => 0), oc_i g e_9 1201 (fun _ => 0), oc_o q_13 2 [.ref q_14], oc_i g q_14 513 (fun _ => 0), oc_o q_16 7 [.ref q_17, .int (nI 0), .int (nI 0)], oc_i g q_17 1108 (fun _ => 0), oc_i g q_19 928 (fun _ => 0), oc_o q_20 6 [.null, .null, .null, .null, .null, .null, .int (nI 0), .int (nI 0), .int (nI 0)]] H := hP
  have hD : va_D A [oc_o h 0 [.ref q_1, .ref q_4, .ref q_13, .ref q_16, .null, .ref q_19, .null], oc_o q_1 8 [.ref q_2, .int (nI 0)], oc_i g q_2 1200 (fun _ => 0), oc_o q_4 10 [.ref q_1, .ref o_5, .ref x_6, .ref n_7, .ref d_8, .ref e_9, .int (nI 900), .int (nI 0)], oc_o o_5 3 [.ref q_10, .int (nI 0)], oc_o x_6 9 [.ref o_5, v_11, .int (-1)], oc_i g d_8 1201 (fun _ => 0), oc_i g e_9 1201 (fun _ => 0), oc_o q_13 2 [.ref q_14], oc_i g q_14 513 (fun _ => 0), oc_o q_16 7 [.ref q_17, .int (nI 0), .int (nI 0)], oc_i g q_17 1108 (fun _ => 0), oc_i g q_19 928 (fun _ => 0), oc_o q_20 6 [.null, .null, .null, .null, .null, .null, .int (nI 0), .int (nI 0), .int (nI 0)]] := hD
  refine lv_dup hx hb dd_SR_init_65 rfl ?_
  refine lv_aload_n hx hb dd_SR_init_66 rfl (lv_at hl 0 rfl) ?_
  refine gf_SR_39 hx hb hts hown hK hP 0 rfl rfl dd_SR_init_67 ?_
  refine xc_Iv (wr := [oc_o h 0 [.ref q_1, .ref q_4, .ref q_13, .ref q_16, .null, .ref q_19, .null], oc_o q_1 8 [.ref q_2, .int (nI 0)], oc_i g q_2 1200 (fun _ => 0), oc_o q_4 10 [.ref q_1, .ref o_5, .ref x_6, .ref n_7, .ref d_8, .ref e_9, .int (nI 900), .int (nI 0)], oc_o o_5 3 [.ref q_10, .int (nI 0)], oc_o x_6 9 [.ref o_5, v_11, .int (-1)], oc_i g d_8 1201 (fun _ => 0), oc_i g e_9 1201 (fun _ => 0), oc_o q_13 2 [.ref q_14], oc_i g q_14 513 (fun _ => 0), oc_o q_16 7 [.ref q_17, .int (nI 0), .int (nI 0)], oc_i g q_17 1108 (fun _ => 0), oc_i g q_19 928 (fun _ => 0)]) (k1 := 29) (k2 := 13445) (As := [.ref q_19]) (rest := [.ref q_20, .ref h]) (k := 1) hF hP hD hS (ct_sv_init l g q_20 q_19) wc_SV_init wn_SV ml_SR_45 wi_SV_init rfl (by decide) [13] [0, 1, 2, 3, 4, 5, 6, 7, 8, 9, 10, 11, 12] ⟨rfl, rfl, by decide, by decide, by decide⟩ ⟨⟨Nat.le_of_ble_eq_true rfl, Nat.le_of_ble_eq_true rfl⟩, rfl, rfl, Nat.le_of_ble_eq_true rfl, Nat.le_of_ble_eq_true rfl⟩ rfl hl.1 rfl (Nat.le_of_ble_eq_true rfl) dd_SR_init_70 (fun u H locs hp hP hD hS => ?_)
  have hP : va_P g.1 vwCl [oc_o h 0 [.ref q_1, .ref q_4, .ref q_13, .ref q_16, .null, .ref q_19, .null], oc_o q_1 8 [.ref q_2, .int (nI 0)], oc_i g q_2 1200 (fun _ => 0), oc_o q_4 10 [.ref q_1, .ref o_5, .ref x_6, .ref n_7, .ref d_8, .ref e_9, .int (nI 900), .int (nI 0)], oc_o o_5 3 [.ref q_10, .int (nI 0)], oc_o x_6 9 [.ref o_5, v_11, .int (-1)], oc_i g d_8 1201 (fun _ => 0), oc_i g e_9 1201 (fun _ => 0), oc_o q_13 2 [.ref q_14], oc_i g q_14 513 (fun _ => 0), oc_o q_16 7 [.ref q_17, .int (nI 0), .int (nI 0)], oc_i g q_17 1108 (fun _ => 0), oc_i g q_19 928 (fun _ => 0)] H := hP
  have hD : va_D A [oc_o h 0 [.ref q_1, .ref q_4, .ref q_13, .ref q_16, .null, .ref q_19, .null], oc_o q_1 8 [.ref q_2, .int (nI 0)], oc_i g q_2 1200 (fun _ => 0), oc_o q_4 10 [.ref q_1, .ref o_5, .ref x_6, .ref n_7, .ref d_8, .ref e_9, .int (nI 900), .int (nI 0)], oc_o o_5 3 [.ref q_10, .int (nI 0)], oc_o x_6 9 [.ref o_5, v_11, .int (-1)], oc_i g d_8 1201 (fun _ => 0), oc_i g e_9 1201 (fun _ => 0), oc_o q_13 2 [.ref q_14], oc_i g q_14 513 (fun _ => 0), oc_o q_16 7 [.ref q_17, .int (nI 0), .int (nI 0)], oc_i g q_17 1108 (fun _ => 0), oc_i g q_19 928 (fun _ => 0)] := hD
  refine pf_SR_48 hin hx hb hts hown hK hP hD hS 0 rfl rfl rfl (Nat.le_of_ble_eq_true rfl) dd_SR_init_73 (fun H locs hP hD hS => ?_)
  have hP : va_P g.1 vwCl [oc_o h 0 [.ref q_1, .ref q_4, .ref q_13, .ref q_16, .ref q_20, .ref q_19, .null], oc_o q_1 8 [.ref q_2, .int (nI 0)], oc_i g q_2 1200 (fun _ => 0), oc_o q_4 10 [.ref q_1, .ref o_5, .ref x_6, .ref n_7, .ref d_8, .ref e_9, .int (nI 900), .int (nI 0)], oc_o o_5 3 [.ref q_10, .int (nI 0)], oc_o x_6 9 [.ref o_5, v_11, .int (-1)], oc_i g d_8 1201 (fun _ => 0), oc_i g e_9 1201 (fun _ => 0), oc_o q_13 2 [.ref q_14], oc_i g q_14 513 (fun _ => 0), oc_o q_16 7 [.ref q_17, .int (nI 0), .int (nI 0)], oc_i g q_17 1108 (fun _ => 0), oc_i g q_19 928 (fun _ => 0)] H := hP
  have hD : va_D A [oc_o h 0 [.ref q_1, .ref q_4, .ref q_13, .ref q_16, .ref q_20, .ref q_19, .null], oc_o q_1 8 [.ref q_2, .int (nI 0)], oc_i g q_2 1200 (fun _ => 0), oc_o q_4 10 [.ref q_1, .ref o_5, .ref x_6, .ref n_7, .ref d_8, .ref e_9, .int (nI 900), .int (nI 0)], oc_o o_5 3 [.ref q_10, .int (nI 0)], oc_o x_6 9 [.ref o_5, v_11, .int (-1)], oc_i g d_8 1201 (fun _ => 0), oc_i g e_9 1201 (fun _ => 0), oc_o q_13 2 [.ref q_14], oc_i g q_14 513 (fun _ => 0), oc_o q_16 7 [.ref q_17, .int (nI 0), .int (nI 0)], oc_i g q_17 1108 (fun _ => 0), oc_i g q_19 928 (fun _ => 0)] := hD
  refine lv_aload_n hx hb dd_SR_init_76 rfl (lv_at hl 0 rfl) ?_
  refine lv_iconst (v := nI 4) hx hb dd_SR_init_77 (by decide) ?_
  refine xa_newI (k1 := 30) (k2 := 13449) hx hb (hts _ wa_int) hK hP hD hS hA (by decide) rfl rfl (Nat.le_of_ble_eq_true rfl) (Nat.le_of_ble_eq_true rfl) dd_SR_init_78 (fun q_22 H hP hD hS => ?_)
  have hP : va_P g.1 vwCl [oc_o h 0 [.ref q_1, .ref q_4, .ref q_13, .ref q_16, .ref q_20, .ref q_19, .null], oc_o q_1 8 [.ref q_2, .int (nI 0)], oc_i g q_2 1200 (fun _ => 0), oc_o q_4 10 [.ref q_1, .ref o_5, .ref x_6, .ref n_7, .ref d_8, .ref e_9, .int (nI 900), .int (nI 0)], oc_o o_5 3 [.ref q_10, .int (nI 0)], oc_o x_6 9 [.ref o_5, v_11, .int (-1)], oc_i g d_8 1201 (fun _ => 0), oc_i g e_9 1201 (fun _ => 0), oc_o q_13 2 [.ref q_14], oc_i g q_14 513 (fun _ => 0), oc_o q_16 7 [.ref q_17, .int (nI 0), .int (nI 0)], oc_i g q_17 1108 (fun _ => 0), oc_i g q_19 928 (fun _ => 0), oc_i g q_22 4 (fun _ => 0)] H := hP
  have hD : va_D A [oc_o h 0 [.ref q_1, .ref q_4, .ref q_13, .ref q_16, .ref q_20, .ref q_19, .null], oc_o q_1 8 [.ref q_2, .int (nI 0)], oc_i g q_2 1200 (fun _ => 0), oc_o q_4 10 [.ref q_1, .ref o_5, .ref x_6, .ref n_7, .ref d_8, .ref e_9, .int (nI 900), .int (nI 0)], oc_o o_5 3 [.ref q_10, .int (nI 0)], oc_o x_6 9 [.ref o_5, v_11, .int (-1)], oc_i g d_8 1201 (fun _ => 0), oc_i g e_9 1201 (fun _ => 0), oc_o q_13 2 [.ref q_14], oc_i g q_14 513 (fun _ => 0), oc_o q_16 7 [.ref q_17, .int (nI 0), .int (nI 0)], oc_i g q_17 1108 (fun _ => 0), oc_i g q_19 928 (fun _ => 0), oc_i g q_22 4 (fun _ => 0)] := hD
  refine pf_SR_52 hin hx hb hts hown hK hP hD hS 0 rfl rfl rfl (Nat.le_of_ble_eq_true rfl) dd_SR_init_80 (fun H locs hP hD hS => ?_)
  have hP : va_P g.1 vwCl [oc_o h 0 [.ref q_1, .ref q_4, .ref q_13, .ref q_16, .ref q_20, .ref q_19, .ref q_22], oc_o q_1 8 [.ref q_2, .int (nI 0)], oc_i g q_2 1200 (fun _ => 0), oc_o q_4 10 [.ref q_1, .ref o_5, .ref x_6, .ref n_7, .ref d_8, .ref e_9, .int (nI 900), .int (nI 0)], oc_o o_5 3 [.ref q_10, .int (nI 0)], oc_o x_6 9 [.ref o_5, v_11, .int (-1)], oc_i g d_8 1201 (fun _ => 0), oc_i g e_9 1201 (fun _ => 0), oc_o q_13 2 [.ref q_14], oc_i g q_14 513 (fun _ => 0), oc_o q_16 7 [.ref q_17, .int (nI 0), .int (nI 0)], oc_i g q_17 1108 (fun _ => 0), oc_i g q_19 928 (fun _ => 0), oc_i g q_22 4 (fun _ => 0)] H := hP
  have hD : va_D A [oc_o h 0 [.ref q_1, .ref q_4, .ref q_13, .ref q_16, .ref q_20, .ref q_19, .ref q_22], oc_o q_1 8 [.ref q_2, .int (nI 0)], oc_i g q_2 1200 (fun _ => 0), oc_o q_4 10 [.ref q_1, .ref o_5, .ref x_6, .ref n_7, .ref d_8, .ref e_9, .int (nI 900), .int (nI 0)], oc_o o_5 3 [.ref q_10, .int (nI 0)], oc_o x_6 9 [.ref o_5, v_11, .int (-1)], oc_i g d_8 1201 (fun _ => 0), oc_i g e_9 1201 (fun _ => 0), oc_o q_13 2 [.ref q_14], oc_i g q_14 513 (fun _ => 0), oc_o q_16 7 [.ref q_17, .int (nI 0), .int (nI 0)], oc_i g q_17 1108 (fun _ => 0), oc_i g q_19 928 (fun _ => 0), oc_i g q_22 4 (fun _ => 0)] := hD
  exact xr_v hx hb hr hlk hQ hP hD hS (q_1, q_4, q_13, q_16, q_20, q_19, q_22, q_2, o_5, x_6, n_7, d_8, e_9, q_10, q_14, q_17, v_11) trivial [0, 1, 2, 3, 4, 5, 6, 7, 8, 9, 10, 11, 12, 13] (by decide) rfl (Nat.le_of_ble_eq_true rfl) (Nat.le_of_ble_eq_true rfl) dd_SR_init_83

set_option maxHeartbeats 4000000 in
set_option maxRecDepth 100000 in
theorem cf_feed (l : Launch) (g : xg_G) (h : Nat) (tp : Nat) (wt : Nat) (ck : Nat) (sy : Nat) (sv : Nat) (rw : Nat) (lt : Nat) (tb : Nat) (o : Nat) (x : Nat) (n : Nat) (d : Nat) (e9 : Nat) (x1 : Int32) (x2 : Int32) (x3 : Int32) (x4 : Int32) (x5 : Int32) : kc_I l yy_SR_feed cd_SR_feed 6 .int { frames := 2, cells := 0, slots := 0, locals := 43 } g [.ref h, .int x1, .int x2, .int x3, .int x4, .int x5] [oc_o h 0 [.ref tp, .ref wt, .ref ck, .ref sy, .ref sv, .ref rw, .ref lt], oc_o tp 8 [.ref tb, .int (nI 0)], oc_i g tb 1200 (fun _ => 0), oc_o wt 10 [.ref tp, .ref o, .ref x, .ref n, .ref d, .ref e9, .int (nI 900), .int (nI 0)]] (S := Unit) (fun r0 _ => r0 = nI 20) (fun _ => []) := by
  refine kc_Iof (by decide) (Nat.le_of_ble_eq_true rfl) ?_
  intro p e s m args below meth c A ls Q H locs hQ hB hP hS
  obtain ⟨hx, hb, hr, hlk, hin, hml, hown, hts, hA, hK, hD, hE, hl⟩ := hB
  have hF : xf_F g p m c cd_SR_feed 6 s args "StackedRows" A := ⟨⟨hx, hb, hml, hown, hts⟩, hE, hK, hA⟩
  have hl : lv_has ls 6 [(0, .ref h), (1, .int x1), (2, .int x2), (3, .int x3), (4, .int x4), (5, .int x5)] := hl
  have hown : s.vm.findClass "StackedRows" = some m.cls := hown
  refine lv_aload_n hx hb dd_SR_feed_0 rfl (lv_at hl 0 rfl) ?_
  refine gf_SR_12 hx hb hts hown hK hP 0 rfl rfl dd_SR_feed_1 ?_
  refine xc_Vi (wr := [oc_o h 0 [.ref tp, .ref wt, .ref ck, .ref sy, .ref sv, .ref rw, .ref lt], oc_i g tb 1200 (fun _ => 0), oc_o wt 10 [.ref tp, .ref o, .ref x, .ref n, .ref d, .ref e9, .int (nI 900), .int (nI 0)]]) (k1 := 0) (k2 := 0) (As := []) (rest := []) (k := 0) hF hP hD hS (ct_tape_size l g tp tb 0) (xt_V ml_SR_55 wi_TP_size wx_TP_size wn_TP wc_TP_size) (by decide) 1 rfl rfl rfl [1] [0, 2, 3] ⟨rfl, rfl, by decide, by decide, by decide⟩ ⟨⟨Nat.le_of_ble_eq_true rfl, Nat.le_of_ble_eq_true rfl⟩, rfl, rfl, Nat.le_of_ble_eq_true rfl, Nat.le_of_ble_eq_true rfl⟩ rfl hl.1 rfl (Nat.le_of_ble_eq_true rfl) dd_SR_feed_4 (fun r_1 u H locs hp hP hD hS => ?_)
  obtain rfl := hp
  have hP : va_P g.1 vwCl [oc_o h 0 [.ref tp, .ref wt, .ref ck, .ref sy, .ref sv, .ref rw, .ref lt], oc_i g tb 1200 (fun _ => 0), oc_o wt 10 [.ref tp, .ref o, .ref x, .ref n, .ref d, .ref e9, .int (nI 900), .int (nI 0)], oc_o tp 8 [.ref tb, .int (nI 0)]] H := hP
  have hD : va_D A [oc_o h 0 [.ref tp, .ref wt, .ref ck, .ref sy, .ref sv, .ref rw, .ref lt], oc_i g tb 1200 (fun _ => 0), oc_o wt 10 [.ref tp, .ref o, .ref x, .ref n, .ref d, .ref e9, .int (nI 900), .int (nI 0)], oc_o tp 8 [.ref tb, .int (nI 0)]] := hD
  refine lv_bipush (v := nI 20) hx hb dd_SR_feed_7 (by decide) ?_
  refine xi_iadd hx hb dd_SR_feed_9 ?_
  refine lv_sipush (v := nI 1200) hx hb dd_SR_feed_10 (by decide) ?_
  refine lv_icmp_le (tgt := 24) hx hb dd_SR_feed_13 rfl (fun _ => ?_) (fun h_2 => absurd (by decide) h_2)
  refine lv_aload_n hx hb dd_SR_feed_24 rfl (lv_at hl 0 rfl) ?_
  refine gf_SR_12 hx hb hts hown hK hP 0 rfl rfl dd_SR_feed_25 ?_
  refine lv_iload_n hx hb dd_SR_feed_28 rfl (lv_at hl 1 rfl) ?_
  refine xc_Vv (wr := [oc_o h 0 [.ref tp, .ref wt, .ref ck, .ref sy, .ref sv, .ref rw, .ref lt], oc_o wt 10 [.ref tp, .ref o, .ref x, .ref n, .ref d, .ref e9, .int (nI 900), .int (nI 0)]]) (k1 := 0) (k2 := 0) (As := [.int x1]) (rest := []) (k := 1) hF hP hD hS (ct_tape_four l g tp tb 0 (fun _ => 0) x1 (by omega)) (xt_V ml_SR_62 wi_TP_addFour wx_TP_addFour wn_TP wc_TP_addFour) (by decide) 3 rfl rfl rfl [3, 1] [0, 2] ⟨rfl, rfl, by decide, by decide, by decide⟩ ⟨⟨Nat.le_of_ble_eq_true rfl, Nat.le_of_ble_eq_true rfl⟩, rfl, rfl, Nat.le_of_ble_eq_true rfl, Nat.le_of_ble_eq_true rfl⟩ rfl hl.1 rfl (Nat.le_of_ble_eq_true rfl) dd_SR_feed_29 (fun f_3 H locs hp hP hD hS => ?_)
  have hP : va_P g.1 vwCl [oc_o h 0 [.ref tp, .ref wt, .ref ck, .ref sy, .ref sv, .ref rw, .ref lt], oc_o wt 10 [.ref tp, .ref o, .ref x, .ref n, .ref d, .ref e9, .int (nI 900), .int (nI 0)], oc_o tp 8 [.ref tb, .int (nI (0 + 4))], oc_i g tb 1200 f_3] H := hP
  have hD : va_D A [oc_o h 0 [.ref tp, .ref wt, .ref ck, .ref sy, .ref sv, .ref rw, .ref lt], oc_o wt 10 [.ref tp, .ref o, .ref x, .ref n, .ref d, .ref e9, .int (nI 900), .int (nI 0)], oc_o tp 8 [.ref tb, .int (nI (0 + 4))], oc_i g tb 1200 f_3] := hD
  refine lv_aload_n hx hb dd_SR_feed_32 rfl (lv_at hl 0 rfl) ?_
  refine gf_SR_12 hx hb hts hown hK hP 0 rfl rfl dd_SR_feed_33 ?_
  refine lv_iload_n hx hb dd_SR_feed_36 rfl (lv_at hl 2 rfl) ?_
  refine xc_Vv (wr := [oc_o h 0 [.ref tp, .ref wt, .ref ck, .ref sy, .ref sv, .ref rw, .ref lt], oc_o wt 10 [.ref tp, .ref o, .ref x, .ref n, .ref d, .ref e9, .int (nI 900), .int (nI 0)]]) (k1 := 0) (k2 := 0) (As := [.int x2]) (rest := []) (k := 1) hF hP hD hS (ct_tape_four l g tp tb (0 + 4) f_3 x2 (by omega)) (xt_V ml_SR_62 wi_TP_addFour wx_TP_addFour wn_TP wc_TP_addFour) (by decide) 2 rfl rfl rfl [2, 3] [0, 1] ⟨rfl, rfl, by decide, by decide, by decide⟩ ⟨⟨Nat.le_of_ble_eq_true rfl, Nat.le_of_ble_eq_true rfl⟩, rfl, rfl, Nat.le_of_ble_eq_true rfl, Nat.le_of_ble_eq_true rfl⟩ rfl hl.1 rfl (Nat.le_of_ble_eq_true rfl) dd_SR_feed_37 (fun f_5 H locs hp hP hD hS => ?_)
  have hP : va_P g.1 vwCl [oc_o h 0 [.ref tp, .ref wt, .ref ck, .ref sy, .ref sv, .ref rw, .ref lt], oc_o wt 10 [.ref tp, .ref o, .ref x, .ref n, .ref d, .ref e9, .int (nI 900), .int (nI 0)], oc_o tp 8 [.ref tb, .int (nI ((0 + 4) + 4))], oc_i g tb 1200 f_5] H := hP
  have hD : va_D A [oc_o h 0 [.ref tp, .ref wt, .ref ck, .ref sy, .ref sv, .ref rw, .ref lt], oc_o wt 10 [.ref tp, .ref o, .ref x, .ref n, .ref d, .ref e9, .int (nI 900), .int (nI 0)], oc_o tp 8 [.ref tb, .int (nI ((0 + 4) + 4))], oc_i g tb 1200 f_5] := hD
  refine lv_aload_n hx hb dd_SR_feed_40 rfl (lv_at hl 0 rfl) ?_
  refine gf_SR_12 hx hb hts hown hK hP 0 rfl rfl dd_SR_feed_41 ?_
  refine lv_iload_n hx hb dd_SR_feed_44 rfl (lv_at hl 3 rfl) ?_
  refine xc_Vv (wr := [oc_o h 0 [.ref tp, .ref wt, .ref ck, .ref sy, .ref sv, .ref rw, .ref lt], oc_o wt 10 [.ref tp, .ref o, .ref x, .ref n, .ref d, .ref e9, .int (nI 900), .int (nI 0)]]) (k1 := 0) (k2 := 0) (As := [.int x3]) (rest := []) (k := 1) hF hP hD hS (ct_tape_four l g tp tb ((0 + 4) + 4) f_5 x3 (by omega)) (xt_V ml_SR_62 wi_TP_addFour wx_TP_addFour wn_TP wc_TP_addFour) (by decide) 2 rfl rfl rfl [2, 3] [0, 1] ⟨rfl, rfl, by decide, by decide, by decide⟩ ⟨⟨Nat.le_of_ble_eq_true rfl, Nat.le_of_ble_eq_true rfl⟩, rfl, rfl, Nat.le_of_ble_eq_true rfl, Nat.le_of_ble_eq_true rfl⟩ rfl hl.1 rfl (Nat.le_of_ble_eq_true rfl) dd_SR_feed_45 (fun f_7 H locs hp hP hD hS => ?_)
  have hP : va_P g.1 vwCl [oc_o h 0 [.ref tp, .ref wt, .ref ck, .ref sy, .ref sv, .ref rw, .ref lt], oc_o wt 10 [.ref tp, .ref o, .ref x, .ref n, .ref d, .ref e9, .int (nI 900), .int (nI 0)], oc_o tp 8 [.ref tb, .int (nI (((0 + 4) + 4) + 4))], oc_i g tb 1200 f_7] H := hP
  have hD : va_D A [oc_o h 0 [.ref tp, .ref wt, .ref ck, .ref sy, .ref sv, .ref rw, .ref lt], oc_o wt 10 [.ref tp, .ref o, .ref x, .ref n, .ref d, .ref e9, .int (nI 900), .int (nI 0)], oc_o tp 8 [.ref tb, .int (nI (((0 + 4) + 4) + 4))], oc_i g tb 1200 f_7] := hD
  refine lv_aload_n hx hb dd_SR_feed_48 rfl (lv_at hl 0 rfl) ?_
  refine gf_SR_12 hx hb hts hown hK hP 0 rfl rfl dd_SR_feed_49 ?_
  refine lv_iload hx hb dd_SR_feed_52 (lv_at hl 4 rfl) ?_
  refine xc_Vv (wr := [oc_o h 0 [.ref tp, .ref wt, .ref ck, .ref sy, .ref sv, .ref rw, .ref lt], oc_o wt 10 [.ref tp, .ref o, .ref x, .ref n, .ref d, .ref e9, .int (nI 900), .int (nI 0)]]) (k1 := 0) (k2 := 0) (As := [.int x4]) (rest := []) (k := 1) hF hP hD hS (ct_tape_four l g tp tb (((0 + 4) + 4) + 4) f_7 x4 (by omega)) (xt_V ml_SR_62 wi_TP_addFour wx_TP_addFour wn_TP wc_TP_addFour) (by decide) 2 rfl rfl rfl [2, 3] [0, 1] ⟨rfl, rfl, by decide, by decide, by decide⟩ ⟨⟨Nat.le_of_ble_eq_true rfl, Nat.le_of_ble_eq_true rfl⟩, rfl, rfl, Nat.le_of_ble_eq_true rfl, Nat.le_of_ble_eq_true rfl⟩ rfl hl.1 rfl (Nat.le_of_ble_eq_true rfl) dd_SR_feed_54 (fun f_9 H locs hp hP hD hS => ?_)
  have hP : va_P g.1 vwCl [oc_o h 0 [.ref tp, .ref wt, .ref ck, .ref sy, .ref sv, .ref rw, .ref lt], oc_o wt 10 [.ref tp, .ref o, .ref x, .ref n, .ref d, .ref e9, .int (nI 900), .int (nI 0)], oc_o tp 8 [.ref tb, .int (nI ((((0 + 4) + 4) + 4) + 4))], oc_i g tb 1200 f_9] H := hP
  have hD : va_D A [oc_o h 0 [.ref tp, .ref wt, .ref ck, .ref sy, .ref sv, .ref rw, .ref lt], oc_o wt 10 [.ref tp, .ref o, .ref x, .ref n, .ref d, .ref e9, .int (nI 900), .int (nI 0)], oc_o tp 8 [.ref tb, .int (nI ((((0 + 4) + 4) + 4) + 4))], oc_i g tb 1200 f_9] := hD
  refine lv_aload_n hx hb dd_SR_feed_57 rfl (lv_at hl 0 rfl) ?_
  refine gf_SR_12 hx hb hts hown hK hP 0 rfl rfl dd_SR_feed_58 ?_
  refine lv_iload hx hb dd_SR_feed_61 (lv_at hl 5 rfl) ?_
  refine xc_Vv (wr := [oc_o h 0 [.ref tp, .ref wt, .ref ck, .ref sy, .ref sv, .ref rw, .ref lt], oc_o wt 10 [.ref tp, .ref o, .ref x, .ref n, .ref d, .ref e9, .int (nI 900), .int (nI 0)]]) (k1 := 0) (k2 := 0) (As := [.int x5]) (rest := []) (k := 1) hF hP hD hS (ct_tape_four l g tp tb ((((0 + 4) + 4) + 4) + 4) f_9 x5 (by omega)) (xt_V ml_SR_62 wi_TP_addFour wx_TP_addFour wn_TP wc_TP_addFour) (by decide) 2 rfl rfl rfl [2, 3] [0, 1] ⟨rfl, rfl, by decide, by decide, by decide⟩ ⟨⟨Nat.le_of_ble_eq_true rfl, Nat.le_of_ble_eq_true rfl⟩, rfl, rfl, Nat.le_of_ble_eq_true rfl, Nat.le_of_ble_eq_true rfl⟩ rfl hl.1 rfl (Nat.le_of_ble_eq_true rfl) dd_SR_feed_63 (fun f_11 H locs hp hP hD hS => ?_)
  have hP : va_P g.1 vwCl [oc_o h 0 [.ref tp, .ref wt, .ref ck, .ref sy, .ref sv, .ref rw, .ref lt], oc_o wt 10 [.ref tp, .ref o, .ref x, .ref n, .ref d, .ref e9, .int (nI 900), .int (nI 0)], oc_o tp 8 [.ref tb, .int (nI (((((0 + 4) + 4) + 4) + 4) + 4))], oc_i g tb 1200 f_11] H := hP
  have hD : va_D A [oc_o h 0 [.ref tp, .ref wt, .ref ck, .ref sy, .ref sv, .ref rw, .ref lt], oc_o wt 10 [.ref tp, .ref o, .ref x, .ref n, .ref d, .ref e9, .int (nI 900), .int (nI 0)], oc_o tp 8 [.ref tb, .int (nI (((((0 + 4) + 4) + 4) + 4) + 4))], oc_i g tb 1200 f_11] := hD
  refine lv_aload_n hx hb dd_SR_feed_66 rfl (lv_at hl 0 rfl) ?_
  refine gf_SR_21 hx hb hts hown hK hP 0 rfl rfl dd_SR_feed_67 ?_
  refine xc_Vv (wr := [oc_o h 0 [.ref tp, .ref wt, .ref ck, .ref sy, .ref sv, .ref rw, .ref lt], oc_o tp 8 [.ref tb, .int (nI (((((0 + 4) + 4) + 4) + 4) + 4))], oc_i g tb 1200 f_11]) (k1 := 0) (k2 := 0) (As := []) (rest := []) (k := 0) hF hP hD hS (ct_wr_forget l g wt tp o x n d e9) (xt_V ml_SR_66 wi_WR_forget wx_WR_forget wn_WR wc_WR_forget) (by decide) 1 rfl rfl rfl [1] [0, 2, 3] ⟨rfl, rfl, by decide, by decide, by decide⟩ ⟨⟨Nat.le_of_ble_eq_true rfl, Nat.le_of_ble_eq_true rfl⟩, rfl, rfl, Nat.le_of_ble_eq_true rfl, Nat.le_of_ble_eq_true rfl⟩ rfl hl.1 rfl (Nat.le_of_ble_eq_true rfl) dd_SR_feed_70 (fun u H locs hp hP hD hS => ?_)
  have hP : va_P g.1 vwCl [oc_o h 0 [.ref tp, .ref wt, .ref ck, .ref sy, .ref sv, .ref rw, .ref lt], oc_o tp 8 [.ref tb, .int (nI (((((0 + 4) + 4) + 4) + 4) + 4))], oc_i g tb 1200 f_11, oc_o wt 10 [.ref tp, .ref o, .ref x, .ref n, .ref d, .ref e9, .int (nI 900), .int (nI 0)]] H := hP
  have hD : va_D A [oc_o h 0 [.ref tp, .ref wt, .ref ck, .ref sy, .ref sv, .ref rw, .ref lt], oc_o tp 8 [.ref tb, .int (nI (((((0 + 4) + 4) + 4) + 4) + 4))], oc_i g tb 1200 f_11, oc_o wt 10 [.ref tp, .ref o, .ref x, .ref n, .ref d, .ref e9, .int (nI 900), .int (nI 0)]] := hD
  refine lv_aload_n hx hb dd_SR_feed_73 rfl (lv_at hl 0 rfl) ?_
  refine gf_SR_12 hx hb hts hown hK hP 0 rfl rfl dd_SR_feed_74 ?_
  refine xc_Vi (wr := [oc_o h 0 [.ref tp, .ref wt, .ref ck, .ref sy, .ref sv, .ref rw, .ref lt], oc_i g tb 1200 f_11, oc_o wt 10 [.ref tp, .ref o, .ref x, .ref n, .ref d, .ref e9, .int (nI 900), .int (nI 0)]]) (k1 := 0) (k2 := 0) (As := []) (rest := []) (k := 0) hF hP hD hS (ct_tape_size l g tp tb (((((0 + 4) + 4) + 4) + 4) + 4)) (xt_V ml_SR_55 wi_TP_size wx_TP_size wn_TP wc_TP_size) (by decide) 1 rfl rfl rfl [1] [0, 2, 3] ⟨rfl, rfl, by decide, by decide, by decide⟩ ⟨⟨Nat.le_of_ble_eq_true rfl, Nat.le_of_ble_eq_true rfl⟩, rfl, rfl, Nat.le_of_ble_eq_true rfl, Nat.le_of_ble_eq_true rfl⟩ rfl hl.1 rfl (Nat.le_of_ble_eq_true rfl) dd_SR_feed_77 (fun r_14 u H locs hp hP hD hS => ?_)
  obtain rfl := hp
  have hP : va_P g.1 vwCl [oc_o h 0 [.ref tp, .ref wt, .ref ck, .ref sy, .ref sv, .ref rw, .ref lt], oc_i g tb 1200 f_11, oc_o wt 10 [.ref tp, .ref o, .ref x, .ref n, .ref d, .ref e9, .int (nI 900), .int (nI 0)], oc_o tp 8 [.ref tb, .int (nI (((((0 + 4) + 4) + 4) + 4) + 4))]] H := hP
  have hD : va_D A [oc_o h 0 [.ref tp, .ref wt, .ref ck, .ref sy, .ref sv, .ref rw, .ref lt], oc_i g tb 1200 f_11, oc_o wt 10 [.ref tp, .ref o, .ref x, .ref n, .ref d, .ref e9, .int (nI 900), .int (nI 0)], oc_o tp 8 [.ref tb, .int (nI (((((0 + 4) + 4) + 4) + 4) + 4))]] := hD
  exact xr_i hx hb hr hlk hQ hP hD hS () (by first | rfl | exact congrArg nI (by omega)) [] (by decide) rfl rfl (Nat.le_of_ble_eq_true rfl) (Nat.le_of_ble_eq_true rfl) dd_SR_feed_80

set_option maxHeartbeats 4000000 in
set_option maxRecDepth 100000 in
theorem cf_end0 (l : Launch) (g : xg_G) (h : Nat) (tp : Nat) (wt : Nat) (ck : Nat) (sy : Nat) (sv : Nat) (rw : Nat) (lt : Nat) (tb : Nat) (o : Nat) (x : Nat) (n : Nat) (d : Nat) (e9 : Nat) : kc_V l yy_SR_end cd_SR_end 2 { frames := 1, cells := 0, slots := 0, locals := 21 } g [.ref h, .int (nI 0)] [oc_o h 0 [.ref tp, .ref wt, .ref ck, .ref sy, .ref sv, .ref rw, .ref lt], oc_o tp 8 [.ref tb, .int (nI 0)], oc_o wt 10 [.ref tp, .ref o, .ref x, .ref n, .ref d, .ref e9, .int (nI 900), .int (nI 0)]] (S := Unit) (fun _ => True) (fun _ => []) := by
  refine kc_Vof (by decide) (Nat.le_of_ble_eq_true rfl) ?_
  intro p e s m args below meth c A ls Q H locs hQ hB hP hS
  obtain ⟨hx, hb, hr, hlk, hin, hml, hown, hts, hA, hK, hD, hE, hl⟩ := hB
  have hF : xf_F g p m c cd_SR_end 2 s args "StackedRows" A := ⟨⟨hx, hb, hml, hown, hts⟩, hE, hK, hA⟩
  have hl : lv_has ls 2 [(0, .ref h), (1, .int (nI 0))] := hl
  have hown : s.vm.findClass "StackedRows" = some m.cls := hown
  refine lv_iload_n hx hb dd_SR_end_0 rfl (lv_at hl 1 rfl) ?_
  refine lv_if_lt (tgt := 15) hx hb dd_SR_end_1 rfl (fun h_1 => absurd h_1 (by decide)) (fun _ => ?_)
  refine lv_iload_n hx hb dd_SR_end_4 rfl (lv_at hl 1 rfl) ?_
  refine lv_aload_n hx hb dd_SR_end_5 rfl (lv_at hl 0 rfl) ?_
  refine gf_SR_12 hx hb hts hown hK hP 0 rfl rfl dd_SR_end_6 ?_
  refine xc_Vi (wr := [oc_o h 0 [.ref tp, .ref wt, .ref ck, .ref sy, .ref sv, .ref rw, .ref lt], oc_o wt 10 [.ref tp, .ref o, .ref x, .ref n, .ref d, .ref e9, .int (nI 900), .int (nI 0)]]) (k1 := 0) (k2 := 0) (As := []) (rest := [.int (nI 0)]) (k := 0) hF hP hD hS (ct_tape_size l g tp tb 0) (xt_V ml_SR_55 wi_TP_size wx_TP_size wn_TP wc_TP_size) (by decide) 1 rfl rfl rfl [1] [0, 2] ⟨rfl, rfl, by decide, by decide, by decide⟩ ⟨⟨Nat.le_of_ble_eq_true rfl, Nat.le_of_ble_eq_true rfl⟩, rfl, rfl, Nat.le_of_ble_eq_true rfl, Nat.le_of_ble_eq_true rfl⟩ rfl hl.1 rfl (Nat.le_of_ble_eq_true rfl) dd_SR_end_9 (fun r_2 u H locs hp hP hD hS => ?_)
  obtain rfl := hp
  have hP : va_P g.1 vwCl [oc_o h 0 [.ref tp, .ref wt, .ref ck, .ref sy, .ref sv, .ref rw, .ref lt], oc_o wt 10 [.ref tp, .ref o, .ref x, .ref n, .ref d, .ref e9, .int (nI 900), .int (nI 0)], oc_o tp 8 [.ref tb, .int (nI 0)]] H := hP
  have hD : va_D A [oc_o h 0 [.ref tp, .ref wt, .ref ck, .ref sy, .ref sv, .ref rw, .ref lt], oc_o wt 10 [.ref tp, .ref o, .ref x, .ref n, .ref d, .ref e9, .int (nI 900), .int (nI 0)], oc_o tp 8 [.ref tb, .int (nI 0)]] := hD
  refine lv_icmp_le (tgt := 23) hx hb dd_SR_end_12 rfl (fun _ => ?_) (fun h_3 => absurd (by decide) h_3)
  refine lv_aload_n hx hb dd_SR_end_23 rfl (lv_at hl 0 rfl) ?_
  refine gf_SR_12 hx hb hts hown hK hP 0 rfl rfl dd_SR_end_24 ?_
  refine lv_iload_n hx hb dd_SR_end_27 rfl (lv_at hl 1 rfl) ?_
  refine xc_Vv (wr := [oc_o h 0 [.ref tp, .ref wt, .ref ck, .ref sy, .ref sv, .ref rw, .ref lt], oc_o wt 10 [.ref tp, .ref o, .ref x, .ref n, .ref d, .ref e9, .int (nI 900), .int (nI 0)]]) (k1 := 0) (k2 := 0) (As := [.int (nI 0)]) (rest := []) (k := 1) hF hP hD hS (ct_tape_cut l g tp tb 0 (nI 0)) (xt_V ml_SR_72 wi_TP_cut wx_TP_cut wn_TP wc_TP_cut) (by decide) 2 rfl rfl rfl [2] [0, 1] ⟨rfl, rfl, by decide, by decide, by decide⟩ ⟨⟨Nat.le_of_ble_eq_true rfl, Nat.le_of_ble_eq_true rfl⟩, rfl, rfl, Nat.le_of_ble_eq_true rfl, Nat.le_of_ble_eq_true rfl⟩ rfl hl.1 rfl (Nat.le_of_ble_eq_true rfl) dd_SR_end_28 (fun u H locs hp hP hD hS => ?_)
  have hP : va_P g.1 vwCl [oc_o h 0 [.ref tp, .ref wt, .ref ck, .ref sy, .ref sv, .ref rw, .ref lt], oc_o wt 10 [.ref tp, .ref o, .ref x, .ref n, .ref d, .ref e9, .int (nI 900), .int (nI 0)], oc_o tp 8 [.ref tb, .int (nI 0)]] H := hP
  have hD : va_D A [oc_o h 0 [.ref tp, .ref wt, .ref ck, .ref sy, .ref sv, .ref rw, .ref lt], oc_o wt 10 [.ref tp, .ref o, .ref x, .ref n, .ref d, .ref e9, .int (nI 900), .int (nI 0)], oc_o tp 8 [.ref tb, .int (nI 0)]] := hD
  refine lv_aload_n hx hb dd_SR_end_31 rfl (lv_at hl 0 rfl) ?_
  refine gf_SR_21 hx hb hts hown hK hP 0 rfl rfl dd_SR_end_32 ?_
  refine xc_Vv (wr := [oc_o h 0 [.ref tp, .ref wt, .ref ck, .ref sy, .ref sv, .ref rw, .ref lt], oc_o tp 8 [.ref tb, .int (nI 0)]]) (k1 := 0) (k2 := 0) (As := []) (rest := []) (k := 0) hF hP hD hS (ct_wr_forget l g wt tp o x n d e9) (xt_V ml_SR_66 wi_WR_forget wx_WR_forget wn_WR wc_WR_forget) (by decide) 1 rfl rfl rfl [1] [0, 2] ⟨rfl, rfl, by decide, by decide, by decide⟩ ⟨⟨Nat.le_of_ble_eq_true rfl, Nat.le_of_ble_eq_true rfl⟩, rfl, rfl, Nat.le_of_ble_eq_true rfl, Nat.le_of_ble_eq_true rfl⟩ rfl hl.1 rfl (Nat.le_of_ble_eq_true rfl) dd_SR_end_35 (fun u H locs hp hP hD hS => ?_)
  have hP : va_P g.1 vwCl [oc_o h 0 [.ref tp, .ref wt, .ref ck, .ref sy, .ref sv, .ref rw, .ref lt], oc_o tp 8 [.ref tb, .int (nI 0)], oc_o wt 10 [.ref tp, .ref o, .ref x, .ref n, .ref d, .ref e9, .int (nI 900), .int (nI 0)]] H := hP
  have hD : va_D A [oc_o h 0 [.ref tp, .ref wt, .ref ck, .ref sy, .ref sv, .ref rw, .ref lt], oc_o tp 8 [.ref tb, .int (nI 0)], oc_o wt 10 [.ref tp, .ref o, .ref x, .ref n, .ref d, .ref e9, .int (nI 900), .int (nI 0)]] := hD
  exact xr_v hx hb hr hlk hQ hP hD hS () trivial [] (by decide) rfl (Nat.le_of_ble_eq_true rfl) (Nat.le_of_ble_eq_true rfl) dd_SR_end_38

set_option maxHeartbeats 4000000 in
set_option maxRecDepth 100000 in
theorem cf_endT (l : Launch) (htr : l.stackTraces = false) (g : xg_G) (h : Nat) (tp : Nat) (wt : Nat) (ck : Nat) (sy : Nat) (sv : Nat) (rw : Nat) (lt : Nat) (tb : Nat) (x1 : Int32) (qx : x1.toInt < 0 ∨ 0 < x1.toInt) : kc_T l yy_SR_end cd_SR_end 2 none { frames := 6, cells := 1, slots := 6, locals := 89 } g [.ref h, .int x1] [oc_o h 0 [.ref tp, .ref wt, .ref ck, .ref sy, .ref sv, .ref rw, .ref lt], oc_o tp 8 [.ref tb, .int (nI 0)]] "java/lang/IllegalArgumentException" := by
  refine kc_Tof (by decide) (Nat.le_of_ble_eq_true rfl) ?_
  intro p e s m args below meth c A ls Q H locs hQ hB hP hS hst
  obtain ⟨hx, hb, hr, hlk, hin, hml, hown, hts, hA, hK, hD, hE, hl⟩ := hB
  have hF : xf_F g p m c cd_SR_end 2 s args "StackedRows" A := ⟨⟨hx, hb, hml, hown, hts⟩, hE, hK, hA⟩
  have hl : lv_has ls 2 [(0, .ref h), (1, .int x1)] := hl
  have hown : s.vm.findClass "StackedRows" = some m.cls := hown
  refine lv_iload_n hx hb dd_SR_end_0 rfl (lv_at hl 1 rfl) ?_
  refine xb_r0lt (tgt := 15) hx hb dd_SR_end_1 rfl (fun h_1 => ?_) (fun h_1 => ?_)
  · exact xt_throw (names := ["java/lang/RuntimeException", "java/lang/Exception"]) tw_SR_69 (by decide +kernel) (by decide +kernel) cl_SR_69 wk_XA wn_XA htr hx hb hlk hts hown hE hst hS hml hl.1 hQ dd_SR_end_15 dd_SR_end_18 dd_SR_end_19 dd_SR_end_22 (Nat.le_of_ble_eq_true rfl) (Nat.le_of_ble_eq_true rfl) (Nat.le_of_ble_eq_true rfl) (Nat.le_of_ble_eq_true rfl) (Nat.le_of_ble_eq_true rfl) (Nat.le_of_ble_eq_true rfl)
  · refine lv_iload_n hx hb dd_SR_end_4 rfl (lv_at hl 1 rfl) ?_
    refine lv_aload_n hx hb dd_SR_end_5 rfl (lv_at hl 0 rfl) ?_
    refine gf_SR_12 hx hb hts hown hK hP 0 rfl rfl dd_SR_end_6 ?_
    refine xc_Vi (wr := [oc_o h 0 [.ref tp, .ref wt, .ref ck, .ref sy, .ref sv, .ref rw, .ref lt]]) (k1 := 0) (k2 := 0) (As := []) (rest := [.int x1]) (k := 0) hF hP hD hS (ct_tape_size l g tp tb 0) (xt_V ml_SR_55 wi_TP_size wx_TP_size wn_TP wc_TP_size) (by decide) 1 rfl rfl rfl [1] [0] ⟨rfl, rfl, by decide, by decide, by decide⟩ ⟨⟨Nat.le_of_ble_eq_true rfl, Nat.le_of_ble_eq_true rfl⟩, rfl, rfl, Nat.le_of_ble_eq_true rfl, Nat.le_of_ble_eq_true rfl⟩ rfl hl.1 rfl (Nat.le_of_ble_eq_true rfl) dd_SR_end_9 (fun r_2 u H locs hp hP hD hS => ?_)
    obtain rfl := hp
    have hP : va_P g.1 vwCl [oc_o h 0 [.ref tp, .ref wt, .ref ck, .ref sy, .ref sv, .ref rw, .ref lt], oc_o tp 8 [.ref tb, .int (nI 0)]] H := hP
    have hD : va_D A [oc_o h 0 [.ref tp, .ref wt, .ref ck, .ref sy, .ref sv, .ref rw, .ref lt], oc_o tp 8 [.ref tb, .int (nI 0)]] := hD
    refine xb_rle (tgt := 23) hx hb (by omega) dd_SR_end_12 rfl (fun h_3 => False.elim (by omega)) (fun h_3 => ?_)
    exact xt_throw (names := ["java/lang/RuntimeException", "java/lang/Exception"]) tw_SR_69 (by decide +kernel) (by decide +kernel) cl_SR_69 wk_XA wn_XA htr hx hb hlk hts hown hE hst hS hml hl.1 hQ dd_SR_end_15 dd_SR_end_18 dd_SR_end_19 dd_SR_end_22 (Nat.le_of_ble_eq_true rfl) (Nat.le_of_ble_eq_true rfl) (Nat.le_of_ble_eq_true rfl) (Nat.le_of_ble_eq_true rfl) (Nat.le_of_ble_eq_true rfl) (Nat.le_of_ble_eq_true rfl)

set_option maxHeartbeats 4000000 in
set_option maxRecDepth 100000 in
theorem cf_byteT (l : Launch) (htr : l.stackTraces = false) (g : xg_G) (h : Nat) (tp : Nat) (wt : Nat) (ck : Nat) (sy : Nat) (sv : Nat) (rw : Nat) (lt : Nat) (tb : Nat) (x1 : Int32) : kc_T l yy_SR_byteAt cd_SR_byteAt 2 (some .int) { frames := 6, cells := 1, slots := 6, locals := 89 } g [.ref h, .int x1] [oc_o h 0 [.ref tp, .ref wt, .ref ck, .ref sy, .ref sv, .ref rw, .ref lt], oc_o tp 8 [.ref tb, .int (nI 0)]] "java/lang/IndexOutOfBoundsException" := by
  refine kc_Tof (by decide) (Nat.le_of_ble_eq_true rfl) ?_
  intro p e s m args below meth c A ls Q H locs hQ hB hP hS hst
  obtain ⟨hx, hb, hr, hlk, hin, hml, hown, hts, hA, hK, hD, hE, hl⟩ := hB
  have hF : xf_F g p m c cd_SR_byteAt 2 s args "StackedRows" A := ⟨⟨hx, hb, hml, hown, hts⟩, hE, hK, hA⟩
  have hl : lv_has ls 2 [(0, .ref h), (1, .int x1)] := hl
  have hown : s.vm.findClass "StackedRows" = some m.cls := hown
  refine lv_iload_n hx hb dd_SR_byteAt_0 rfl (lv_at hl 1 rfl) ?_
  refine xb_r0lt (tgt := 15) hx hb dd_SR_byteAt_1 rfl (fun h_1 => ?_) (fun h_1 => ?_)
  · exact xt_throw (names := ["java/lang/RuntimeException", "java/lang/Exception"]) tw_SR_75 (by decide +kernel) (by decide +kernel) cl_SR_75 wk_XI wn_XI htr hx hb hlk hts hown hE hst hS hml hl.1 hQ dd_SR_byteAt_15 dd_SR_byteAt_18 dd_SR_byteAt_19 dd_SR_byteAt_22 (Nat.le_of_ble_eq_true rfl) (Nat.le_of_ble_eq_true rfl) (Nat.le_of_ble_eq_true rfl) (Nat.le_of_ble_eq_true rfl) (Nat.le_of_ble_eq_true rfl) (Nat.le_of_ble_eq_true rfl)
  · refine lv_iload_n hx hb dd_SR_byteAt_4 rfl (lv_at hl 1 rfl) ?_
    refine lv_aload_n hx hb dd_SR_byteAt_5 rfl (lv_at hl 0 rfl) ?_
    refine gf_SR_12 hx hb hts hown hK hP 0 rfl rfl dd_SR_byteAt_6 ?_
    refine xc_Vi (wr := [oc_o h 0 [.ref tp, .ref wt, .ref ck, .ref sy, .ref sv, .ref rw, .ref lt]]) (k1 := 0) (k2 := 0) (As := []) (rest := [.int x1]) (k := 0) hF hP hD hS (ct_tape_size l g tp tb 0) (xt_V ml_SR_55 wi_TP_size wx_TP_size wn_TP wc_TP_size) (by decide) 1 rfl rfl rfl [1] [0] ⟨rfl, rfl, by decide, by decide, by decide⟩ ⟨⟨Nat.le_of_ble_eq_true rfl, Nat.le_of_ble_eq_true rfl⟩, rfl, rfl, Nat.le_of_ble_eq_true rfl, Nat.le_of_ble_eq_true rfl⟩ rfl hl.1 rfl (Nat.le_of_ble_eq_true rfl) dd_SR_byteAt_9 (fun r_2 u H locs hp hP hD hS => ?_)
    obtain rfl := hp
    have hP : va_P g.1 vwCl [oc_o h 0 [.ref tp, .ref wt, .ref ck, .ref sy, .ref sv, .ref rw, .ref lt], oc_o tp 8 [.ref tb, .int (nI 0)]] H := hP
    have hD : va_D A [oc_o h 0 [.ref tp, .ref wt, .ref ck, .ref sy, .ref sv, .ref rw, .ref lt], oc_o tp 8 [.ref tb, .int (nI 0)]] := hD
    refine xb_rlt (tgt := 23) hx hb (by omega) dd_SR_byteAt_12 rfl (fun h_3 => False.elim (by omega)) (fun h_3 => ?_)
    exact xt_throw (names := ["java/lang/RuntimeException", "java/lang/Exception"]) tw_SR_75 (by decide +kernel) (by decide +kernel) cl_SR_75 wk_XI wn_XI htr hx hb hlk hts hown hE hst hS hml hl.1 hQ dd_SR_byteAt_15 dd_SR_byteAt_18 dd_SR_byteAt_19 dd_SR_byteAt_22 (Nat.le_of_ble_eq_true rfl) (Nat.le_of_ble_eq_true rfl) (Nat.le_of_ble_eq_true rfl) (Nat.le_of_ble_eq_true rfl) (Nat.le_of_ble_eq_true rfl) (Nat.le_of_ble_eq_true rfl)

set_option maxHeartbeats 4000000 in
set_option maxRecDepth 100000 in
theorem cf_words (l : Launch) (g : xg_G) (h : Nat) (tp : Nat) (wt : Nat) (ck : Nat) (sy : Nat) (sv : Nat) (rw : Nat) (lt : Nat) (tb : Nat) (o : Nat) (x : Nat) (n : Nat) (d : Nat) (e9 : Nat) (b : Nat) (v : Value) : kc_I l yy_SR_codewords cd_SR_codewords 1 .int { frames := 2, cells := 0, slots := 0, locals := 44 } g [.ref h] [oc_o h 0 [.ref tp, .ref wt, .ref ck, .ref sy, .ref sv, .ref rw, .ref lt], oc_o tp 8 [.ref tb, .int (nI 0)], oc_o wt 10 [.ref tp, .ref o, .ref x, .ref n, .ref d, .ref e9, .int (nI 900), .int (nI 0)], oc_o o 3 [.ref b, .int (nI 0)], oc_o x 9 [.ref o, v, .int (-1)], oc_i g d 1201 (fun _ => 0), oc_i g e9 1201 (fun _ => 0)] (S := Unit) (fun r0 _ => r0 = nI 0) (fun _ => []) := by
  refine kc_Iof (by decide) (Nat.le_of_ble_eq_true rfl) ?_
  intro p e s m args below meth c A ls Q H locs hQ hB hP hS
  obtain ⟨hx, hb, hr, hlk, hin, hml, hown, hts, hA, hK, hD, hE, hl⟩ := hB
  have hF : xf_F g p m c cd_SR_codewords 1 s args "StackedRows" A := ⟨⟨hx, hb, hml, hown, hts⟩, hE, hK, hA⟩
  have hl : lv_has ls 1 [(0, .ref h)] := hl
  have hown : s.vm.findClass "StackedRows" = some m.cls := hown
  refine lv_aload_n hx hb dd_SR_codewords_0 rfl (lv_at hl 0 rfl) ?_
  refine gf_SR_21 hx hb hts hown hK hP 0 rfl rfl dd_SR_codewords_1 ?_
  refine xc_Vv (wr := [oc_o h 0 [.ref tp, .ref wt, .ref ck, .ref sy, .ref sv, .ref rw, .ref lt]]) (k1 := 0) (k2 := 0) (As := []) (rest := []) (k := 0) hF hP hD hS (ct_wr_write l g wt tp o x n d e9 tb b v (fun _ => 0) (fun _ => 0)) (xt_V ml_SR_82 wi_WR_write wx_WR_write wn_WR wc_WR_write) (by decide) 2 rfl rfl rfl [2, 1, 3, 4, 5, 6] [0] ⟨rfl, rfl, by decide, by decide, by decide⟩ ⟨⟨Nat.le_of_ble_eq_true rfl, Nat.le_of_ble_eq_true rfl⟩, rfl, rfl, Nat.le_of_ble_eq_true rfl, Nat.le_of_ble_eq_true rfl⟩ rfl hl.1 rfl (Nat.le_of_ble_eq_true rfl) dd_SR_codewords_4 (fun u H locs hp hP hD hS => ?_)
  obtain ⟨v_1, f_2, f_3⟩ := u
  have hP : va_P g.1 vwCl [oc_o h 0 [.ref tp, .ref wt, .ref ck, .ref sy, .ref sv, .ref rw, .ref lt], oc_o wt 10 [.ref tp, .ref o, .ref x, .ref n, .ref d, .ref e9, .int (nI 900), .int (nI 1)], oc_o tp 8 [.ref tb, .int (nI 0)], oc_o o 3 [.ref b, .int (nI 0)], oc_o x 9 [.ref o, v_1, .int (-1)], oc_i g d 1201 f_2, oc_i g e9 1201 f_3] H := hP
  have hD : va_D A [oc_o h 0 [.ref tp, .ref wt, .ref ck, .ref sy, .ref sv, .ref rw, .ref lt], oc_o wt 10 [.ref tp, .ref o, .ref x, .ref n, .ref d, .ref e9, .int (nI 900), .int (nI 1)], oc_o tp 8 [.ref tb, .int (nI 0)], oc_o o 3 [.ref b, .int (nI 0)], oc_o x 9 [.ref o, v_1, .int (-1)], oc_i g d 1201 f_2, oc_i g e9 1201 f_3] := hD
  refine lv_aload_n hx hb dd_SR_codewords_7 rfl (lv_at hl 0 rfl) ?_
  refine gf_SR_21 hx hb hts hown hK hP 0 rfl rfl dd_SR_codewords_8 ?_
  refine xc_Vi (wr := [oc_o h 0 [.ref tp, .ref wt, .ref ck, .ref sy, .ref sv, .ref rw, .ref lt], oc_o tp 8 [.ref tb, .int (nI 0)], oc_o x 9 [.ref o, v_1, .int (-1)], oc_i g d 1201 f_2, oc_i g e9 1201 f_3]) (k1 := 0) (k2 := 0) (As := []) (rest := []) (k := 0) hF hP hD hS (ct_wr_size l g wt tp o x n d e9 b 0 (nI 1)) (xt_V ml_SR_85 wi_WR_size wx_WR_size wn_WR wc_WR_size) (by decide) 1 rfl rfl rfl [1, 3] [0, 2, 4, 5, 6] ⟨rfl, rfl, by decide, by decide, by decide⟩ ⟨⟨Nat.le_of_ble_eq_true rfl, Nat.le_of_ble_eq_true rfl⟩, rfl, rfl, Nat.le_of_ble_eq_true rfl, Nat.le_of_ble_eq_true rfl⟩ rfl hl.1 rfl (Nat.le_of_ble_eq_true rfl) dd_SR_codewords_11 (fun r_5 u H locs hp hP hD hS => ?_)
  obtain rfl := hp
  have hP : va_P g.1 vwCl [oc_o h 0 [.ref tp, .ref wt, .ref ck, .ref sy, .ref sv, .ref rw, .ref lt], oc_o tp 8 [.ref tb, .int (nI 0)], oc_o x 9 [.ref o, v_1, .int (-1)], oc_i g d 1201 f_2, oc_i g e9 1201 f_3, oc_o wt 10 [.ref tp, .ref o, .ref x, .ref n, .ref d, .ref e9, .int (nI 900), .int (nI 1)], oc_o o 3 [.ref b, .int (nI 0)]] H := hP
  have hD : va_D A [oc_o h 0 [.ref tp, .ref wt, .ref ck, .ref sy, .ref sv, .ref rw, .ref lt], oc_o tp 8 [.ref tb, .int (nI 0)], oc_o x 9 [.ref o, v_1, .int (-1)], oc_i g d 1201 f_2, oc_i g e9 1201 f_3, oc_o wt 10 [.ref tp, .ref o, .ref x, .ref n, .ref d, .ref e9, .int (nI 900), .int (nI 1)], oc_o o 3 [.ref b, .int (nI 0)]] := hD
  exact xr_i hx hb hr hlk hQ hP hD hS () (by first | rfl | exact congrArg nI (by omega)) [] (by decide) rfl rfl (Nat.le_of_ble_eq_true rfl) (Nat.le_of_ble_eq_true rfl) dd_SR_codewords_14

set_option maxHeartbeats 4000000 in
set_option maxRecDepth 100000 in
theorem cf_wordT (l : Launch) (htr : l.stackTraces = false) (g : xg_G) (h : Nat) (tp : Nat) (wt : Nat) (ck : Nat) (sy : Nat) (sv : Nat) (rw : Nat) (lt : Nat) (tb : Nat) (o : Nat) (x : Nat) (n : Nat) (d : Nat) (e9 : Nat) (b : Nat) (v : Value) (x1 : Int32) : kc_T l yy_SR_codeword cd_SR_codeword 2 (some .int) { frames := 6, cells := 1, slots := 6, locals := 89 } g [.ref h, .int x1] [oc_o h 0 [.ref tp, .ref wt, .ref ck, .ref sy, .ref sv, .ref rw, .ref lt], oc_o tp 8 [.ref tb, .int (nI 0)], oc_o wt 10 [.ref tp, .ref o, .ref x, .ref n, .ref d, .ref e9, .int (nI 900), .int (nI 0)], oc_o o 3 [.ref b, .int (nI 0)], oc_o x 9 [.ref o, v, .int (-1)], oc_i g d 1201 (fun _ => 0), oc_i g e9 1201 (fun _ => 0)] "java/lang/IndexOutOfBoundsException" := by
  refine kc_Tof (by decide) (Nat.le_of_ble_eq_true rfl) ?_
  intro p e s m args below meth c A ls Q H locs hQ hB hP hS hst
  obtain ⟨hx, hb, hr, hlk, hin, hml, hown, hts, hA, hK, hD, hE, hl⟩ := hB
  have hF : xf_F g p m c cd_SR_codeword 2 s args "StackedRows" A := ⟨⟨hx, hb, hml, hown, hts⟩, hE, hK, hA⟩
  have hl : lv_has ls 2 [(0, .ref h), (1, .int x1)] := hl
  have hown : s.vm.findClass "StackedRows" = some m.cls := hown
  refine lv_aload_n hx hb dd_SR_codeword_0 rfl (lv_at hl 0 rfl) ?_
  refine gf_SR_21 hx hb hts hown hK hP 0 rfl rfl dd_SR_codeword_1 ?_
  refine xc_Vv (wr := [oc_o h 0 [.ref tp, .ref wt, .ref ck, .ref sy, .ref sv, .ref rw, .ref lt]]) (k1 := 0) (k2 := 0) (As := []) (rest := []) (k := 0) hF hP hD hS (ct_wr_write l g wt tp o x n d e9 tb b v (fun _ => 0) (fun _ => 0)) (xt_V ml_SR_82 wi_WR_write wx_WR_write wn_WR wc_WR_write) (by decide) 2 rfl rfl rfl [2, 1, 3, 4, 5, 6] [0] ⟨rfl, rfl, by decide, by decide, by decide⟩ ⟨⟨Nat.le_of_ble_eq_true rfl, Nat.le_of_ble_eq_true rfl⟩, rfl, rfl, Nat.le_of_ble_eq_true rfl, Nat.le_of_ble_eq_true rfl⟩ rfl hl.1 rfl (Nat.le_of_ble_eq_true rfl) dd_SR_codeword_4 (fun u H locs hp hP hD hS => ?_)
  obtain ⟨v_1, f_2, f_3⟩ := u
  have hP : va_P g.1 vwCl [oc_o h 0 [.ref tp, .ref wt, .ref ck, .ref sy, .ref sv, .ref rw, .ref lt], oc_o wt 10 [.ref tp, .ref o, .ref x, .ref n, .ref d, .ref e9, .int (nI 900), .int (nI 1)], oc_o tp 8 [.ref tb, .int (nI 0)], oc_o o 3 [.ref b, .int (nI 0)], oc_o x 9 [.ref o, v_1, .int (-1)], oc_i g d 1201 f_2, oc_i g e9 1201 f_3] H := hP
  have hD : va_D A [oc_o h 0 [.ref tp, .ref wt, .ref ck, .ref sy, .ref sv, .ref rw, .ref lt], oc_o wt 10 [.ref tp, .ref o, .ref x, .ref n, .ref d, .ref e9, .int (nI 900), .int (nI 1)], oc_o tp 8 [.ref tb, .int (nI 0)], oc_o o 3 [.ref b, .int (nI 0)], oc_o x 9 [.ref o, v_1, .int (-1)], oc_i g d 1201 f_2, oc_i g e9 1201 f_3] := hD
  refine lv_iload_n hx hb dd_SR_codeword_7 rfl (lv_at hl 1 rfl) ?_
  refine xb_r0lt (tgt := 22) hx hb dd_SR_codeword_8 rfl (fun h_5 => ?_) (fun h_5 => ?_)
  · exact xt_throw (names := ["java/lang/RuntimeException", "java/lang/Exception"]) tw_SR_75 (by decide +kernel) (by decide +kernel) cl_SR_75 wk_XI wn_XI htr hx hb hlk hts hown hE hst hS hml hl.1 hQ dd_SR_codeword_22 dd_SR_codeword_25 dd_SR_codeword_26 dd_SR_codeword_29 (Nat.le_of_ble_eq_true rfl) (Nat.le_of_ble_eq_true rfl) (Nat.le_of_ble_eq_true rfl) (Nat.le_of_ble_eq_true rfl) (Nat.le_of_ble_eq_true rfl) (Nat.le_of_ble_eq_true rfl)
  · refine lv_iload_n hx hb dd_SR_codeword_11 rfl (lv_at hl 1 rfl) ?_
    refine lv_aload_n hx hb dd_SR_codeword_12 rfl (lv_at hl 0 rfl) ?_
    refine gf_SR_21 hx hb hts hown hK hP 0 rfl rfl dd_SR_codeword_13 ?_
    refine xc_Vi (wr := [oc_o h 0 [.ref tp, .ref wt, .ref ck, .ref sy, .ref sv, .ref rw, .ref lt], oc_o tp 8 [.ref tb, .int (nI 0)], oc_o x 9 [.ref o, v_1, .int (-1)], oc_i g d 1201 f_2, oc_i g e9 1201 f_3]) (k1 := 0) (k2 := 0) (As := []) (rest := [.int x1]) (k := 0) hF hP hD hS (ct_wr_size l g wt tp o x n d e9 b 0 (nI 1)) (xt_V ml_SR_85 wi_WR_size wx_WR_size wn_WR wc_WR_size) (by decide) 1 rfl rfl rfl [1, 3] [0, 2, 4, 5, 6] ⟨rfl, rfl, by decide, by decide, by decide⟩ ⟨⟨Nat.le_of_ble_eq_true rfl, Nat.le_of_ble_eq_true rfl⟩, rfl, rfl, Nat.le_of_ble_eq_true rfl, Nat.le_of_ble_eq_true rfl⟩ rfl hl.1 rfl (Nat.le_of_ble_eq_true rfl) dd_SR_codeword_16 (fun r_6 u H locs hp hP hD hS => ?_)
    obtain rfl := hp
    have hP : va_P g.1 vwCl [oc_o h 0 [.ref tp, .ref wt, .ref ck, .ref sy, .ref sv, .ref rw, .ref lt], oc_o tp 8 [.ref tb, .int (nI 0)], oc_o x 9 [.ref o, v_1, .int (-1)], oc_i g d 1201 f_2, oc_i g e9 1201 f_3, oc_o wt 10 [.ref tp, .ref o, .ref x, .ref n, .ref d, .ref e9, .int (nI 900), .int (nI 1)], oc_o o 3 [.ref b, .int (nI 0)]] H := hP
    have hD : va_D A [oc_o h 0 [.ref tp, .ref wt, .ref ck, .ref sy, .ref sv, .ref rw, .ref lt], oc_o tp 8 [.ref tb, .int (nI 0)], oc_o x 9 [.ref o, v_1, .int (-1)], oc_i g d 1201 f_2, oc_i g e9 1201 f_3, oc_o wt 10 [.ref tp, .ref o, .ref x, .ref n, .ref d, .ref e9, .int (nI 900), .int (nI 1)], oc_o o 3 [.ref b, .int (nI 0)]] := hD
    refine xb_rlt (tgt := 30) hx hb (by omega) dd_SR_codeword_19 rfl (fun h_7 => False.elim (by omega)) (fun h_7 => ?_)
    exact xt_throw (names := ["java/lang/RuntimeException", "java/lang/Exception"]) tw_SR_75 (by decide +kernel) (by decide +kernel) cl_SR_75 wk_XI wn_XI htr hx hb hlk hts hown hE hst hS hml hl.1 hQ dd_SR_codeword_22 dd_SR_codeword_25 dd_SR_codeword_26 dd_SR_codeword_29 (Nat.le_of_ble_eq_true rfl) (Nat.le_of_ble_eq_true rfl) (Nat.le_of_ble_eq_true rfl) (Nat.le_of_ble_eq_true rfl) (Nat.le_of_ble_eq_true rfl) (Nat.le_of_ble_eq_true rfl)

set_option maxHeartbeats 4000000 in
set_option maxRecDepth 100000 in
theorem cf_makeA (l : Launch) (htr : l.stackTraces = false) (g : xg_G) (h : Nat) (tp : Nat) (wt : Nat) (ck : Nat) (sy : Nat) (sv : Nat) (rw : Nat) (lt : Nat) (x1 : Int32) (x2 : Int32) (qx : x1.toInt < 0 ∨ 8 < x1.toInt ∨ x2.toInt < 1 ∨ 30 < x2.toInt) : kc_T l yy_SR_make cd_SR_make 6 (some .int) { frames := 6, cells := 1, slots := 6, locals := 89 } g [.ref h, .int x1, .int x2] [oc_o h 0 [.ref tp, .ref wt, .ref ck, .ref sy, .ref sv, .ref rw, .ref lt]] "java/lang/IllegalArgumentException" := by
  refine kc_Tof (by decide) (Nat.le_of_ble_eq_true rfl) ?_
  intro p e s m args below meth c A ls Q H locs hQ hB hP hS hst
  obtain ⟨hx, hb, hr, hlk, hin, hml, hown, hts, hA, hK, hD, hE, hl⟩ := hB
  have hF : xf_F g p m c cd_SR_make 6 s args "StackedRows" A := ⟨⟨hx, hb, hml, hown, hts⟩, hE, hK, hA⟩
  have hl : lv_has ls 6 [(0, .ref h), (1, .int x1), (2, .int x2)] := hl
  have hown : s.vm.findClass "StackedRows" = some m.cls := hown
  refine lv_iload_n hx hb dd_SR_make_0 rfl (lv_at hl 1 rfl) ?_
  refine xb_r0lt (tgt := 21) hx hb dd_SR_make_1 rfl (fun h_1 => ?_) (fun h_1 => ?_)
  · exact xt_throw (names := ["java/lang/RuntimeException", "java/lang/Exception"]) tw_SR_69 (by decide +kernel) (by decide +kernel) cl_SR_69 wk_XA wn_XA htr hx hb hlk hts hown hE hst hS hml hl.1 hQ dd_SR_make_21 dd_SR_make_24 dd_SR_make_25 dd_SR_make_28 (Nat.le_of_ble_eq_true rfl) (Nat.le_of_ble_eq_true rfl) (Nat.le_of_ble_eq_true rfl) (Nat.le_of_ble_eq_true rfl) (Nat.le_of_ble_eq_true rfl) (Nat.le_of_ble_eq_true rfl)
  · refine lv_iload_n hx hb dd_SR_make_4 rfl (lv_at hl 1 rfl) ?_
    refine lv_bipush (v := nI 8) hx hb dd_SR_make_5 (by decide) ?_
    refine xb_rgt (tgt := 21) hx hb (by omega) dd_SR_make_7 rfl (fun h_2 => ?_) (fun h_2 => ?_)
    · exact xt_throw (names := ["java/lang/RuntimeException", "java/lang/Exception"]) tw_SR_69 (by decide +kernel) (by decide +kernel) cl_SR_69 wk_XA wn_XA htr hx hb hlk hts hown hE hst hS hml hl.1 hQ dd_SR_make_21 dd_SR_make_24 dd_SR_make_25 dd_SR_make_28 (Nat.le_of_ble_eq_true rfl) (Nat.le_of_ble_eq_true rfl) (Nat.le_of_ble_eq_true rfl) (Nat.le_of_ble_eq_true rfl) (Nat.le_of_ble_eq_true rfl) (Nat.le_of_ble_eq_true rfl)
    · refine lv_iload_n hx hb dd_SR_make_10 rfl (lv_at hl 2 rfl) ?_
      refine lv_iconst (v := nI 1) hx hb dd_SR_make_11 (by decide) ?_
      refine xb_rlt (tgt := 21) hx hb (by omega) dd_SR_make_12 rfl (fun h_3 => ?_) (fun h_3 => ?_)
      · exact xt_throw (names := ["java/lang/RuntimeException", "java/lang/Exception"]) tw_SR_69 (by decide +kernel) (by decide +kernel) cl_SR_69 wk_XA wn_XA htr hx hb hlk hts hown hE hst hS hml hl.1 hQ dd_SR_make_21 dd_SR_make_24 dd_SR_make_25 dd_SR_make_28 (Nat.le_of_ble_eq_true rfl) (Nat.le_of_ble_eq_true rfl) (Nat.le_of_ble_eq_true rfl) (Nat.le_of_ble_eq_true rfl) (Nat.le_of_ble_eq_true rfl) (Nat.le_of_ble_eq_true rfl)
      · refine lv_iload_n hx hb dd_SR_make_15 rfl (lv_at hl 2 rfl) ?_
        refine lv_bipush (v := nI 30) hx hb dd_SR_make_16 (by decide) ?_
        refine xb_rle (tgt := 29) hx hb (by omega) dd_SR_make_18 rfl (fun h_4 => False.elim (by omega)) (fun h_4 => ?_)
        exact xt_throw (names := ["java/lang/RuntimeException", "java/lang/Exception"]) tw_SR_69 (by decide +kernel) (by decide +kernel) cl_SR_69 wk_XA wn_XA htr hx hb hlk hts hown hE hst hS hml hl.1 hQ dd_SR_make_21 dd_SR_make_24 dd_SR_make_25 dd_SR_make_28 (Nat.le_of_ble_eq_true rfl) (Nat.le_of_ble_eq_true rfl) (Nat.le_of_ble_eq_true rfl) (Nat.le_of_ble_eq_true rfl) (Nat.le_of_ble_eq_true rfl) (Nat.le_of_ble_eq_true rfl)

set_option maxHeartbeats 4000000 in
set_option maxRecDepth 100000 in
theorem cf_makeU (l : Launch) (htr : l.stackTraces = false) (g : xg_G) (h : Nat) (tp : Nat) (wt : Nat) (ck : Nat) (sy : Nat) (sv : Nat) (rw : Nat) (lt : Nat) (tb : Nat) (o : Nat) (x : Nat) (n : Nat) (d : Nat) (e9 : Nat) (b : Nat) (v : Value) (L : Nat) (cc : Nat) (K : Nat) (rr : Nat) (qL : L ≤ 8) (qK : K = 2 ^ (L + 1)) (qK2 : 2 ≤ K ∧ K ≤ 512) (qc : 1 ≤ cc) (qc2 : cc ≤ 30) (qr : rr = xr_hh (1 + K) cc) (qu : 90 < rr ∨ 928 < rr * cc) : kc_T l yy_SR_make cd_SR_make 6 (some .int) { frames := 6, cells := 1, slots := 6, locals := 89 } g [.ref h, .int (nI L), .int (nI cc)] [oc_o h 0 [.ref tp, .ref wt, .ref ck, .ref sy, .ref sv, .ref rw, .ref lt], oc_o tp 8 [.ref tb, .int (nI 0)], oc_o wt 10 [.ref tp, .ref o, .ref x, .ref n, .ref d, .ref e9, .int (nI 900), .int (nI 0)], oc_o o 3 [.ref b, .int (nI 0)], oc_o x 9 [.ref o, v, .int (-1)], oc_i g d 1201 (fun _ => 0), oc_i g e9 1201 (fun _ => 0)] "java/lang/UnsupportedOperationException" := by
  refine kc_Tof (by decide) (Nat.le_of_ble_eq_true rfl) ?_
  intro p e s m args below meth c A ls Q H locs hQ hB hP hS hst
  obtain ⟨hx, hb, hr, hlk, hin, hml, hown, hts, hA, hK, hD, hE, hl⟩ := hB
  have hF : xf_F g p m c cd_SR_make 6 s args "StackedRows" A := ⟨⟨hx, hb, hml, hown, hts⟩, hE, hK, hA⟩
  have hl : lv_has ls 6 [(0, .ref h), (1, .int (nI L)), (2, .int (nI cc))] := hl
  have hown : s.vm.findClass "StackedRows" = some m.cls := hown
  refine lv_iload_n hx hb dd_SR_make_0 rfl (lv_at hl 1 rfl) ?_
  refine xb_zlt (tgt := 21) hx hb (by omega) dd_SR_make_1 rfl ?_
  refine lv_iload_n hx hb dd_SR_make_4 rfl (lv_at hl 1 rfl) ?_
  refine lv_bipush (v := nI 8) hx hb dd_SR_make_5 (by decide) ?_
  refine xb_gt (tgt := 21) hx hb (by omega) (by omega) dd_SR_make_7 rfl (fun h_1 => False.elim (by omega)) (fun h_1 => ?_)
  refine lv_iload_n hx hb dd_SR_make_10 rfl (lv_at hl 2 rfl) ?_
  refine lv_iconst (v := nI 1) hx hb dd_SR_make_11 (by decide) ?_
  refine xb_lt (tgt := 21) hx hb (by omega) (by omega) dd_SR_make_12 rfl (fun h_2 => False.elim (by omega)) (fun h_2 => ?_)
  refine lv_iload_n hx hb dd_SR_make_15 rfl (lv_at hl 2 rfl) ?_
  refine lv_bipush (v := nI 30) hx hb dd_SR_make_16 (by decide) ?_
  refine xb_le (tgt := 29) hx hb (by omega) (by omega) dd_SR_make_18 rfl (fun h_3 => ?_) (fun h_3 => False.elim (by omega))
  refine lv_aload_n hx hb dd_SR_make_29 rfl (lv_at hl 0 rfl) ?_
  refine gf_SR_21 hx hb hts hown hK hP 0 rfl rfl dd_SR_make_30 ?_
  refine xc_Vv (wr := [oc_o h 0 [.ref tp, .ref wt, .ref ck, .ref sy, .ref sv, .ref rw, .ref lt]]) (k1 := 0) (k2 := 0) (As := []) (rest := []) (k := 0) hF hP hD hS (ct_wr_write l g wt tp o x n d e9 tb b v (fun _ => 0) (fun _ => 0)) (xt_V ml_SR_82 wi_WR_write wx_WR_write wn_WR wc_WR_write) (by decide) 2 rfl rfl rfl [2, 1, 3, 4, 5, 6] [0] ⟨rfl, rfl, by decide, by decide, by decide⟩ ⟨⟨Nat.le_of_ble_eq_true rfl, Nat.le_of_ble_eq_true rfl⟩, rfl, rfl, Nat.le_of_ble_eq_true rfl, Nat.le_of_ble_eq_true rfl⟩ rfl hl.1 rfl (Nat.le_of_ble_eq_true rfl) dd_SR_make_33 (fun u H locs hp hP hD hS => ?_)
  obtain ⟨v_4, f_5, f_6⟩ := u
  have hP : va_P g.1 vwCl [oc_o h 0 [.ref tp, .ref wt, .ref ck, .ref sy, .ref sv, .ref rw, .ref lt], oc_o wt 10 [.ref tp, .ref o, .ref x, .ref n, .ref d, .ref e9, .int (nI 900), .int (nI 1)], oc_o tp 8 [.ref tb, .int (nI 0)], oc_o o 3 [.ref b, .int (nI 0)], oc_o x 9 [.ref o, v_4, .int (-1)], oc_i g d 1201 f_5, oc_i g e9 1201 f_6] H := hP
  have hD : va_D A [oc_o h 0 [.ref tp, .ref wt, .ref ck, .ref sy, .ref sv, .ref rw, .ref lt], oc_o wt 10 [.ref tp, .ref o, .ref x, .ref n, .ref d, .ref e9, .int (nI 900), .int (nI 1)], oc_o tp 8 [.ref tb, .int (nI 0)], oc_o o 3 [.ref b, .int (nI 0)], oc_o x 9 [.ref o, v_4, .int (-1)], oc_i g d 1201 f_5, oc_i g e9 1201 f_6] := hD
  refine lv_iload_n hx hb dd_SR_make_36 rfl (lv_at hl 1 rfl) ?_
  refine xc_Si (wr := [oc_o h 0 [.ref tp, .ref wt, .ref ck, .ref sy, .ref sv, .ref rw, .ref lt], oc_o wt 10 [.ref tp, .ref o, .ref x, .ref n, .ref d, .ref e9, .int (nI 900), .int (nI 1)], oc_o tp 8 [.ref tb, .int (nI 0)], oc_o o 3 [.ref b, .int (nI 0)], oc_o x 9 [.ref o, v_4, .int (-1)], oc_i g d 1201 f_5, oc_i g e9 1201 f_6]) (k1 := 0) (k2 := 0) (As := [.int (nI L)]) (rest := []) (k := 1) hF hP hD hS (ct_chk l g L K (qL) (qK)) wc_SR_checksOf wn_SR ml_SR_87 wz_SR_checksOf (by decide) [] [0, 1, 2, 3, 4, 5, 6] ⟨rfl, rfl, by decide, by decide, by decide⟩ ⟨⟨Nat.le_of_ble_eq_true rfl, Nat.le_of_ble_eq_true rfl⟩, rfl, rfl, Nat.le_of_ble_eq_true rfl, Nat.le_of_ble_eq_true rfl⟩ rfl hl.1 rfl (Nat.le_of_ble_eq_true rfl) dd_SR_make_37 (fun r_8 u H locs hp hP hD hS => ?_)
  obtain rfl := hp
  have hP : va_P g.1 vwCl [oc_o h 0 [.ref tp, .ref wt, .ref ck, .ref sy, .ref sv, .ref rw, .ref lt], oc_o wt 10 [.ref tp, .ref o, .ref x, .ref n, .ref d, .ref e9, .int (nI 900), .int (nI 1)], oc_o tp 8 [.ref tb, .int (nI 0)], oc_o o 3 [.ref b, .int (nI 0)], oc_o x 9 [.ref o, v_4, .int (-1)], oc_i g d 1201 f_5, oc_i g e9 1201 f_6] H := hP
  have hD : va_D A [oc_o h 0 [.ref tp, .ref wt, .ref ck, .ref sy, .ref sv, .ref rw, .ref lt], oc_o wt 10 [.ref tp, .ref o, .ref x, .ref n, .ref d, .ref e9, .int (nI 900), .int (nI 1)], oc_o tp 8 [.ref tb, .int (nI 0)], oc_o o 3 [.ref b, .int (nI 0)], oc_o x 9 [.ref o, v_4, .int (-1)], oc_i g d 1201 f_5, oc_i g e9 1201 f_6] := hD
  refine lv_istore_n (lv' := [(3, .int (nI K)), (0, .ref h), (1, .int (nI L)), (2, .int (nI cc))]) hx hb dd_SR_make_40 rfl hl (by decide) rfl (fun ls hl => ?_)
  refine lv_iconst (v := nI 1) hx hb dd_SR_make_41 (by decide) ?_
  refine lv_aload_n hx hb dd_SR_make_42 rfl (lv_at hl 1 rfl) ?_
  refine gf_SR_21 hx hb hts hown hK hP 0 rfl rfl dd_SR_make_43 ?_
  refine xc_Vi (wr := [oc_o h 0 [.ref tp, .ref wt, .ref ck, .ref sy, .ref sv, .ref rw, .ref lt], oc_o tp 8 [.ref tb, .int (nI 0)], oc_o x 9 [.ref o, v_4, .int (-1)], oc_i g d 1201 f_5, oc_i g e9 1201 f_6]) (k1 := 0) (k2 := 0) (As := []) (rest := [.int (nI 1)]) (k := 0) hF hP hD hS (ct_wr_size l g wt tp o x n d e9 b 0 (nI 1)) (xt_V ml_SR_85 wi_WR_size wx_WR_size wn_WR wc_WR_size) (by decide) 1 rfl rfl rfl [1, 3] [0, 2, 4, 5, 6] ⟨rfl, rfl, by decide, by decide, by decide⟩ ⟨⟨Nat.le_of_ble_eq_true rfl, Nat.le_of_ble_eq_true rfl⟩, rfl, rfl, Nat.le_of_ble_eq_true rfl, Nat.le_of_ble_eq_true rfl⟩ rfl hl.1 rfl (Nat.le_of_ble_eq_true rfl) dd_SR_make_46 (fun r_9 u H locs hp hP hD hS => ?_)
  obtain rfl := hp
  have hP : va_P g.1 vwCl [oc_o h 0 [.ref tp, .ref wt, .ref ck, .ref sy, .ref sv, .ref rw, .ref lt], oc_o tp 8 [.ref tb, .int (nI 0)], oc_o x 9 [.ref o, v_4, .int (-1)], oc_i g d 1201 f_5, oc_i g e9 1201 f_6, oc_o wt 10 [.ref tp, .ref o, .ref x, .ref n, .ref d, .ref e9, .int (nI 900), .int (nI 1)], oc_o o 3 [.ref b, .int (nI 0)]] H := hP
  have hD : va_D A [oc_o h 0 [.ref tp, .ref wt, .ref ck, .ref sy, .ref sv, .ref rw, .ref lt], oc_o tp 8 [.ref tb, .int (nI 0)], oc_o x 9 [.ref o, v_4, .int (-1)], oc_i g d 1201 f_5, oc_i g e9 1201 f_6, oc_o wt 10 [.ref tp, .ref o, .ref x, .ref n, .ref d, .ref e9, .int (nI 900), .int (nI 1)], oc_o o 3 [.ref b, .int (nI 0)]] := hD
  refine xi_iadd hx hb dd_SR_make_49 ?_
  refine lv_iload_n hx hb dd_SR_make_50 rfl (lv_at hl 0 rfl) ?_
  refine xi_iadd hx hb dd_SR_make_51 ?_
  refine lv_iload_n hx hb dd_SR_make_52 rfl (lv_at hl 3 rfl) ?_
  obtain ⟨r9, q91⟩ : ∃ r9, r9 = xr_min (1 + K) cc := ⟨_, rfl⟩
  have q92 := xr_cap qr q91
  refine xc_Si (wr := [oc_o h 0 [.ref tp, .ref wt, .ref ck, .ref sy, .ref sv, .ref rw, .ref lt], oc_o tp 8 [.ref tb, .int (nI 0)], oc_o x 9 [.ref o, v_4, .int (-1)], oc_i g d 1201 f_5, oc_i g e9 1201 f_6, oc_o wt 10 [.ref tp, .ref o, .ref x, .ref n, .ref d, .ref e9, .int (nI 900), .int (nI 1)], oc_o o 3 [.ref b, .int (nI 0)]]) (k1 := 0) (k2 := 0) (As := [.int (nI (1 + K)), .int (nI cc)]) (rest := []) (k := 2) hF hP hD hS (ct_rows l g (1 + K) cc r9 (by omega) (by omega) (by omega) (q91)) wc_SR_rowsFor wn_SR ml_SR_90 wz_SR_rowsFor (by decide) [] [0, 1, 2, 3, 4, 5, 6] ⟨rfl, rfl, by decide, by decide, by decide⟩ ⟨⟨Nat.le_of_ble_eq_true rfl, Nat.le_of_ble_eq_true rfl⟩, rfl, rfl, Nat.le_of_ble_eq_true rfl, Nat.le_of_ble_eq_true rfl⟩ rfl hl.1 rfl (Nat.le_of_ble_eq_true rfl) dd_SR_make_53 (fun r_10 u H locs hp hP hD hS => ?_)
  obtain rfl := hp
  have hP : va_P g.1 vwCl [oc_o h 0 [.ref tp, .ref wt, .ref ck, .ref sy, .ref sv, .ref rw, .ref lt], oc_o tp 8 [.ref tb, .int (nI 0)], oc_o x 9 [.ref o, v_4, .int (-1)], oc_i g d 1201 f_5, oc_i g e9 1201 f_6, oc_o wt 10 [.ref tp, .ref o, .ref x, .ref n, .ref d, .ref e9, .int (nI 900), .int (nI 1)], oc_o o 3 [.ref b, .int (nI 0)]] H := hP
  have hD : va_D A [oc_o h 0 [.ref tp, .ref wt, .ref ck, .ref sy, .ref sv, .ref rw, .ref lt], oc_o tp 8 [.ref tb, .int (nI 0)], oc_o x 9 [.ref o, v_4, .int (-1)], oc_i g d 1201 f_5, oc_i g e9 1201 f_6, oc_o wt 10 [.ref tp, .ref o, .ref x, .ref n, .ref d, .ref e9, .int (nI 900), .int (nI 1)], oc_o o 3 [.ref b, .int (nI 0)]] := hD
  refine lv_istore (lv' := [(4, .int (nI r9)), (3, .int (nI K)), (0, .ref h), (1, .int (nI L)), (2, .int (nI cc))]) hx hb dd_SR_make_56 hl (by decide) rfl (fun ls hl => ?_)
  refine lv_iload hx hb dd_SR_make_58 (lv_at hl 0 rfl) ?_
  refine lv_iload_n hx hb dd_SR_make_60 rfl (lv_at hl 4 rfl) ?_
  have q93 : r9 * cc ≤ 91 * 30 := Nat.mul_le_mul (by omega) qc2
  refine xi_imul hx hb dd_SR_make_61 ?_
  refine lv_istore (lv' := [(5, .int (nI (r9 * cc))), (4, .int (nI r9)), (3, .int (nI K)), (0, .ref h), (1, .int (nI L)), (2, .int (nI cc))]) hx hb dd_SR_make_62 hl (by decide) rfl (fun ls hl => ?_)
  refine lv_iload hx hb dd_SR_make_64 (lv_at hl 1 rfl) ?_
  refine lv_bipush (v := nI 90) hx hb dd_SR_make_66 (by decide) ?_
  refine xb_gt (tgt := 79) hx hb (by omega) (by omega) dd_SR_make_68 rfl (fun qa9 => ?_) (fun qa9 => ?_)
  · exact xt_throw (names := ["java/lang/RuntimeException", "java/lang/Exception"]) tw_SR_59 (by decide +kernel) (by decide +kernel) cl_SR_59 wk_XU wn_XU htr hx hb hlk hts hown hE hst hS hml hl.1 hQ dd_SR_make_79 dd_SR_make_82 dd_SR_make_83 dd_SR_make_86 (Nat.le_of_ble_eq_true rfl) (Nat.le_of_ble_eq_true rfl) (Nat.le_of_ble_eq_true rfl) (Nat.le_of_ble_eq_true rfl) (Nat.le_of_ble_eq_true rfl) (Nat.le_of_ble_eq_true rfl)
  · refine lv_iload hx hb dd_SR_make_71 (lv_at hl 0 rfl) ?_
    refine lv_sipush (v := nI 928) hx hb dd_SR_make_73 (by decide) ?_
    refine xb_le (tgt := 87) hx hb (by omega) (by omega) dd_SR_make_76 rfl (fun qb9 => False.elim (by rcases q92 with ⟨q94, q95⟩ | ⟨q94, q95⟩ <;> first | omega | (subst q95; omega))) (fun qb9 => ?_)
    exact xt_throw (names := ["java/lang/RuntimeException", "java/lang/Exception"]) tw_SR_59 (by decide +kernel) (by decide +kernel) cl_SR_59 wk_XU wn_XU htr hx hb hlk hts hown hE hst hS hml hl.1 hQ dd_SR_make_79 dd_SR_make_82 dd_SR_make_83 dd_SR_make_86 (Nat.le_of_ble_eq_true rfl) (Nat.le_of_ble_eq_true rfl) (Nat.le_of_ble_eq_true rfl) (Nat.le_of_ble_eq_true rfl) (Nat.le_of_ble_eq_true rfl) (Nat.le_of_ble_eq_true rfl)

set_option maxHeartbeats 4000000 in
set_option maxRecDepth 100000 in
theorem ct_fillRow (l : Launch) (g : xg_G) (h : Nat) (tp : Nat) (wt : Nat) (ck : Nat) (sy : Nat) (sv : Nat) (rw : Nat) (lt : Nat) (o : Nat) (x : Nat) (n : Nat) (d : Nat) (e9 : Nat) (b : Nat) (nn : Nat) (f : Nat → Int32) (qn : 1 ≤ nn) (qn2 : nn ≤ 928) : kc_V l yy_SR_fillRow cd_SR_fillRow 3 { frames := 2, cells := 0, slots := 0, locals := 40 } g [.ref h, .int (nI nn)] [oc_o h 0 [.ref tp, .ref wt, .ref ck, .ref sy, .ref sv, .ref rw, .ref lt], oc_o wt 10 [.ref tp, .ref o, .ref x, .ref n, .ref d, .ref e9, .int (nI 900), .int (nI 1)], oc_o o 3 [.ref b, .int (nI 0)], oc_i g rw 928 f] (S := (Nat → Int32)) (fun _ => True) (fun u0 => [oc_o h 0 [.ref tp, .ref wt, .ref ck, .ref sy, .ref sv, .ref rw, .ref lt], oc_o wt 10 [.ref tp, .ref o, .ref x, .ref n, .ref d, .ref e9, .int (nI 900), .int (nI 1)], oc_o o 3 [.ref b, .int (nI 0)], oc_i g rw 928 u0]) := by
  refine kc_Vof (by decide) (Nat.le_of_ble_eq_true rfl) ?_
  intro p e s m args below meth c A ls Q H locs hQ hB hP hS
  obtain ⟨hx, hb, hr, hlk, hin, hml, hown, hts, hA, hK, hD, hE, hl⟩ := hB
  have hF : xf_F g p m c cd_SR_fillRow 3 s args "StackedRows" A := ⟨⟨hx, hb, hml, hown, hts⟩, hE, hK, hA⟩
  have hl : lv_has ls 3 [(0, .ref h), (1, .int (nI nn))] := hl
  have hown : s.vm.findClass "StackedRows" = some m.cls := hown
  refine lv_aload_n hx hb dd_SR_fillRow_0 rfl (lv_at hl 0 rfl) ?_
  refine gf_SR_39 hx hb hts hown hK hP 0 rfl rfl dd_SR_fillRow_1 ?_
  refine lv_iconst (v := nI 0) hx hb dd_SR_fillRow_4 (by decide) ?_
  refine lv_iload_n hx hb dd_SR_fillRow_5 rfl (lv_at hl 1 rfl) ?_
  refine xa_st hx hb hK hP hD hS 3 rfl (j := 0) (by omega) (by omega) dd_SR_fillRow_6 (fun f_1 H locs hP hD hS => ?_)
  have hP : va_P g.1 vwCl [oc_o h 0 [.ref tp, .ref wt, .ref ck, .ref sy, .ref sv, .ref rw, .ref lt], oc_o wt 10 [.ref tp, .ref o, .ref x, .ref n, .ref d, .ref e9, .int (nI 900), .int (nI 1)], oc_o o 3 [.ref b, .int (nI 0)], oc_i g rw 928 f_1] H := hP
  have hD : va_D A [oc_o h 0 [.ref tp, .ref wt, .ref ck, .ref sy, .ref sv, .ref rw, .ref lt], oc_o wt 10 [.ref tp, .ref o, .ref x, .ref n, .ref d, .ref e9, .int (nI 900), .int (nI 1)], oc_o o 3 [.ref b, .int (nI 0)], oc_i g rw 928 f_1] := hD
  refine lv_iconst (v := nI 1) hx hb dd_SR_fillRow_7 (by decide) ?_
  refine lv_istore_n (lv' := [(2, .int (nI 1)), (0, .ref h), (1, .int (nI nn))]) hx hb dd_SR_fillRow_8 rfl hl (by decide) rfl (fun ls hl => ?_)
  have lp_2 : ∀ (n2 : Nat) (i : Nat) (f : Nat → Int32) (H : Heap) (locs : List Loc) (ls : Array Slot), nn - i = n2 → (1 ≤ i) → (i ≤ nn) → lv_has ls 3 [(0, .ref h), (1, .int (nI nn)), (2, .int (nI i))] → va_P g.1 vwCl [oc_o h 0 [.ref tp, .ref wt, .ref ck, .ref sy, .ref sv, .ref rw, .ref lt], oc_o wt 10 [.ref tp, .ref o, .ref x, .ref n, .ref d, .ref e9, .int (nI 900), .int (nI 1)], oc_o o 3 [.ref b, .int (nI 0)], oc_i g rw 928 f] H → va_D A [oc_o h 0 [.ref tp, .ref wt, .ref ck, .ref sy, .ref sv, .ref rw, .ref lt], oc_o wt 10 [.ref tp, .ref o, .ref x, .ref n, .ref d, .ref e9, .int (nI 900), .int (nI 1)], oc_o o 3 [.ref b, .int (nI 0)], oc_i g rw 928 f] → va_S A s.heap H locs → W p l e { frames := 2, cells := 0, slots := 0, locals := 40 } s m args below meth c H locs 0 0 Q (F0 m 9 ls []) := by
    intro n2
    induction n2 using Nat.strongRecOn with
    | _ n2 ih2 =>
    intro i f H locs ls hmn2 qi qi2 hl hP hD hS
    refine lv_iload_n hx hb dd_SR_fillRow_9 rfl (lv_at hl 2 rfl) ?_
    refine lv_iload_n hx hb dd_SR_fillRow_10 rfl (lv_at hl 1 rfl) ?_
    refine xb_ge (tgt := 53) hx hb (by omega) (by omega) dd_SR_fillRow_11 rfl (fun h_3 => ?_) (fun h_3 => ?_)
    · exact xr_v hx hb hr hlk hQ hP hD hS (f) trivial [0, 1, 2, 3] (by decide) rfl (Nat.le_of_ble_eq_true rfl) (Nat.le_of_ble_eq_true rfl) dd_SR_fillRow_53
    · refine lv_aload_n hx hb dd_SR_fillRow_14 rfl (lv_at hl 0 rfl) ?_
      refine gf_SR_39 hx hb hts hown hK hP 0 rfl rfl dd_SR_fillRow_15 ?_
      refine lv_iload_n hx hb dd_SR_fillRow_18 rfl (lv_at hl 2 rfl) ?_
      refine lv_iload_n hx hb dd_SR_fillRow_19 rfl (lv_at hl 2 rfl) ?_
      refine lv_aload_n hx hb dd_SR_fillRow_20 rfl (lv_at hl 0 rfl) ?_
      refine gf_SR_21 hx hb hts hown hK hP 0 rfl rfl dd_SR_fillRow_21 ?_
      refine xc_Vi (wr := [oc_o h 0 [.ref tp, .ref wt, .ref ck, .ref sy, .ref sv, .ref rw, .ref lt], oc_i g rw 928 f]) (k1 := 0) (k2 := 0) (As := []) (rest := [.int (nI i), .int (nI i), .ref rw]) (k := 0) hF hP hD hS (ct_wr_size l g wt tp o x n d e9 b 0 (nI 1)) (xt_V ml_SR_85 wi_WR_size wx_WR_size wn_WR wc_WR_size) (by decide) 1 rfl rfl rfl [1, 2] [0, 3] ⟨rfl, rfl, by decide, by decide, by decide⟩ ⟨⟨Nat.le_of_ble_eq_true rfl, Nat.le_of_ble_eq_true rfl⟩, rfl, rfl, Nat.le_of_ble_eq_true rfl, Nat.le_of_ble_eq_true rfl⟩ rfl hl.1 rfl (Nat.le_of_ble_eq_true rfl) dd_SR_fillRow_24 (fun r_4 u H locs hp hP hD hS => ?_)
      obtain rfl := hp
      have hP : va_P g.1 vwCl [oc_o h 0 [.ref tp, .ref wt, .ref ck, .ref sy, .ref sv, .ref rw, .ref lt], oc_i g rw 928 f, oc_o wt 10 [.ref tp, .ref o, .ref x, .ref n, .ref d, .ref e9, .int (nI 900), .int (nI 1)], oc_o o 3 [.ref b, .int (nI 0)]] H := hP
      have hD : va_D A [oc_o h 0 [.ref tp, .ref wt, .ref ck, .ref sy, .ref sv, .ref rw, .ref lt], oc_i g rw 928 f, oc_o wt 10 [.ref tp, .ref o, .ref x, .ref n, .ref d, .ref e9, .int (nI 900), .int (nI 1)], oc_o o 3 [.ref b, .int (nI 0)]] := hD
      refine xb_gt (tgt := 43) hx hb (by omega) (by omega) dd_SR_fillRow_27 rfl (fun h_5 => ?_) (fun h_5 => False.elim (by omega))
      refine lv_sipush (v := nI 900) hx hb dd_SR_fillRow_43 (by decide) ?_
      refine xa_st hx hb hK hP hD hS 1 rfl (j := i) (by omega) (by omega) dd_SR_fillRow_46 (fun f_6 H locs hP hD hS => ?_)
      have hP : va_P g.1 vwCl [oc_o h 0 [.ref tp, .ref wt, .ref ck, .ref sy, .ref sv, .ref rw, .ref lt], oc_i g rw 928 f_6, oc_o wt 10 [.ref tp, .ref o, .ref x, .ref n, .ref d, .ref e9, .int (nI 900), .int (nI 1)], oc_o o 3 [.ref b, .int (nI 0)]] H := hP
      have hD : va_D A [oc_o h 0 [.ref tp, .ref wt, .ref ck, .ref sy, .ref sv, .ref rw, .ref lt], oc_i g rw 928 f_6, oc_o wt 10 [.ref tp, .ref o, .ref x, .ref n, .ref d, .ref e9, .int (nI 900), .int (nI 1)], oc_o o 3 [.ref b, .int (nI 0)]] := hD
      refine lv_iinc (k := 2) (lv' := [(2, .int (nI (i + 1))), (0, .ref h), (1, .int (nI nn))]) hx hb dd_SR_fillRow_47 hl rfl (xi_inc _) (by decide) rfl (fun ls hl => ?_)
      refine lv_goto (tgt := 9) hx hb dd_SR_fillRow_50 rfl ?_
      exact ih2 _ (by omega) (i + 1) f_6 H locs ls rfl (by omega) (by omega) (lv_sub hl [1, 2, 0] rfl) (hP.sub [0, 2, 3, 1] rfl) (hD.sub [0, 2, 3, 1] (by decide) rfl) hS
  exact lp_2 _ 1 f_1 H locs ls rfl (by omega) (by omega) (lv_sub hl [1, 2, 0] rfl) (hP.sub [0, 1, 2, 3] rfl) (hD.sub [0, 1, 2, 3] (by decide) rfl) hS

set_option maxHeartbeats 4000000 in
set_option maxRecDepth 100000 in
theorem cf_make (l : Launch) (g : xg_G) (h : Nat) (tp : Nat) (wt : Nat) (ck : Nat) (sy : Nat) (sv : Nat) (rw : Nat) (lt : Nat) (tb : Nat) (o : Nat) (x : Nat) (n : Nat) (d : Nat) (e9 : Nat) (b : Nat) (v : Value) (fc : Nat) (p9 : Nat) (L : Nat) (cc : Nat) (K : Nat) (rr : Nat) (qL : L ≤ 8) (qK : K = 2 ^ (L + 1)) (qK2 : 2 ≤ K ∧ K ≤ 512) (qc : 1 ≤ cc) (qc2 : cc ≤ 30) (qr : rr = xr_hh (1 + K) cc) (qr2 : 3 ≤ rr ∧ rr ≤ 90) (qn : rr * cc ≤ 928) (qn2 : K + 1 ≤ rr * cc) : kc_I l yy_SR_make cd_SR_make 6 .int { frames := 3, cells := 0, slots := 0, locals := 70 } g [.ref h, .int (nI L), .int (nI cc)] [oc_o h 0 [.ref tp, .ref wt, .ref ck, .ref sy, .ref sv, .ref rw, .ref lt], oc_o tp 8 [.ref tb, .int (nI 0)], oc_o wt 10 [.ref tp, .ref o, .ref x, .ref n, .ref d, .ref e9, .int (nI 900), .int (nI 0)], oc_o o 3 [.ref b, .int (nI 0)], oc_o x 9 [.ref o, v, .int (-1)], oc_i g d 1201 (fun _ => 0), oc_i g e9 1201 (fun _ => 0), oc_o ck 2 [.ref fc], oc_i g fc 513 (fun _ => 0), oc_o sy 7 [.ref p9, .int (nI 0), .int (nI 0)], oc_i g p9 1108 (fun _ => 0), oc_i g rw 928 (fun _ => 0)] (S := Unit) (fun r0 _ => r0 = nI rr) (fun _ => []) := by
  refine kc_Iof (by decide) (Nat.le_of_ble_eq_true rfl) ?_
  intro p e s m args below meth c A ls Q H locs hQ hB hP hS
  obtain ⟨hx, hb, hr, hlk, hin, hml, hown, hts, hA, hK, hD, hE, hl⟩ := hB
  have hF : xf_F g p m c cd_SR_make 6 s args "StackedRows" A := ⟨⟨hx, hb, hml, hown, hts⟩, hE, hK, hA⟩
  have hl : lv_has ls 6 [(0, .ref h), (1, .int (nI L)), (2, .int (nI cc))] := hl
  have hown : s.vm.findClass "StackedRows" = some m.cls := hown
  refine lv_iload_n hx hb dd_SR_make_0 rfl (lv_at hl 1 rfl) ?_
  refine xb_zlt (tgt := 21) hx hb (by omega) dd_SR_make_1 rfl ?_
  refine lv_iload_n hx hb dd_SR_make_4 rfl (lv_at hl 1 rfl) ?_
  refine lv_bipush (v := nI 8) hx hb dd_SR_make_5 (by decide) ?_
  refine xb_gt (tgt := 21) hx hb (by omega) (by omega) dd_SR_make_7 rfl (fun h_1 => False.elim (by omega)) (fun h_1 => ?_)
  refine lv_iload_n hx hb dd_SR_make_10 rfl (lv_at hl 2 rfl) ?_
  refine lv_iconst (v := nI 1) hx hb dd_SR_make_11 (by decide) ?_
  refine xb_lt (tgt := 21) hx hb (by omega) (by omega) dd_SR_make_12 rfl (fun h_2 => False.elim (by omega)) (fun h_2 => ?_)
  refine lv_iload_n hx hb dd_SR_make_15 rfl (lv_at hl 2 rfl) ?_
  refine lv_bipush (v := nI 30) hx hb dd_SR_make_16 (by decide) ?_
  refine xb_le (tgt := 29) hx hb (by omega) (by omega) dd_SR_make_18 rfl (fun h_3 => ?_) (fun h_3 => False.elim (by omega))
  refine lv_aload_n hx hb dd_SR_make_29 rfl (lv_at hl 0 rfl) ?_
  refine gf_SR_21 hx hb hts hown hK hP 0 rfl rfl dd_SR_make_30 ?_
  refine xc_Vv (wr := [oc_o h 0 [.ref tp, .ref wt, .ref ck, .ref sy, .ref sv, .ref rw, .ref lt], oc_o ck 2 [.ref fc], oc_i g fc 513 (fun _ => 0), oc_o sy 7 [.ref p9, .int (nI 0), .int (nI 0)], oc_i g p9 1108 (fun _ => 0), oc_i g rw 928 (fun _ => 0)]) (k1 := 0) (k2 := 0) (As := []) (rest := []) (k := 0) hF hP hD hS (ct_wr_write l g wt tp o x n d e9 tb b v (fun _ => 0) (fun _ => 0)) (xt_V ml_SR_82 wi_WR_write wx_WR_write wn_WR wc_WR_write) (by decide) 2 rfl rfl rfl [2, 1, 3, 4, 5, 6] [0, 7, 8, 9, 10, 11] ⟨rfl, rfl, by decide, by decide, by decide⟩ ⟨⟨Nat.le_of_ble_eq_true rfl, Nat.le_of_ble_eq_true rfl⟩, rfl, rfl, Nat.le_of_ble_eq_true rfl, Nat.le_of_ble_eq_true rfl⟩ rfl hl.1 rfl (Nat.le_of_ble_eq_true rfl) dd_SR_make_33 (fun u H locs hp hP hD hS => ?_)
  obtain ⟨v_4, f_5, f_6⟩ := u
  have hP : va_P g.1 vwCl [oc_o h 0 [.ref tp, .ref wt, .ref ck, .ref sy, .ref sv, .ref rw, .ref lt], oc_o ck 2 [.ref fc], oc_i g fc 513 (fun _ => 0), oc_o sy 7 [.ref p9, .int (nI 0), .int (nI 0)], oc_i g p9 1108 (fun _ => 0), oc_i g rw 928 (fun _ => 0), oc_o wt 10 [.ref tp, .ref o, .ref x, .ref n, .ref d, .ref e9, .int (nI 900), .int (nI 1)], oc_o tp 8 [.ref tb, .int (nI 0)], oc_o o 3 [.ref b, .int (nI 0)], oc_o x 9 [.ref o, v_4, .int (-1)], oc_i g d 1201 f_5, oc_i g e9 1201 f_6] H := hP
  have hD : va_D A [oc_o h 0 [.ref tp, .ref wt, .ref ck, .ref sy, .ref sv, .ref rw, .ref lt], oc_o ck 2 [.ref fc], oc_i g fc 513 (fun _ => 0), oc_o sy 7 [.ref p9, .int (nI 0), .int (nI 0)], oc_i g p9 1108 (fun _ => 0), oc_i g rw 928 (fun _ => 0), oc_o wt 10 [.ref tp, .ref o, .ref x, .ref n, .ref d, .ref e9, .int (nI 900), .int (nI 1)], oc_o tp 8 [.ref tb, .int (nI 0)], oc_o o 3 [.ref b, .int (nI 0)], oc_o x 9 [.ref o, v_4, .int (-1)], oc_i g d 1201 f_5, oc_i g e9 1201 f_6] := hD
  refine lv_iload_n hx hb dd_SR_make_36 rfl (lv_at hl 1 rfl) ?_
  refine xc_Si (wr := [oc_o h 0 [.ref tp, .ref wt, .ref ck, .ref sy, .ref sv, .ref rw, .ref lt], oc_o ck 2 [.ref fc], oc_i g fc 513 (fun _ => 0), oc_o sy 7 [.ref p9, .int (nI 0), .int (nI 0)], oc_i g p9 1108 (fun _ => 0), oc_i g rw 928 (fun _ => 0), oc_o wt 10 [.ref tp, .ref o, .ref x, .ref n, .ref d, .ref e9, .int (nI 900), .int (nI 1)], oc_o tp 8 [.ref tb, .int (nI 0)], oc_o o 3 [.ref b, .int (nI 0)], oc_o x 9 [.ref o, v_4, .int (-1)], oc_i g d 1201 f_5, oc_i g e9 1201 f_6]) (k1 := 0) (k2 := 0) (As := [.int (nI L)]) (rest := []) (k := 1) hF hP hD hS (ct_chk l g L K (qL) (qK)) wc_SR_checksOf wn_SR ml_SR_87 wz_SR_checksOf (by decide) [] [0, 1, 2, 3, 4, 5, 6, 7, 8, 9, 10, 11] ⟨rfl, rfl, by decide, by decide, by decide⟩ ⟨⟨Nat.le_of_ble_eq_true rfl, Nat.le_of_ble_eq_true rfl⟩, rfl, rfl, Nat.le_of_ble_eq_true rfl, Nat.le_of_ble_eq_true rfl⟩ rfl hl.1 rfl (Nat.le_of_ble_eq_true rfl) dd_SR_make_37 (fun r_8 u H locs hp hP hD hS => ?_)
  obtain rfl := hp
  have hP : va_P g.1 vwCl [oc_o h 0 [.ref tp, .ref wt, .ref ck, .ref sy, .ref sv, .ref rw, .ref lt], oc_o ck 2 [.ref fc], oc_i g fc 513 (fun _ => 0), oc_o sy 7 [.ref p9, .int (nI 0), .int (nI 0)], oc_i g p9 1108 (fun _ => 0), oc_i g rw 928 (fun _ => 0), oc_o wt 10 [.ref tp, .ref o, .ref x, .ref n, .ref d, .ref e9, .int (nI 900), .int (nI 1)], oc_o tp 8 [.ref tb, .int (nI 0)], oc_o o 3 [.ref b, .int (nI 0)], oc_o x 9 [.ref o, v_4, .int (-1)], oc_i g d 1201 f_5, oc_i g e9 1201 f_6] H := hP
  have hD : va_D A [oc_o h 0 [.ref tp, .ref wt, .ref ck, .ref sy, .ref sv, .ref rw, .ref lt], oc_o ck 2 [.ref fc], oc_i g fc 513 (fun _ => 0), oc_o sy 7 [.ref p9, .int (nI 0), .int (nI 0)], oc_i g p9 1108 (fun _ => 0), oc_i g rw 928 (fun _ => 0), oc_o wt 10 [.ref tp, .ref o, .ref x, .ref n, .ref d, .ref e9, .int (nI 900), .int (nI 1)], oc_o tp 8 [.ref tb, .int (nI 0)], oc_o o 3 [.ref b, .int (nI 0)], oc_o x 9 [.ref o, v_4, .int (-1)], oc_i g d 1201 f_5, oc_i g e9 1201 f_6] := hD
  refine lv_istore_n (lv' := [(3, .int (nI K)), (0, .ref h), (1, .int (nI L)), (2, .int (nI cc))]) hx hb dd_SR_make_40 rfl hl (by decide) rfl (fun ls hl => ?_)
  refine lv_iconst (v := nI 1) hx hb dd_SR_make_41 (by decide) ?_
  refine lv_aload_n hx hb dd_SR_make_42 rfl (lv_at hl 1 rfl) ?_
  refine gf_SR_21 hx hb hts hown hK hP 0 rfl rfl dd_SR_make_43 ?_
  refine xc_Vi (wr := [oc_o h 0 [.ref tp, .ref wt, .ref ck, .ref sy, .ref sv, .ref rw, .ref lt], oc_o ck 2 [.ref fc], oc_i g fc 513 (fun _ => 0), oc_o sy 7 [.ref p9, .int (nI 0), .int (nI 0)], oc_i g p9 1108 (fun _ => 0), oc_i g rw 928 (fun _ => 0), oc_o tp 8 [.ref tb, .int (nI 0)], oc_o x 9 [.ref o, v_4, .int (-1)], oc_i g d 1201 f_5, oc_i g e9 1201 f_6]) (k1 := 0) (k2 := 0) (As := []) (rest := [.int (nI 1)]) (k := 0) hF hP hD hS (ct_wr_size l g wt tp o x n d e9 b 0 (nI 1)) (xt_V ml_SR_85 wi_WR_size wx_WR_size wn_WR wc_WR_size) (by decide) 6 rfl rfl rfl [6, 8] [0, 1, 2, 3, 4, 5, 7, 9, 10, 11] ⟨rfl, rfl, by decide, by decide, by decide⟩ ⟨⟨Nat.le_of_ble_eq_true rfl, Nat.le_of_ble_eq_true rfl⟩, rfl, rfl, Nat.le_of_ble_eq_true rfl, Nat.le_of_ble_eq_true rfl⟩ rfl hl.1 rfl (Nat.le_of_ble_eq_true rfl) dd_SR_make_46 (fun r_9 u H locs hp hP hD hS => ?_)
  obtain rfl := hp
  have hP : va_P g.1 vwCl [oc_o h 0 [.ref tp, .ref wt, .ref ck, .ref sy, .ref sv, .ref rw, .ref lt], oc_o ck 2 [.ref fc], oc_i g fc 513 (fun _ => 0), oc_o sy 7 [.ref p9, .int (nI 0), .int (nI 0)], oc_i g p9 1108 (fun _ => 0), oc_i g rw 928 (fun _ => 0), oc_o tp 8 [.ref tb, .int (nI 0)], oc_o x 9 [.ref o, v_4, .int (-1)], oc_i g d 1201 f_5, oc_i g e9 1201 f_6, oc_o wt 10 [.ref tp, .ref o, .ref x, .ref n, .ref d, .ref e9, .int (nI 900), .int (nI 1)], oc_o o 3 [.ref b, .int (nI 0)]] H := hP
  have hD : va_D A [oc_o h 0 [.ref tp, .ref wt, .ref ck, .ref sy, .ref sv, .ref rw, .ref lt], oc_o ck 2 [.ref fc], oc_i g fc 513 (fun _ => 0), oc_o sy 7 [.ref p9, .int (nI 0), .int (nI 0)], oc_i g p9 1108 (fun _ => 0), oc_i g rw 928 (fun _ => 0), oc_o tp 8 [.ref tb, .int (nI 0)], oc_o x 9 [.ref o, v_4, .int (-1)], oc_i g d 1201 f_5, oc_i g e9 1201 f_6, oc_o wt 10 [.ref tp, .ref o, .ref x, .ref n, .ref d, .ref e9, .int (nI 900), .int (nI 1)], oc_o o 3 [.ref b, .int (nI 0)]] := hD
  refine xi_iadd hx hb dd_SR_make_49 ?_
  refine lv_iload_n hx hb dd_SR_make_50 rfl (lv_at hl 0 rfl) ?_
  refine xi_iadd hx hb dd_SR_make_51 ?_
  refine lv_iload_n hx hb dd_SR_make_52 rfl (lv_at hl 3 rfl) ?_
  refine xc_Si (wr := [oc_o h 0 [.ref tp, .ref wt, .ref ck, .ref sy, .ref sv, .ref rw, .ref lt], oc_o ck 2 [.ref fc], oc_i g fc 513 (fun _ => 0), oc_o sy 7 [.ref p9, .int (nI 0), .int (nI 0)], oc_i g p9 1108 (fun _ => 0), oc_i g rw 928 (fun _ => 0), oc_o tp 8 [.ref tb, .int (nI 0)], oc_o x 9 [.ref o, v_4, .int (-1)], oc_i g d 1201 f_5, oc_i g e9 1201 f_6, oc_o wt 10 [.ref tp, .ref o, .ref x, .ref n, .ref d, .ref e9, .int (nI 900), .int (nI 1)], oc_o o 3 [.ref b, .int (nI 0)]]) (k1 := 0) (k2 := 0) (As := [.int (nI (1 + K)), .int (nI cc)]) (rest := []) (k := 2) hF hP hD hS (ct_rows l g (1 + K) cc rr (by omega) (by omega) (by omega) (xr_low qr qr2.2)) wc_SR_rowsFor wn_SR ml_SR_90 wz_SR_rowsFor (by decide) [] [0, 1, 2, 3, 4, 5, 6, 7, 8, 9, 10, 11] ⟨rfl, rfl, by decide, by decide, by decide⟩ ⟨⟨Nat.le_of_ble_eq_true rfl, Nat.le_of_ble_eq_true rfl⟩, rfl, rfl, Nat.le_of_ble_eq_true rfl, Nat.le_of_ble_eq_true rfl⟩ rfl hl.1 rfl (Nat.le_of_ble_eq_true rfl) dd_SR_make_53 (fun r_10 u H locs hp hP hD hS => ?_)
  obtain rfl := hp
  have hP : va_P g.1 vwCl [oc_o h 0 [.ref tp, .ref wt, .ref ck, .ref sy, .ref sv, .ref rw, .ref lt], oc_o ck 2 [.ref fc], oc_i g fc 513 (fun _ => 0), oc_o sy 7 [.ref p9, .int (nI 0), .int (nI 0)], oc_i g p9 1108 (fun _ => 0), oc_i g rw 928 (fun _ => 0), oc_o tp 8 [.ref tb, .int (nI 0)], oc_o x 9 [.ref o, v_4, .int (-1)], oc_i g d 1201 f_5, oc_i g e9 1201 f_6, oc_o wt 10 [.ref tp, .ref o, .ref x, .ref n, .ref d, .ref e9, .int (nI 900), .int (nI 1)], oc_o o 3 [.ref b, .int (nI 0)]] H := hP
  have hD : va_D A [oc_o h 0 [.ref tp, .ref wt, .ref ck, .ref sy, .ref sv, .ref rw, .ref lt], oc_o ck 2 [.ref fc], oc_i g fc 513 (fun _ => 0), oc_o sy 7 [.ref p9, .int (nI 0), .int (nI 0)], oc_i g p9 1108 (fun _ => 0), oc_i g rw 928 (fun _ => 0), oc_o tp 8 [.ref tb, .int (nI 0)], oc_o x 9 [.ref o, v_4, .int (-1)], oc_i g d 1201 f_5, oc_i g e9 1201 f_6, oc_o wt 10 [.ref tp, .ref o, .ref x, .ref n, .ref d, .ref e9, .int (nI 900), .int (nI 1)], oc_o o 3 [.ref b, .int (nI 0)]] := hD
  refine lv_istore (lv' := [(4, .int (nI rr)), (3, .int (nI K)), (0, .ref h), (1, .int (nI L)), (2, .int (nI cc))]) hx hb dd_SR_make_56 hl (by decide) rfl (fun ls hl => ?_)
  refine lv_iload hx hb dd_SR_make_58 (lv_at hl 0 rfl) ?_
  refine lv_iload_n hx hb dd_SR_make_60 rfl (lv_at hl 4 rfl) ?_
  refine xi_imul hx hb dd_SR_make_61 ?_
  refine lv_istore (lv' := [(5, .int (nI (rr * cc))), (4, .int (nI rr)), (3, .int (nI K)), (0, .ref h), (1, .int (nI L)), (2, .int (nI cc))]) hx hb dd_SR_make_62 hl (by decide) rfl (fun ls hl => ?_)
  refine lv_iload hx hb dd_SR_make_64 (lv_at hl 1 rfl) ?_
  refine lv_bipush (v := nI 90) hx hb dd_SR_make_66 (by decide) ?_
  refine xb_gt (tgt := 79) hx hb (by omega) (by omega) dd_SR_make_68 rfl (fun h_11 => False.elim (by omega)) (fun h_11 => ?_)
  refine lv_iload hx hb dd_SR_make_71 (lv_at hl 0 rfl) ?_
  refine lv_sipush (v := nI 928) hx hb dd_SR_make_73 (by decide) ?_
  refine xb_le (tgt := 87) hx hb (by omega) (by omega) dd_SR_make_76 rfl (fun h_12 => ?_) (fun h_12 => False.elim (by omega))
  refine lv_aload_n hx hb dd_SR_make_87 rfl (lv_at hl 3 rfl) ?_
  refine lv_iload hx hb dd_SR_make_88 (lv_at hl 0 rfl) ?_
  refine lv_iload_n hx hb dd_SR_make_90 rfl (lv_at hl 2 rfl) ?_
  refine xi_isub hx hb (by omega) dd_SR_make_91 ?_
  refine xc_Vv (wr := [oc_o ck 2 [.ref fc], oc_i g fc 513 (fun _ => 0), oc_o sy 7 [.ref p9, .int (nI 0), .int (nI 0)], oc_i g p9 1108 (fun _ => 0), oc_o tp 8 [.ref tb, .int (nI 0)], oc_o x 9 [.ref o, v_4, .int (-1)], oc_i g d 1201 f_5, oc_i g e9 1201 f_6]) (k1 := 0) (k2 := 0) (As := [.int (nI ((rr * cc) - K))]) (rest := []) (k := 1) hF hP hD hS (ct_fillRow l g h tp wt ck sy sv rw lt o x n d e9 b ((rr * cc) - K) (fun _ => 0) (by omega) (by omega)) (xt_V ml_SR_94 wi_SR_fillRow wx_SR_fillRow wn_SR wc_SR_fillRow) (by decide) 0 rfl rfl rfl [0, 10, 11, 5] [1, 2, 3, 4, 6, 7, 8, 9] ⟨rfl, rfl, by decide, by decide, by decide⟩ ⟨⟨Nat.le_of_ble_eq_true rfl, Nat.le_of_ble_eq_true rfl⟩, rfl, rfl, Nat.le_of_ble_eq_true rfl, Nat.le_of_ble_eq_true rfl⟩ rfl hl.1 rfl (Nat.le_of_ble_eq_true rfl) dd_SR_make_92 (fun f_13 H locs hp hP hD hS => ?_)
  have hP : va_P g.1 vwCl [oc_o ck 2 [.ref fc], oc_i g fc 513 (fun _ => 0), oc_o sy 7 [.ref p9, .int (nI 0), .int (nI 0)], oc_i g p9 1108 (fun _ => 0), oc_o tp 8 [.ref tb, .int (nI 0)], oc_o x 9 [.ref o, v_4, .int (-1)], oc_i g d 1201 f_5, oc_i g e9 1201 f_6, oc_o h 0 [.ref tp, .ref wt, .ref ck, .ref sy, .ref sv, .ref rw, .ref lt], oc_o wt 10 [.ref tp, .ref o, .ref x, .ref n, .ref d, .ref e9, .int (nI 900), .int (nI 1)], oc_o o 3 [.ref b, .int (nI 0)], oc_i g rw 928 f_13] H := hP
  have hD : va_D A [oc_o ck 2 [.ref fc], oc_i g fc 513 (fun _ => 0), oc_o sy 7 [.ref p9, .int (nI 0), .int (nI 0)], oc_i g p9 1108 (fun _ => 0), oc_o tp 8 [.ref tb, .int (nI 0)], oc_o x 9 [.ref o, v_4, .int (-1)], oc_i g d 1201 f_5, oc_i g e9 1201 f_6, oc_o h 0 [.ref tp, .ref wt, .ref ck, .ref sy, .ref sv, .ref rw, .ref lt], oc_o wt 10 [.ref tp, .ref o, .ref x, .ref n, .ref d, .ref e9, .int (nI 900), .int (nI 1)], oc_o o 3 [.ref b, .int (nI 0)], oc_i g rw 928 f_13] := hD
  refine lv_aload_n hx hb dd_SR_make_95 rfl (lv_at hl 3 rfl) ?_
  refine gf_SR_28 hx hb hts hown hK hP 8 rfl rfl dd_SR_make_96 ?_
  refine lv_aload_n hx hb dd_SR_make_99 rfl (lv_at hl 3 rfl) ?_
  refine gf_SR_39 hx hb hts hown hK hP 8 rfl rfl dd_SR_make_100 ?_
  refine lv_iload hx hb dd_SR_make_103 (lv_at hl 0 rfl) ?_
  refine lv_iload_n hx hb dd_SR_make_105 rfl (lv_at hl 2 rfl) ?_
  refine xc_Vv (wr := [oc_o sy 7 [.ref p9, .int (nI 0), .int (nI 0)], oc_i g p9 1108 (fun _ => 0), oc_o tp 8 [.ref tb, .int (nI 0)], oc_o x 9 [.ref o, v_4, .int (-1)], oc_i g d 1201 f_5, oc_i g e9 1201 f_6, oc_o h 0 [.ref tp, .ref wt, .ref ck, .ref sy, .ref sv, .ref rw, .ref lt], oc_o wt 10 [.ref tp, .ref o, .ref x, .ref n, .ref d, .ref e9, .int (nI 900), .int (nI 1)], oc_o o 3 [.ref b, .int (nI 0)]]) (k1 := 0) (k2 := 0) (As := [.ref rw, .int (nI (rr * cc)), .int (nI K)]) (rest := []) (k := 3) hF hP hD hS (ct_ck_write l g ck fc rw (rr * cc) K f_13 (fun _ => 0) (by omega) (by omega) (by omega)) (xt_V ml_SR_97 wi_CK_write wx_CK_write wn_CK wc_CK_write) (by decide) 0 rfl rfl rfl [0, 1, 11] [2, 3, 4, 5, 6, 7, 8, 9, 10] ⟨rfl, rfl, by decide, by decide, by decide⟩ ⟨⟨Nat.le_of_ble_eq_true rfl, Nat.le_of_ble_eq_true rfl⟩, rfl, rfl, Nat.le_of_ble_eq_true rfl, Nat.le_of_ble_eq_true rfl⟩ rfl hl.1 rfl (Nat.le_of_ble_eq_true rfl) dd_SR_make_106 (fun u H locs hp hP hD hS => ?_)
  obtain ⟨f_15, f_16⟩ := u
  have hP : va_P g.1 vwCl [oc_o sy 7 [.ref p9, .int (nI 0), .int (nI 0)], oc_i g p9 1108 (fun _ => 0), oc_o tp 8 [.ref tb, .int (nI 0)], oc_o x 9 [.ref o, v_4, .int (-1)], oc_i g d 1201 f_5, oc_i g e9 1201 f_6, oc_o h 0 [.ref tp, .ref wt, .ref ck, .ref sy, .ref sv, .ref rw, .ref lt], oc_o wt 10 [.ref tp, .ref o, .ref x, .ref n, .ref d, .ref e9, .int (nI 900), .int (nI 1)], oc_o o 3 [.ref b, .int (nI 0)], oc_o ck 2 [.ref fc], oc_i g fc 513 f_16, oc_i g rw 928 f_15] H := hP
  have hD : va_D A [oc_o sy 7 [.ref p9, .int (nI 0), .int (nI 0)], oc_i g p9 1108 (fun _ => 0), oc_o tp 8 [.ref tb, .int (nI 0)], oc_o x 9 [.ref o, v_4, .int (-1)], oc_i g d 1201 f_5, oc_i g e9 1201 f_6, oc_o h 0 [.ref tp, .ref wt, .ref ck, .ref sy, .ref sv, .ref rw, .ref lt], oc_o wt 10 [.ref tp, .ref o, .ref x, .ref n, .ref d, .ref e9, .int (nI 900), .int (nI 1)], oc_o o 3 [.ref b, .int (nI 0)], oc_o ck 2 [.ref fc], oc_i g fc 513 f_16, oc_i g rw 928 f_15] := hD
  refine lv_aload_n hx hb dd_SR_make_109 rfl (lv_at hl 3 rfl) ?_
  refine gf_SR_35 hx hb hts hown hK hP 6 rfl rfl dd_SR_make_110 ?_
  refine lv_iload hx hb dd_SR_make_113 (lv_at hl 1 rfl) ?_
  refine lv_iload_n hx hb dd_SR_make_115 rfl (lv_at hl 5 rfl) ?_
  refine xc_Vv (wr := [oc_o tp 8 [.ref tb, .int (nI 0)], oc_o x 9 [.ref o, v_4, .int (-1)], oc_i g d 1201 f_5, oc_i g e9 1201 f_6, oc_o h 0 [.ref tp, .ref wt, .ref ck, .ref sy, .ref sv, .ref rw, .ref lt], oc_o wt 10 [.ref tp, .ref o, .ref x, .ref n, .ref d, .ref e9, .int (nI 900), .int (nI 1)], oc_o o 3 [.ref b, .int (nI 0)], oc_o ck 2 [.ref fc], oc_i g fc 513 f_16, oc_i g rw 928 f_15]) (k1 := 0) (k2 := 0) (As := [.int (nI rr), .int (nI cc)]) (rest := []) (k := 2) hF hP hD hS (ct_sy_begin l g sy p9 0 0 rr cc (fun _ => 0)) (xt_V ml_SR_100 wi_SY_begin wx_SY_begin wn_SY wc_SY_begin) (by decide) 0 rfl rfl rfl [0, 1] [2, 3, 4, 5, 6, 7, 8, 9, 10, 11] ⟨rfl, rfl, by decide, by decide, by decide⟩ ⟨⟨Nat.le_of_ble_eq_true rfl, Nat.le_of_ble_eq_true rfl⟩, rfl, rfl, Nat.le_of_ble_eq_true rfl, Nat.le_of_ble_eq_true rfl⟩ rfl hl.1 rfl (Nat.le_of_ble_eq_true rfl) dd_SR_make_116 (fun f_18 H locs hp hP hD hS => ?_)
  have hP : va_P g.1 vwCl [oc_o tp 8 [.ref tb, .int (nI 0)], oc_o x 9 [.ref o, v_4, .int (-1)], oc_i g d 1201 f_5, oc_i g e9 1201 f_6, oc_o h 0 [.ref tp, .ref wt, .ref ck, .ref sy, .ref sv, .ref rw, .ref lt], oc_o wt 10 [.ref tp, .ref o, .ref x, .ref n, .ref d, .ref e9, .int (nI 900), .int (nI 1)], oc_o o 3 [.ref b, .int (nI 0)], oc_o ck 2 [.ref fc], oc_i g fc 513 f_16, oc_i g rw 928 f_15, oc_o sy 7 [.ref p9, .int (nI rr), .int (nI cc)], oc_i g p9 1108 f_18] H := hP
  have hD : va_D A [oc_o tp 8 [.ref tb, .int (nI 0)], oc_o x 9 [.ref o, v_4, .int (-1)], oc_i g d 1201 f_5, oc_i g e9 1201 f_6, oc_o h 0 [.ref tp, .ref wt, .ref ck, .ref sy, .ref sv, .ref rw, .ref lt], oc_o wt 10 [.ref tp, .ref o, .ref x, .ref n, .ref d, .ref e9, .int (nI 900), .int (nI 1)], oc_o o 3 [.ref b, .int (nI 0)], oc_o ck 2 [.ref fc], oc_i g fc 513 f_16, oc_i g rw 928 f_15, oc_o sy 7 [.ref p9, .int (nI rr), .int (nI cc)], oc_i g p9 1108 f_18] := hD
  refine lv_aload_n hx hb dd_SR_make_119 rfl (lv_at hl 3 rfl) ?_
  refine gf_SR_35 hx hb hts hown hK hP 4 rfl rfl dd_SR_make_120 ?_
  refine lv_aload_n hx hb dd_SR_make_123 rfl (lv_at hl 3 rfl) ?_
  refine gf_SR_39 hx hb hts hown hK hP 4 rfl rfl dd_SR_make_124 ?_
  refine lv_iload_n hx hb dd_SR_make_127 rfl (lv_at hl 4 rfl) ?_
  refine xc_Vv (wr := [oc_o tp 8 [.ref tb, .int (nI 0)], oc_o x 9 [.ref o, v_4, .int (-1)], oc_i g d 1201 f_5, oc_i g e9 1201 f_6, oc_o h 0 [.ref tp, .ref wt, .ref ck, .ref sy, .ref sv, .ref rw, .ref lt], oc_o wt 10 [.ref tp, .ref o, .ref x, .ref n, .ref d, .ref e9, .int (nI 900), .int (nI 1)], oc_o o 3 [.ref b, .int (nI 0)], oc_o ck 2 [.ref fc], oc_i g fc 513 f_16]) (k1 := 0) (k2 := 0) (As := [.ref rw, .int (nI L)]) (rest := []) (k := 2) hF hP hD hS (ct_sy_fill l g sy p9 rw rr cc L f_18 f_15 (by omega) (by omega) (by omega) (by omega) (by omega) (by omega)) (xt_V ml_SR_104 wi_SY_fill wx_SY_fill wn_SY wc_SY_fill) (by decide) 10 rfl rfl rfl [10, 11, 9] [0, 1, 2, 3, 4, 5, 6, 7, 8] ⟨rfl, rfl, by decide, by decide, by decide⟩ ⟨⟨Nat.le_of_ble_eq_true rfl, Nat.le_of_ble_eq_true rfl⟩, rfl, rfl, Nat.le_of_ble_eq_true rfl, Nat.le_of_ble_eq_true rfl⟩ rfl hl.1 rfl (Nat.le_of_ble_eq_true rfl) dd_SR_make_128 (fun f_20 H locs hp hP hD hS => ?_)
  have hP : va_P g.1 vwCl [oc_o tp 8 [.ref tb, .int (nI 0)], oc_o x 9 [.ref o, v_4, .int (-1)], oc_i g d 1201 f_5, oc_i g e9 1201 f_6, oc_o h 0 [.ref tp, .ref wt, .ref ck, .ref sy, .ref sv, .ref rw, .ref lt], oc_o wt 10 [.ref tp, .ref o, .ref x, .ref n, .ref d, .ref e9, .int (nI 900), .int (nI 1)], oc_o o 3 [.ref b, .int (nI 0)], oc_o ck 2 [.ref fc], oc_i g fc 513 f_16, oc_o sy 7 [.ref p9, .int (nI rr), .int (nI cc)], oc_i g p9 1108 f_20, oc_i g rw 928 f_15] H := hP
  have hD : va_D A [oc_o tp 8 [.ref tb, .int (nI 0)], oc_o x 9 [.ref o, v_4, .int (-1)], oc_i g d 1201 f_5, oc_i g e9 1201 f_6, oc_o h 0 [.ref tp, .ref wt, .ref ck, .ref sy, .ref sv, .ref rw, .ref lt], oc_o wt 10 [.ref tp, .ref o, .ref x, .ref n, .ref d, .ref e9, .int (nI 900), .int (nI 1)], oc_o o 3 [.ref b, .int (nI 0)], oc_o ck 2 [.ref fc], oc_i g fc 513 f_16, oc_o sy 7 [.ref p9, .int (nI rr), .int (nI cc)], oc_i g p9 1108 f_20, oc_i g rw 928 f_15] := hD
  refine lv_iload hx hb dd_SR_make_131 (lv_at hl 1 rfl) ?_
  exact xr_i hx hb hr hlk hQ hP hD hS () (by first | rfl | exact congrArg nI (by omega)) [] (by decide) rfl rfl (Nat.le_of_ble_eq_true rfl) (Nat.le_of_ble_eq_true rfl) dd_SR_make_133

set_option maxHeartbeats 4000000 in
set_option maxRecDepth 100000 in
theorem cf_blank (l : Launch) (g : xg_G) (h : Nat) (tp : Nat) (wt : Nat) (ck : Nat) (sy : Nat) (sv : Nat) (rw : Nat) (lt : Nat) (p9 : Nat) (rr : Nat) (cc : Nat) (qr : 3 ≤ rr) (qr2 : rr ≤ 90) (qc : 1 ≤ cc) (qc2 : cc ≤ 30) (qn : rr * cc ≤ 928) : kc_V l yy_SR_blank cd_SR_blank 3 { frames := 2, cells := 0, slots := 0, locals := 45 } g [.ref h, .int (nI rr), .int (nI cc)] [oc_o h 0 [.ref tp, .ref wt, .ref ck, .ref sy, .ref sv, .ref rw, .ref lt], oc_o sy 7 [.ref p9, .int (nI 0), .int (nI 0)], oc_i g p9 1108 (fun _ => 0)] (S := Unit) (fun _ => True) (fun _ => []) := by
  refine kc_Vof (by decide) (Nat.le_of_ble_eq_true rfl) ?_
  intro p e s m args below meth c A ls Q H locs hQ hB hP hS
  obtain ⟨hx, hb, hr, hlk, hin, hml, hown, hts, hA, hK, hD, hE, hl⟩ := hB
  have hF : xf_F g p m c cd_SR_blank 3 s args "StackedRows" A := ⟨⟨hx, hb, hml, hown, hts⟩, hE, hK, hA⟩
  have hl : lv_has ls 3 [(0, .ref h), (1, .int (nI rr)), (2, .int (nI cc))] := hl
  have hown : s.vm.findClass "StackedRows" = some m.cls := hown
  refine lv_iload_n hx hb dd_SR_blank_0 rfl (lv_at hl 1 rfl) ?_
  refine lv_iconst (v := nI 3) hx hb dd_SR_blank_1 (by decide) ?_
  refine xb_lt (tgt := 22) hx hb (by omega) (by omega) dd_SR_blank_2 rfl (fun h_1 => False.elim (by omega)) (fun h_1 => ?_)
  refine lv_iload_n hx hb dd_SR_blank_5 rfl (lv_at hl 1 rfl) ?_
  refine lv_bipush (v := nI 90) hx hb dd_SR_blank_6 (by decide) ?_
  refine xb_gt (tgt := 22) hx hb (by omega) (by omega) dd_SR_blank_8 rfl (fun h_2 => False.elim (by omega)) (fun h_2 => ?_)
  refine lv_iload_n hx hb dd_SR_blank_11 rfl (lv_at hl 2 rfl) ?_
  refine lv_iconst (v := nI 1) hx hb dd_SR_blank_12 (by decide) ?_
  refine xb_lt (tgt := 22) hx hb (by omega) (by omega) dd_SR_blank_13 rfl (fun h_3 => False.elim (by omega)) (fun h_3 => ?_)
  refine lv_iload_n hx hb dd_SR_blank_16 rfl (lv_at hl 2 rfl) ?_
  refine lv_bipush (v := nI 30) hx hb dd_SR_blank_17 (by decide) ?_
  refine xb_le (tgt := 30) hx hb (by omega) (by omega) dd_SR_blank_19 rfl (fun h_4 => ?_) (fun h_4 => False.elim (by omega))
  refine lv_iload_n hx hb dd_SR_blank_30 rfl (lv_at hl 1 rfl) ?_
  refine lv_iload_n hx hb dd_SR_blank_31 rfl (lv_at hl 2 rfl) ?_
  refine xi_imul hx hb dd_SR_blank_32 ?_
  refine lv_sipush (v := nI 928) hx hb dd_SR_blank_33 (by decide) ?_
  refine xb_le (tgt := 47) hx hb (by omega) (by omega) dd_SR_blank_36 rfl (fun h_5 => ?_) (fun h_5 => False.elim (by omega))
  refine lv_aload_n hx hb dd_SR_blank_47 rfl (lv_at hl 0 rfl) ?_
  refine gf_SR_35 hx hb hts hown hK hP 0 rfl rfl dd_SR_blank_48 ?_
  refine lv_iload_n hx hb dd_SR_blank_51 rfl (lv_at hl 1 rfl) ?_
  refine lv_iload_n hx hb dd_SR_blank_52 rfl (lv_at hl 2 rfl) ?_
  refine xc_Vv (wr := [oc_o h 0 [.ref tp, .ref wt, .ref ck, .ref sy, .ref sv, .ref rw, .ref lt]]) (k1 := 0) (k2 := 0) (As := [.int (nI rr), .int (nI cc)]) (rest := []) (k := 2) hF hP hD hS (ct_sy_begin l g sy p9 0 0 rr cc (fun _ => 0)) (xt_V ml_SR_100 wi_SY_begin wx_SY_begin wn_SY wc_SY_begin) (by decide) 1 rfl rfl rfl [1, 2] [0] ⟨rfl, rfl, by decide, by decide, by decide⟩ ⟨⟨Nat.le_of_ble_eq_true rfl, Nat.le_of_ble_eq_true rfl⟩, rfl, rfl, Nat.le_of_ble_eq_true rfl, Nat.le_of_ble_eq_true rfl⟩ rfl hl.1 rfl (Nat.le_of_ble_eq_true rfl) dd_SR_blank_53 (fun f_6 H locs hp hP hD hS => ?_)
  have hP : va_P g.1 vwCl [oc_o h 0 [.ref tp, .ref wt, .ref ck, .ref sy, .ref sv, .ref rw, .ref lt], oc_o sy 7 [.ref p9, .int (nI rr), .int (nI cc)], oc_i g p9 1108 f_6] H := hP
  have hD : va_D A [oc_o h 0 [.ref tp, .ref wt, .ref ck, .ref sy, .ref sv, .ref rw, .ref lt], oc_o sy 7 [.ref p9, .int (nI rr), .int (nI cc)], oc_i g p9 1108 f_6] := hD
  exact xr_v hx hb hr hlk hQ hP hD hS () trivial [] (by decide) rfl (Nat.le_of_ble_eq_true rfl) (Nat.le_of_ble_eq_true rfl) dd_SR_blank_56

set_option maxHeartbeats 4000000 in
set_option maxRecDepth 100000 in
theorem cf_blankA (l : Launch) (htr : l.stackTraces = false) (g : xg_G) (h : Nat) (tp : Nat) (wt : Nat) (ck : Nat) (sy : Nat) (sv : Nat) (rw : Nat) (lt : Nat) (x1 : Int32) (x2 : Int32) (qx : x1.toInt < 3 ∨ 90 < x1.toInt ∨ x2.toInt < 1 ∨ 30 < x2.toInt) : kc_T l yy_SR_blank cd_SR_blank 3 none { frames := 6, cells := 1, slots := 6, locals := 89 } g [.ref h, .int x1, .int x2] [oc_o h 0 [.ref tp, .ref wt, .ref ck, .ref sy, .ref sv, .ref rw, .ref lt]] "java/lang/IllegalArgumentException" := by
  refine kc_Tof (by decide) (Nat.le_of_ble_eq_true rfl) ?_
  intro p e s m args below meth c A ls Q H locs hQ hB hP hS hst
  obtain ⟨hx, hb, hr, hlk, hin, hml, hown, hts, hA, hK, hD, hE, hl⟩ := hB
  have hF : xf_F g p m c cd_SR_blank 3 s args "StackedRows" A := ⟨⟨hx, hb, hml, hown, hts⟩, hE, hK, hA⟩
  have hl : lv_has ls 3 [(0, .ref h), (1, .int x1), (2, .int x2)] := hl
  have hown : s.vm.findClass "StackedRows" = some m.cls := hown
  refine lv_iload_n hx hb dd_SR_blank_0 rfl (lv_at hl 1 rfl) ?_
  refine lv_iconst (v := nI 3) hx hb dd_SR_blank_1 (by decide) ?_
  refine xb_rlt (tgt := 22) hx hb (by omega) dd_SR_blank_2 rfl (fun h_1 => ?_) (fun h_1 => ?_)
  · exact xt_throw (names := ["java/lang/RuntimeException", "java/lang/Exception"]) tw_SR_69 (by decide +kernel) (by decide +kernel) cl_SR_69 wk_XA wn_XA htr hx hb hlk hts hown hE hst hS hml hl.1 hQ dd_SR_blank_22 dd_SR_blank_25 dd_SR_blank_26 dd_SR_blank_29 (Nat.le_of_ble_eq_true rfl) (Nat.le_of_ble_eq_true rfl) (Nat.le_of_ble_eq_true rfl) (Nat.le_of_ble_eq_true rfl) (Nat.le_of_ble_eq_true rfl) (Nat.le_of_ble_eq_true rfl)
  · refine lv_iload_n hx hb dd_SR_blank_5 rfl (lv_at hl 1 rfl) ?_
    refine lv_bipush (v := nI 90) hx hb dd_SR_blank_6 (by decide) ?_
    refine xb_rgt (tgt := 22) hx hb (by omega) dd_SR_blank_8 rfl (fun h_2 => ?_) (fun h_2 => ?_)
    · exact xt_throw (names := ["java/lang/RuntimeException", "java/lang/Exception"]) tw_SR_69 (by decide +kernel) (by decide +kernel) cl_SR_69 wk_XA wn_XA htr hx hb hlk hts hown hE hst hS hml hl.1 hQ dd_SR_blank_22 dd_SR_blank_25 dd_SR_blank_26 dd_SR_blank_29 (Nat.le_of_ble_eq_true rfl) (Nat.le_of_ble_eq_true rfl) (Nat.le_of_ble_eq_true rfl) (Nat.le_of_ble_eq_true rfl) (Nat.le_of_ble_eq_true rfl) (Nat.le_of_ble_eq_true rfl)
    · refine lv_iload_n hx hb dd_SR_blank_11 rfl (lv_at hl 2 rfl) ?_
      refine lv_iconst (v := nI 1) hx hb dd_SR_blank_12 (by decide) ?_
      refine xb_rlt (tgt := 22) hx hb (by omega) dd_SR_blank_13 rfl (fun h_3 => ?_) (fun h_3 => ?_)
      · exact xt_throw (names := ["java/lang/RuntimeException", "java/lang/Exception"]) tw_SR_69 (by decide +kernel) (by decide +kernel) cl_SR_69 wk_XA wn_XA htr hx hb hlk hts hown hE hst hS hml hl.1 hQ dd_SR_blank_22 dd_SR_blank_25 dd_SR_blank_26 dd_SR_blank_29 (Nat.le_of_ble_eq_true rfl) (Nat.le_of_ble_eq_true rfl) (Nat.le_of_ble_eq_true rfl) (Nat.le_of_ble_eq_true rfl) (Nat.le_of_ble_eq_true rfl) (Nat.le_of_ble_eq_true rfl)
      · refine lv_iload_n hx hb dd_SR_blank_16 rfl (lv_at hl 2 rfl) ?_
        refine lv_bipush (v := nI 30) hx hb dd_SR_blank_17 (by decide) ?_
        refine xb_rle (tgt := 30) hx hb (by omega) dd_SR_blank_19 rfl (fun h_4 => False.elim (by omega)) (fun h_4 => ?_)
        exact xt_throw (names := ["java/lang/RuntimeException", "java/lang/Exception"]) tw_SR_69 (by decide +kernel) (by decide +kernel) cl_SR_69 wk_XA wn_XA htr hx hb hlk hts hown hE hst hS hml hl.1 hQ dd_SR_blank_22 dd_SR_blank_25 dd_SR_blank_26 dd_SR_blank_29 (Nat.le_of_ble_eq_true rfl) (Nat.le_of_ble_eq_true rfl) (Nat.le_of_ble_eq_true rfl) (Nat.le_of_ble_eq_true rfl) (Nat.le_of_ble_eq_true rfl) (Nat.le_of_ble_eq_true rfl)

set_option maxHeartbeats 4000000 in
set_option maxRecDepth 100000 in
theorem cf_blankB (l : Launch) (htr : l.stackTraces = false) (g : xg_G) (h : Nat) (tp : Nat) (wt : Nat) (ck : Nat) (sy : Nat) (sv : Nat) (rw : Nat) (lt : Nat) (rr : Nat) (cc : Nat) (qr : 3 ≤ rr) (qr2 : rr ≤ 90) (qc : 1 ≤ cc) (qc2 : cc ≤ 30) (qn : 928 < rr * cc) (qn2 : rr * cc ≤ 2700) : kc_T l yy_SR_blank cd_SR_blank 3 none { frames := 6, cells := 1, slots := 6, locals := 89 } g [.ref h, .int (nI rr), .int (nI cc)] [oc_o h 0 [.ref tp, .ref wt, .ref ck, .ref sy, .ref sv, .ref rw, .ref lt]] "java/lang/IllegalArgumentException" := by
  refine kc_Tof (by decide) (Nat.le_of_ble_eq_true rfl) ?_
  intro p e s m args below meth c A ls Q H locs hQ hB hP hS hst
  obtain ⟨hx, hb, hr, hlk, hin, hml, hown, hts, hA, hK, hD, hE, hl⟩ := hB
  have hF : xf_F g p m c cd_SR_blank 3 s args "StackedRows" A := ⟨⟨hx, hb, hml, hown, hts⟩, hE, hK, hA⟩
  have hl : lv_has ls 3 [(0, .ref h), (1, .int (nI rr)), (2, .int (nI cc))] := hl
  have hown : s.vm.findClass "StackedRows" = some m.cls := hown
  refine lv_iload_n hx hb dd_SR_blank_0 rfl (lv_at hl 1 rfl) ?_
  refine lv_iconst (v := nI 3) hx hb dd_SR_blank_1 (by decide) ?_
  refine xb_lt (tgt := 22) hx hb (by omega) (by omega) dd_SR_blank_2 rfl (fun h_1 => False.elim (by omega)) (fun h_1 => ?_)
  refine lv_iload_n hx hb dd_SR_blank_5 rfl (lv_at hl 1 rfl) ?_
  refine lv_bipush (v := nI 90) hx hb dd_SR_blank_6 (by decide) ?_
  refine xb_gt (tgt := 22) hx hb (by omega) (by omega) dd_SR_blank_8 rfl (fun h_2 => False.elim (by omega)) (fun h_2 => ?_)
  refine lv_iload_n hx hb dd_SR_blank_11 rfl (lv_at hl 2 rfl) ?_
  refine lv_iconst (v := nI 1) hx hb dd_SR_blank_12 (by decide) ?_
  refine xb_lt (tgt := 22) hx hb (by omega) (by omega) dd_SR_blank_13 rfl (fun h_3 => False.elim (by omega)) (fun h_3 => ?_)
  refine lv_iload_n hx hb dd_SR_blank_16 rfl (lv_at hl 2 rfl) ?_
  refine lv_bipush (v := nI 30) hx hb dd_SR_blank_17 (by decide) ?_
  refine xb_le (tgt := 30) hx hb (by omega) (by omega) dd_SR_blank_19 rfl (fun h_4 => ?_) (fun h_4 => False.elim (by omega))
  refine lv_iload_n hx hb dd_SR_blank_30 rfl (lv_at hl 1 rfl) ?_
  refine lv_iload_n hx hb dd_SR_blank_31 rfl (lv_at hl 2 rfl) ?_
  refine xi_imul hx hb dd_SR_blank_32 ?_
  refine lv_sipush (v := nI 928) hx hb dd_SR_blank_33 (by decide) ?_
  refine xb_le (tgt := 47) hx hb (by omega) (by omega) dd_SR_blank_36 rfl (fun h_5 => False.elim (by omega)) (fun h_5 => ?_)
  exact xt_throw (names := ["java/lang/RuntimeException", "java/lang/Exception"]) tw_SR_69 (by decide +kernel) (by decide +kernel) cl_SR_69 wk_XA wn_XA htr hx hb hlk hts hown hE hst hS hml hl.1 hQ dd_SR_blank_39 dd_SR_blank_42 dd_SR_blank_43 dd_SR_blank_46 (Nat.le_of_ble_eq_true rfl) (Nat.le_of_ble_eq_true rfl) (Nat.le_of_ble_eq_true rfl) (Nat.le_of_ble_eq_true rfl) (Nat.le_of_ble_eq_true rfl) (Nat.le_of_ble_eq_true rfl)

set_option maxHeartbeats 4000000 in
set_option maxRecDepth 100000 in
theorem cf_place (l : Launch) (htr : l.stackTraces = false) (g : xg_G) (h : Nat) (tp : Nat) (wt : Nat) (ck : Nat) (sy : Nat) (sv : Nat) (rw : Nat) (lt : Nat) (p9 : Nat) (x1 : Int32) (x2 : Int32) : kc_T l yy_SR_place cd_SR_place 3 (some .int) { frames := 6, cells := 1, slots := 6, locals := 89 } g [.ref h, .int x1, .int x2] [oc_o h 0 [.ref tp, .ref wt, .ref ck, .ref sy, .ref sv, .ref rw, .ref lt], oc_o sy 7 [.ref p9, .int (nI 0), .int (nI 0)]] "java/lang/IllegalStateException" := by
  refine kc_Tof (by decide) (Nat.le_of_ble_eq_true rfl) ?_
  intro p e s m args below meth c A ls Q H locs hQ hB hP hS hst
  obtain ⟨hx, hb, hr, hlk, hin, hml, hown, hts, hA, hK, hD, hE, hl⟩ := hB
  have hF : xf_F g p m c cd_SR_place 3 s args "StackedRows" A := ⟨⟨hx, hb, hml, hown, hts⟩, hE, hK, hA⟩
  have hl : lv_has ls 3 [(0, .ref h), (1, .int x1), (2, .int x2)] := hl
  have hown : s.vm.findClass "StackedRows" = some m.cls := hown
  refine lv_aload_n hx hb dd_SR_place_0 rfl (lv_at hl 0 rfl) ?_
  refine gf_SR_35 hx hb hts hown hK hP 0 rfl rfl dd_SR_place_1 ?_
  refine xc_Vi (wr := [oc_o h 0 [.ref tp, .ref wt, .ref ck, .ref sy, .ref sv, .ref rw, .ref lt]]) (k1 := 0) (k2 := 0) (As := []) (rest := []) (k := 0) hF hP hD hS (ct_sy_there l g sy p9) (xt_V ml_SR_108 wi_SY_isThere wx_SY_isThere wn_SY wc_SY_isThere) (by decide) 1 rfl rfl rfl [1] [0] ⟨rfl, rfl, by decide, by decide, by decide⟩ ⟨⟨Nat.le_of_ble_eq_true rfl, Nat.le_of_ble_eq_true rfl⟩, rfl, rfl, Nat.le_of_ble_eq_true rfl, Nat.le_of_ble_eq_true rfl⟩ rfl hl.1 rfl (Nat.le_of_ble_eq_true rfl) dd_SR_place_4 (fun r_1 u H locs hp hP hD hS => ?_)
  obtain rfl := hp
  have hP : va_P g.1 vwCl [oc_o h 0 [.ref tp, .ref wt, .ref ck, .ref sy, .ref sv, .ref rw, .ref lt], oc_o sy 7 [.ref p9, .int (nI 0), .int (nI 0)]] H := hP
  have hD : va_D A [oc_o h 0 [.ref tp, .ref wt, .ref ck, .ref sy, .ref sv, .ref rw, .ref lt], oc_o sy 7 [.ref p9, .int (nI 0), .int (nI 0)]] := hD
  refine lv_if_ne (tgt := 18) hx hb dd_SR_place_7 rfl (fun h_2 => absurd (by decide) h_2) (fun _ => ?_)
  exact xt_throw (names := ["java/lang/RuntimeException", "java/lang/Exception"]) tw_SR_112 (by decide +kernel) (by decide +kernel) cl_SR_112 wk_XS wn_XS htr hx hb hlk hts hown hE hst hS hml hl.1 hQ dd_SR_place_10 dd_SR_place_13 dd_SR_place_14 dd_SR_place_17 (Nat.le_of_ble_eq_true rfl) (Nat.le_of_ble_eq_true rfl) (Nat.le_of_ble_eq_true rfl) (Nat.le_of_ble_eq_true rfl) (Nat.le_of_ble_eq_true rfl) (Nat.le_of_ble_eq_true rfl)

set_option maxHeartbeats 4000000 in
set_option maxRecDepth 100000 in
theorem cf_put (l : Launch) (htr : l.stackTraces = false) (g : xg_G) (h : Nat) (tp : Nat) (wt : Nat) (ck : Nat) (sy : Nat) (sv : Nat) (rw : Nat) (lt : Nat) (p9 : Nat) (x1 : Int32) (x2 : Int32) (x3 : Int32) : kc_T l yy_SR_put cd_SR_put 4 none { frames := 6, cells := 1, slots := 6, locals := 89 } g [.ref h, .int x1, .int x2, .int x3] [oc_o h 0 [.ref tp, .ref wt, .ref ck, .ref sy, .ref sv, .ref rw, .ref lt], oc_o sy 7 [.ref p9, .int (nI 0), .int (nI 0)]] "java/lang/IllegalStateException" := by
  refine kc_Tof (by decide) (Nat.le_of_ble_eq_true rfl) ?_
  intro p e s m args below meth c A ls Q H locs hQ hB hP hS hst
  obtain ⟨hx, hb, hr, hlk, hin, hml, hown, hts, hA, hK, hD, hE, hl⟩ := hB
  have hF : xf_F g p m c cd_SR_put 4 s args "StackedRows" A := ⟨⟨hx, hb, hml, hown, hts⟩, hE, hK, hA⟩
  have hl : lv_has ls 4 [(0, .ref h), (1, .int x1), (2, .int x2), (3, .int x3)] := hl
  have hown : s.vm.findClass "StackedRows" = some m.cls := hown
  refine lv_aload_n hx hb dd_SR_put_0 rfl (lv_at hl 0 rfl) ?_
  refine gf_SR_35 hx hb hts hown hK hP 0 rfl rfl dd_SR_put_1 ?_
  refine xc_Vi (wr := [oc_o h 0 [.ref tp, .ref wt, .ref ck, .ref sy, .ref sv, .ref rw, .ref lt]]) (k1 := 0) (k2 := 0) (As := []) (rest := []) (k := 0) hF hP hD hS (ct_sy_there l g sy p9) (xt_V ml_SR_108 wi_SY_isThere wx_SY_isThere wn_SY wc_SY_isThere) (by decide) 1 rfl rfl rfl [1] [0] ⟨rfl, rfl, by decide, by decide, by decide⟩ ⟨⟨Nat.le_of_ble_eq_true rfl, Nat.le_of_ble_eq_true rfl⟩, rfl, rfl, Nat.le_of_ble_eq_true rfl, Nat.le_of_ble_eq_true rfl⟩ rfl hl.1 rfl (Nat.le_of_ble_eq_true rfl) dd_SR_put_4 (fun r_1 u H locs hp hP hD hS => ?_)
  obtain rfl := hp
  have hP : va_P g.1 vwCl [oc_o h 0 [.ref tp, .ref wt, .ref ck, .ref sy, .ref sv, .ref rw, .ref lt], oc_o sy 7 [.ref p9, .int (nI 0), .int (nI 0)]] H := hP
  have hD : va_D A [oc_o h 0 [.ref tp, .ref wt, .ref ck, .ref sy, .ref sv, .ref rw, .ref lt], oc_o sy 7 [.ref p9, .int (nI 0), .int (nI 0)]] := hD
  refine lv_if_ne (tgt := 18) hx hb dd_SR_put_7 rfl (fun h_2 => absurd (by decide) h_2) (fun _ => ?_)
  exact xt_throw (names := ["java/lang/RuntimeException", "java/lang/Exception"]) tw_SR_112 (by decide +kernel) (by decide +kernel) cl_SR_112 wk_XS wn_XS htr hx hb hlk hts hown hE hst hS hml hl.1 hQ dd_SR_put_10 dd_SR_put_13 dd_SR_put_14 dd_SR_put_17 (Nat.le_of_ble_eq_true rfl) (Nat.le_of_ble_eq_true rfl) (Nat.le_of_ble_eq_true rfl) (Nat.le_of_ble_eq_true rfl) (Nat.le_of_ble_eq_true rfl) (Nat.le_of_ble_eq_true rfl)

set_option maxHeartbeats 4000000 in
set_option maxRecDepth 100000 in
theorem cf_solve (l : Launch) (htr : l.stackTraces = false) (g : xg_G) (h : Nat) (tp : Nat) (wt : Nat) (ck : Nat) (sy : Nat) (sv : Nat) (rw : Nat) (lt : Nat) (p9 : Nat) : kc_T l yy_SR_solve cd_SR_solve 2 (some .int) { frames := 6, cells := 1, slots := 6, locals := 89 } g [.ref h] [oc_o h 0 [.ref tp, .ref wt, .ref ck, .ref sy, .ref sv, .ref rw, .ref lt], oc_o sy 7 [.ref p9, .int (nI 0), .int (nI 0)]] "java/lang/IllegalStateException" := by
  refine kc_Tof (by decide) (Nat.le_of_ble_eq_true rfl) ?_
  intro p e s m args below meth c A ls Q H locs hQ hB hP hS hst
  obtain ⟨hx, hb, hr, hlk, hin, hml, hown, hts, hA, hK, hD, hE, hl⟩ := hB
  have hF : xf_F g p m c cd_SR_solve 2 s args "StackedRows" A := ⟨⟨hx, hb, hml, hown, hts⟩, hE, hK, hA⟩
  have hl : lv_has ls 2 [(0, .ref h)] := hl
  have hown : s.vm.findClass "StackedRows" = some m.cls := hown
  refine lv_aload_n hx hb dd_SR_solve_0 rfl (lv_at hl 0 rfl) ?_
  refine gf_SR_35 hx hb hts hown hK hP 0 rfl rfl dd_SR_solve_1 ?_
  refine xc_Vi (wr := [oc_o h 0 [.ref tp, .ref wt, .ref ck, .ref sy, .ref sv, .ref rw, .ref lt]]) (k1 := 0) (k2 := 0) (As := []) (rest := []) (k := 0) hF hP hD hS (ct_sy_there l g sy p9) (xt_V ml_SR_108 wi_SY_isThere wx_SY_isThere wn_SY wc_SY_isThere) (by decide) 1 rfl rfl rfl [1] [0] ⟨rfl, rfl, by decide, by decide, by decide⟩ ⟨⟨Nat.le_of_ble_eq_true rfl, Nat.le_of_ble_eq_true rfl⟩, rfl, rfl, Nat.le_of_ble_eq_true rfl, Nat.le_of_ble_eq_true rfl⟩ rfl hl.1 rfl (Nat.le_of_ble_eq_true rfl) dd_SR_solve_4 (fun r_1 u H locs hp hP hD hS => ?_)
  obtain rfl := hp
  have hP : va_P g.1 vwCl [oc_o h 0 [.ref tp, .ref wt, .ref ck, .ref sy, .ref sv, .ref rw, .ref lt], oc_o sy 7 [.ref p9, .int (nI 0), .int (nI 0)]] H := hP
  have hD : va_D A [oc_o h 0 [.ref tp, .ref wt, .ref ck, .ref sy, .ref sv, .ref rw, .ref lt], oc_o sy 7 [.ref p9, .int (nI 0), .int (nI 0)]] := hD
  refine lv_if_ne (tgt := 18) hx hb dd_SR_solve_7 rfl (fun h_2 => absurd (by decide) h_2) (fun _ => ?_)
  exact xt_throw (names := ["java/lang/RuntimeException", "java/lang/Exception"]) tw_SR_112 (by decide +kernel) (by decide +kernel) cl_SR_112 wk_XS wn_XS htr hx hb hlk hts hown hE hst hS hml hl.1 hQ dd_SR_solve_10 dd_SR_solve_13 dd_SR_solve_14 dd_SR_solve_17 (Nat.le_of_ble_eq_true rfl) (Nat.le_of_ble_eq_true rfl) (Nat.le_of_ble_eq_true rfl) (Nat.le_of_ble_eq_true rfl) (Nat.le_of_ble_eq_true rfl) (Nat.le_of_ble_eq_true rfl)

set_option maxHeartbeats 4000000 in
set_option maxRecDepth 100000 in
theorem cf_solved (l : Launch) (g : xg_G) (h : Nat) (tp : Nat) (wt : Nat) (ck : Nat) (sy : Nat) (sv : Nat) (rw : Nat) (lt : Nat) (k : Nat) (qk : k < 4) : kc_I l yy_SR_solved cd_SR_solved 2 .int { frames := 0, cells := 0, slots := 0, locals := 0 } g [.ref h, .int (nI k)] [oc_o h 0 [.ref tp, .ref wt, .ref ck, .ref sy, .ref sv, .ref rw, .ref lt], oc_i g lt 4 (fun _ => 0)] (S := Unit) (fun r0 _ => r0 = nI 0) (fun _ => []) := by
  refine kc_Iof (by decide) (Nat.le_of_ble_eq_true rfl) ?_
  intro p e s m args below meth c A ls Q H locs hQ hB hP hS
  obtain ⟨hx, hb, hr, hlk, hin, hml, hown, hts, hA, hK, hD, hE, hl⟩ := hB
  have hF : xf_F g p m c cd_SR_solved 2 s args "StackedRows" A := ⟨⟨hx, hb, hml, hown, hts⟩, hE, hK, hA⟩
  have hl : lv_has ls 2 [(0, .ref h), (1, .int (nI k))] := hl
  have hown : s.vm.findClass "StackedRows" = some m.cls := hown
  refine lv_iload_n hx hb dd_SR_solved_0 rfl (lv_at hl 1 rfl) ?_
  refine xb_zlt (tgt := 13) hx hb (by omega) dd_SR_solved_1 rfl ?_
  refine lv_iload_n hx hb dd_SR_solved_4 rfl (lv_at hl 1 rfl) ?_
  refine lv_aload_n hx hb dd_SR_solved_5 rfl (lv_at hl 0 rfl) ?_
  refine gf_SR_52 hx hb hts hown hK hP 0 rfl rfl dd_SR_solved_6 ?_
  refine xa_len hx hb hK hP 1 rfl dd_SR_solved_9 ?_
  refine xb_lt (tgt := 21) hx hb (by omega) (by omega) dd_SR_solved_10 rfl (fun h_1 => ?_) (fun h_1 => False.elim (by omega))
  refine lv_aload_n hx hb dd_SR_solved_21 rfl (lv_at hl 0 rfl) ?_
  refine gf_SR_52 hx hb hts hown hK hP 0 rfl rfl dd_SR_solved_22 ?_
  refine lv_iload_n hx hb dd_SR_solved_25 rfl (lv_at hl 1 rfl) ?_
  refine xa_ld hx hb hK hP 1 rfl (j := k) (by omega) (by omega) dd_SR_solved_26 ?_
  refine xi_eq (v := nI 0) (rfl) ?_
  exact xr_i hx hb hr hlk hQ hP hD hS () (by first | rfl | exact congrArg nI (by omega)) [] (by decide) rfl rfl (Nat.le_of_ble_eq_true rfl) (Nat.le_of_ble_eq_true rfl) dd_SR_solved_27

set_option maxHeartbeats 4000000 in
set_option maxRecDepth 100000 in
theorem cf_solvedT (l : Launch) (htr : l.stackTraces = false) (g : xg_G) (h : Nat) (tp : Nat) (wt : Nat) (ck : Nat) (sy : Nat) (sv : Nat) (rw : Nat) (lt : Nat) (x1 : Int32) (qx : x1.toInt < 0 ∨ 4 ≤ x1.toInt) : kc_T l yy_SR_solved cd_SR_solved 2 (some .int) { frames := 6, cells := 1, slots := 6, locals := 89 } g [.ref h, .int x1] [oc_o h 0 [.ref tp, .ref wt, .ref ck, .ref sy, .ref sv, .ref rw, .ref lt], oc_i g lt 4 (fun _ => 0)] "java/lang/IndexOutOfBoundsException" := by
  refine kc_Tof (by decide) (Nat.le_of_ble_eq_true rfl) ?_
  intro p e s m args below meth c A ls Q H locs hQ hB hP hS hst
  obtain ⟨hx, hb, hr, hlk, hin, hml, hown, hts, hA, hK, hD, hE, hl⟩ := hB
  have hF : xf_F g p m c cd_SR_solved 2 s args "StackedRows" A := ⟨⟨hx, hb, hml, hown, hts⟩, hE, hK, hA⟩
  have hl : lv_has ls 2 [(0, .ref h), (1, .int x1)] := hl
  have hown : s.vm.findClass "StackedRows" = some m.cls := hown
  refine lv_iload_n hx hb dd_SR_solved_0 rfl (lv_at hl 1 rfl) ?_
  refine xb_r0lt (tgt := 13) hx hb dd_SR_solved_1 rfl (fun h_1 => ?_) (fun h_1 => ?_)
  · exact xt_throw (names := ["java/lang/RuntimeException", "java/lang/Exception"]) tw_SR_75 (by decide +kernel) (by decide +kernel) cl_SR_75 wk_XI wn_XI htr hx hb hlk hts hown hE hst hS hml hl.1 hQ dd_SR_solved_13 dd_SR_solved_16 dd_SR_solved_17 dd_SR_solved_20 (Nat.le_of_ble_eq_true rfl) (Nat.le_of_ble_eq_true rfl) (Nat.le_of_ble_eq_true rfl) (Nat.le_of_ble_eq_true rfl) (Nat.le_of_ble_eq_true rfl) (Nat.le_of_ble_eq_true rfl)
  · refine lv_iload_n hx hb dd_SR_solved_4 rfl (lv_at hl 1 rfl) ?_
    refine lv_aload_n hx hb dd_SR_solved_5 rfl (lv_at hl 0 rfl) ?_
    refine gf_SR_52 hx hb hts hown hK hP 0 rfl rfl dd_SR_solved_6 ?_
    refine xa_len hx hb hK hP 1 rfl dd_SR_solved_9 ?_
    refine xb_rlt (tgt := 21) hx hb (by omega) dd_SR_solved_10 rfl (fun h_2 => False.elim (by omega)) (fun h_2 => ?_)
    exact xt_throw (names := ["java/lang/RuntimeException", "java/lang/Exception"]) tw_SR_75 (by decide +kernel) (by decide +kernel) cl_SR_75 wk_XI wn_XI htr hx hb hlk hts hown hE hst hS hml hl.1 hQ dd_SR_solved_13 dd_SR_solved_16 dd_SR_solved_17 dd_SR_solved_20 (Nat.le_of_ble_eq_true rfl) (Nat.le_of_ble_eq_true rfl) (Nat.le_of_ble_eq_true rfl) (Nat.le_of_ble_eq_true rfl) (Nat.le_of_ble_eq_true rfl) (Nat.le_of_ble_eq_true rfl)

set_option maxHeartbeats 4000000 in
set_option maxRecDepth 100000 in
theorem cf_count (l : Launch) (g : xg_G) (h : Nat) (tp : Nat) (wt : Nat) (ck : Nat) (sy : Nat) (sv : Nat) (rw : Nat) (lt : Nat) (tb : Nat) (p9 : Nat) (k : Nat) (qk : k < 3) : kc_I l yy_SR_count cd_SR_count 2 .int { frames := 1, cells := 0, slots := 0, locals := 20 } g [.ref h, .int (nI k)] [oc_o h 0 [.ref tp, .ref wt, .ref ck, .ref sy, .ref sv, .ref rw, .ref lt], oc_o tp 8 [.ref tb, .int (nI 0)], oc_o sy 7 [.ref p9, .int (nI 0), .int (nI 0)]] (S := Unit) (fun r0 _ => r0 = nI 0) (fun _ => []) := by
  refine kc_Iof (by decide) (Nat.le_of_ble_eq_true rfl) ?_
  intro p e s m args below meth c A ls Q H locs hQ hB hP hS
  obtain ⟨hx, hb, hr, hlk, hin, hml, hown, hts, hA, hK, hD, hE, hl⟩ := hB
  have hF : xf_F g p m c cd_SR_count 2 s args "StackedRows" A := ⟨⟨hx, hb, hml, hown, hts⟩, hE, hK, hA⟩
  have hl : lv_has ls 2 [(0, .ref h), (1, .int (nI k))] := hl
  have hown : s.vm.findClass "StackedRows" = some m.cls := hown
  refine lv_iload_n hx hb dd_SR_count_0 rfl (lv_at hl 1 rfl) ?_
  refine xb_zlt (tgt := 9) hx hb (by omega) dd_SR_count_1 rfl ?_
  refine lv_iload_n hx hb dd_SR_count_4 rfl (lv_at hl 1 rfl) ?_
  refine lv_iconst (v := nI 2) hx hb dd_SR_count_5 (by decide) ?_
  refine xb_le (tgt := 17) hx hb (by omega) (by omega) dd_SR_count_6 rfl (fun h_1 => ?_) (fun h_1 => False.elim (by omega))
  refine lv_iload_n hx hb dd_SR_count_17 rfl (lv_at hl 1 rfl) ?_
  refine xb_zne (tgt := 29) hx hb (by omega) dd_SR_count_18 rfl (fun h_2 => ?_) (fun h_2 => ?_)
  · refine lv_iload_n hx hb dd_SR_count_29 rfl (lv_at hl 1 rfl) ?_
    refine lv_iconst (v := nI 1) hx hb dd_SR_count_30 (by decide) ?_
    refine xb_ne (tgt := 44) hx hb (by omega) (by omega) dd_SR_count_31 rfl (fun h_3 => ?_) (fun h_3 => ?_)
    · refine lv_aload_n hx hb dd_SR_count_44 rfl (lv_at hl 0 rfl) ?_
      refine gf_SR_35 hx hb hts hown hK hP 0 rfl rfl dd_SR_count_45 ?_
      refine xc_Vi (wr := [oc_o h 0 [.ref tp, .ref wt, .ref ck, .ref sy, .ref sv, .ref rw, .ref lt], oc_o tp 8 [.ref tb, .int (nI 0)]]) (k1 := 0) (k2 := 0) (As := []) (rest := []) (k := 0) hF hP hD hS (ct_sy_columns l g sy p9 0 0) (xt_V ml_SR_148 wi_SY_columns wx_SY_columns wn_SY wc_SY_columns) (by decide) 2 rfl rfl rfl [2] [0, 1] ⟨rfl, rfl, by decide, by decide, by decide⟩ ⟨⟨Nat.le_of_ble_eq_true rfl, Nat.le_of_ble_eq_true rfl⟩, rfl, rfl, Nat.le_of_ble_eq_true rfl, Nat.le_of_ble_eq_true rfl⟩ rfl hl.1 rfl (Nat.le_of_ble_eq_true rfl) dd_SR_count_48 (fun r_4 u H locs hp hP hD hS => ?_)
      obtain rfl := hp
      have hP : va_P g.1 vwCl [oc_o h 0 [.ref tp, .ref wt, .ref ck, .ref sy, .ref sv, .ref rw, .ref lt], oc_o tp 8 [.ref tb, .int (nI 0)], oc_o sy 7 [.ref p9, .int (nI 0), .int (nI 0)]] H := hP
      have hD : va_D A [oc_o h 0 [.ref tp, .ref wt, .ref ck, .ref sy, .ref sv, .ref rw, .ref lt], oc_o tp 8 [.ref tb, .int (nI 0)], oc_o sy 7 [.ref p9, .int (nI 0), .int (nI 0)]] := hD
      exact xr_i hx hb hr hlk hQ hP hD hS () (by first | rfl | exact congrArg nI (by omega)) [] (by decide) rfl rfl (Nat.le_of_ble_eq_true rfl) (Nat.le_of_ble_eq_true rfl) dd_SR_count_51
    · refine lv_aload_n hx hb dd_SR_count_34 rfl (lv_at hl 0 rfl) ?_
      refine gf_SR_35 hx hb hts hown hK hP 0 rfl rfl dd_SR_count_35 ?_
      refine xc_Vi (wr := [oc_o h 0 [.ref tp, .ref wt, .ref ck, .ref sy, .ref sv, .ref rw, .ref lt], oc_o tp 8 [.ref tb, .int (nI 0)]]) (k1 := 0) (k2 := 0) (As := []) (rest := []) (k := 0) hF hP hD hS (ct_sy_rows l g sy p9 0 0) (xt_V ml_SR_145 wi_SY_rows wx_SY_rows wn_SY wc_SY_rows) (by decide) 2 rfl rfl rfl [2] [0, 1] ⟨rfl, rfl, by decide, by decide, by decide⟩ ⟨⟨Nat.le_of_ble_eq_true rfl, Nat.le_of_ble_eq_true rfl⟩, rfl, rfl, Nat.le_of_ble_eq_true rfl, Nat.le_of_ble_eq_true rfl⟩ rfl hl.1 rfl (Nat.le_of_ble_eq_true rfl) dd_SR_count_38 (fun r_5 u H locs hp hP hD hS => ?_)
      obtain rfl := hp
      have hP : va_P g.1 vwCl [oc_o h 0 [.ref tp, .ref wt, .ref ck, .ref sy, .ref sv, .ref rw, .ref lt], oc_o tp 8 [.ref tb, .int (nI 0)], oc_o sy 7 [.ref p9, .int (nI 0), .int (nI 0)]] H := hP
      have hD : va_D A [oc_o h 0 [.ref tp, .ref wt, .ref ck, .ref sy, .ref sv, .ref rw, .ref lt], oc_o tp 8 [.ref tb, .int (nI 0)], oc_o sy 7 [.ref p9, .int (nI 0), .int (nI 0)]] := hD
      refine lv_goto (tgt := 51) hx hb dd_SR_count_41 rfl ?_
      exact xr_i hx hb hr hlk hQ hP hD hS () (by first | rfl | exact congrArg nI (by omega)) [] (by decide) rfl rfl (Nat.le_of_ble_eq_true rfl) (Nat.le_of_ble_eq_true rfl) dd_SR_count_51
  · refine lv_aload_n hx hb dd_SR_count_21 rfl (lv_at hl 0 rfl) ?_
    refine gf_SR_12 hx hb hts hown hK hP 0 rfl rfl dd_SR_count_22 ?_
    refine xc_Vi (wr := [oc_o h 0 [.ref tp, .ref wt, .ref ck, .ref sy, .ref sv, .ref rw, .ref lt], oc_o sy 7 [.ref p9, .int (nI 0), .int (nI 0)]]) (k1 := 0) (k2 := 0) (As := []) (rest := []) (k := 0) hF hP hD hS (ct_tape_size l g tp tb 0) (xt_V ml_SR_55 wi_TP_size wx_TP_size wn_TP wc_TP_size) (by decide) 1 rfl rfl rfl [1] [0, 2] ⟨rfl, rfl, by decide, by decide, by decide⟩ ⟨⟨Nat.le_of_ble_eq_true rfl, Nat.le_of_ble_eq_true rfl⟩, rfl, rfl, Nat.le_of_ble_eq_true rfl, Nat.le_of_ble_eq_true rfl⟩ rfl hl.1 rfl (Nat.le_of_ble_eq_true rfl) dd_SR_count_25 (fun r_6 u H locs hp hP hD hS => ?_)
    obtain rfl := hp
    have hP : va_P g.1 vwCl [oc_o h 0 [.ref tp, .ref wt, .ref ck, .ref sy, .ref sv, .ref rw, .ref lt], oc_o sy 7 [.ref p9, .int (nI 0), .int (nI 0)], oc_o tp 8 [.ref tb, .int (nI 0)]] H := hP
    have hD : va_D A [oc_o h 0 [.ref tp, .ref wt, .ref ck, .ref sy, .ref sv, .ref rw, .ref lt], oc_o sy 7 [.ref p9, .int (nI 0), .int (nI 0)], oc_o tp 8 [.ref tb, .int (nI 0)]] := hD
    exact xr_i hx hb hr hlk hQ hP hD hS () (by first | rfl | exact congrArg nI (by omega)) [] (by decide) rfl rfl (Nat.le_of_ble_eq_true rfl) (Nat.le_of_ble_eq_true rfl) dd_SR_count_28

set_option maxHeartbeats 4000000 in
set_option maxRecDepth 100000 in
theorem cf_countT (l : Launch) (htr : l.stackTraces = false) (g : xg_G) (h : Nat) (tp : Nat) (wt : Nat) (ck : Nat) (sy : Nat) (sv : Nat) (rw : Nat) (lt : Nat) (x1 : Int32) (qx : x1.toInt < 0 ∨ 3 ≤ x1.toInt) : kc_T l yy_SR_count cd_SR_count 2 (some .int) { frames := 6, cells := 1, slots := 6, locals := 89 } g [.ref h, .int x1] [oc_o h 0 [.ref tp, .ref wt, .ref ck, .ref sy, .ref sv, .ref rw, .ref lt]] "java/lang/IllegalArgumentException" := by
  refine kc_Tof (by decide) (Nat.le_of_ble_eq_true rfl) ?_
  intro p e s m args below meth c A ls Q H locs hQ hB hP hS hst
  obtain ⟨hx, hb, hr, hlk, hin, hml, hown, hts, hA, hK, hD, hE, hl⟩ := hB
  have hF : xf_F g p m c cd_SR_count 2 s args "StackedRows" A := ⟨⟨hx, hb, hml, hown, hts⟩, hE, hK, hA⟩
  have hl : lv_has ls 2 [(0, .ref h), (1, .int x1)] := hl
  have hown : s.vm.findClass "StackedRows" = some m.cls := hown
  refine lv_iload_n hx hb dd_SR_count_0 rfl (lv_at hl 1 rfl) ?_
  refine xb_r0lt (tgt := 9) hx hb dd_SR_count_1 rfl (fun h_1 => ?_) (fun h_1 => ?_)
  · exact xt_throw (names := ["java/lang/RuntimeException", "java/lang/Exception"]) tw_SR_69 (by decide +kernel) (by decide +kernel) cl_SR_69 wk_XA wn_XA htr hx hb hlk hts hown hE hst hS hml hl.1 hQ dd_SR_count_9 dd_SR_count_12 dd_SR_count_13 dd_SR_count_16 (Nat.le_of_ble_eq_true rfl) (Nat.le_of_ble_eq_true rfl) (Nat.le_of_ble_eq_true rfl) (Nat.le_of_ble_eq_true rfl) (Nat.le_of_ble_eq_true rfl) (Nat.le_of_ble_eq_true rfl)
  · refine lv_iload_n hx hb dd_SR_count_4 rfl (lv_at hl 1 rfl) ?_
    refine lv_iconst (v := nI 2) hx hb dd_SR_count_5 (by decide) ?_
    refine xb_rle (tgt := 17) hx hb (by omega) dd_SR_count_6 rfl (fun h_2 => False.elim (by omega)) (fun h_2 => ?_)
    exact xt_throw (names := ["java/lang/RuntimeException", "java/lang/Exception"]) tw_SR_69 (by decide +kernel) (by decide +kernel) cl_SR_69 wk_XA wn_XA htr hx hb hlk hts hown hE hst hS hml hl.1 hQ dd_SR_count_9 dd_SR_count_12 dd_SR_count_13 dd_SR_count_16 (Nat.le_of_ble_eq_true rfl) (Nat.le_of_ble_eq_true rfl) (Nat.le_of_ble_eq_true rfl) (Nat.le_of_ble_eq_true rfl) (Nat.le_of_ble_eq_true rfl) (Nat.le_of_ble_eq_true rfl)
