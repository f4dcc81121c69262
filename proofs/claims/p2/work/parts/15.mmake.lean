set_option maxHeartbeats 4000000 in
set_option maxRecDepth 100000 in
theorem cm_init (l : Launch) (g : xg_G) (h : Nat) : kc_V l yy_MO_init cd_MO_init 3 { frames := 1, cells := 19, slots := 26327, locals := 12 } g [.ref h] [oc_o h 11 [.int (nI 0), .null, .int (nI 0), .null, .int (nI 0), .int (nI 0), .int (nI 0), .null, .null, .int (nI 0), .int (nI 0), .null, .int (nI 0), .int (nI 0), .int (nI 0), .int (nI 0), .null, .null, .null, .null, .null, .null, .null, .null, .null, .null, .null, .null, .null, .int (nI 0), .null, .int (nI 0)]] (S := Nat × Nat × Nat × Nat × Nat × Nat × Nat × Nat × Nat × Nat × Nat × Nat × Nat × Nat × Nat × Nat × Nat × Nat × Nat × (Nat → Int32)) (fun _ => True) (fun u0 => [oc_o h 11 [.int (nI 0), .ref u0.1, .int (nI 0), .ref u0.2.1, .int (nI 0), .int (nI 0), .int (nI 0), .ref u0.2.2.1, .ref u0.2.2.2.1, .int (nI 0), .int (nI 0), .ref u0.2.2.2.2.1, .int (nI 0), .int (nI 0), .int (nI 0), .int (nI 0), .ref u0.2.2.2.2.2.1, .ref u0.2.2.2.2.2.2.1, .ref u0.2.2.2.2.2.2.2.1, .ref u0.2.2.2.2.2.2.2.2.1, .ref u0.2.2.2.2.2.2.2.2.2.1, .ref u0.2.2.2.2.2.2.2.2.2.2.1, .ref u0.2.2.2.2.2.2.2.2.2.2.2.1, .ref u0.2.2.2.2.2.2.2.2.2.2.2.2.1, .ref u0.2.2.2.2.2.2.2.2.2.2.2.2.2.1, .ref u0.2.2.2.2.2.2.2.2.2.2.2.2.2.2.1, .ref u0.2.2.2.2.2.2.2.2.2.2.2.2.2.2.2.1, .ref u0.2.2.2.2.2.2.2.2.2.2.2.2.2.2.2.2.1, .ref u0.2.2.2.2.2.2.2.2.2.2.2.2.2.2.2.2.2.1, .int (nI 0), .ref u0.2.2.2.2.2.2.2.2.2.2.2.2.2.2.2.2.2.2.1, .int (nI 0)], oc_i g u0.1 1220 (fun _ => 0), oc_i g u0.2.2.2.2.1 2900 (fun _ => 0), oc_i g u0.2.2.2.2.2.1 928 (fun _ => 0), oc_i g u0.2.2.2.2.2.2.2.1 929 u0.2.2.2.2.2.2.2.2.2.2.2.2.2.2.2.2.2.2.2, oc_i g u0.2.2.2.2.2.2.2.2.2.2.1 1860 (fun _ => 0), oc_i g u0.2.2.2.2.2.2.2.2.2.2.2.2.2.2.2.1 1860 (fun _ => 0)]) := by
  refine kc_Vof (by decide) (Nat.le_of_ble_eq_true rfl) ?_
  intro p e s m args below meth c A ls Q H locs hQ hB hP hS
  obtain ⟨hx, hb, hr, hlk, hin, hml, hown, hts, hA, hK, hD, hE, hl⟩ := hB
  have hF : xf_F g p m c cd_MO_init 3 s args "StackedRowsModel" A := ⟨⟨hx, hb, hml, hown, hts⟩, hE, hK, hA⟩
  have hl : lv_has ls 3 [(0, .ref h)] := hl
  have hown : s.vm.findClass "StackedRowsModel" = some m.cls := hown
  refine lv_aload_n hx hb dd_MO_init_0 rfl (lv_at hl 0 rfl) ?_
  refine oi_MO_1 hx hb hts hown hml hl.1 (Nat.le_of_ble_eq_true rfl) (Nat.le_of_ble_eq_true rfl) dd_MO_init_1 ?_
  refine lv_aload_n hx hb dd_MO_init_4 rfl (lv_at hl 0 rfl) ?_
  refine lv_sipush (v := nI 1220) hx hb dd_MO_init_5 (by decide) ?_
  refine xa_newI (k1 := 1) (k2 := 1220) hx hb (hts _ wa_int) hK hP hD hS hA (by decide) rfl rfl (Nat.le_of_ble_eq_true rfl) (Nat.le_of_ble_eq_true rfl) dd_MO_init_8 (fun q_1 H hP hD hS => ?_)
  have hP : va_P g.1 vwCl [oc_o h 11 [.int (nI 0), .null, .int (nI 0), .null, .int (nI 0), .int (nI 0), .int (nI 0), .null, .null, .int (nI 0), .int (nI 0), .null, .int (nI 0), .int (nI 0), .int (nI 0), .int (nI 0), .null, .null, .null, .null, .null, .null, .null, .null, .null, .null, .null, .null, .null, .int (nI 0), .null, .int (nI 0)], oc_i g q_1 1220 (fun _ => 0)] H := hP
  have hD : va_D A [oc_o h 11 [.int (nI 0), .null, .int (nI 0), .null, .int (nI 0), .int (nI 0), .int (nI 0), .null, .null, .int (nI 0), .int (nI 0), .null, .int (nI 0), .int (nI 0), .int (nI 0), .int (nI 0), .null, .null, .null, .null, .null, .null, .null, .null, .null, .null, .null, .null, .null, .int (nI 0), .null, .int (nI 0)], oc_i g q_1 1220 (fun _ => 0)] := hD
  refine pf_MO_7 hin hx hb hts hown hK hP hD hS 0 rfl rfl rfl (Nat.le_of_ble_eq_true rfl) dd_MO_init_10 (fun H locs hP hD hS => ?_)
  have hP : va_P g.1 vwCl [oc_o h 11 [.int (nI 0), .ref q_1, .int (nI 0), .null, .int (nI 0), .int (nI 0), .int (nI 0), .null, .null, .int (nI 0), .int (nI 0), .null, .int (nI 0), .int (nI 0), .int (nI 0), .int (nI 0), .null, .null, .null, .null, .null, .null, .null, .null, .null, .null, .null, .null, .null, .int (nI 0), .null, .int (nI 0)], oc_i g q_1 1220 (fun _ => 0)] H := hP
  have hD : va_D A [oc_o h 11 [.int (nI 0), .ref q_1, .int (nI 0), .null, .int (nI 0), .int (nI 0), .int (nI 0), .null, .null, .int (nI 0), .int (nI 0), .null, .int (nI 0), .int (nI 0), .int (nI 0), .int (nI 0), .null, .null, .null, .null, .null, .null, .null, .null, .null, .null, .null, .null, .null, .int (nI 0), .null, .int (nI 0)], oc_i g q_1 1220 (fun _ => 0)] := hD
  refine lv_aload_n hx hb dd_MO_init_13 rfl (lv_at hl 0 rfl) ?_
  refine lv_sipush (v := nI 5000) hx hb dd_MO_init_14 (by decide) ?_
  refine xa_newI (k1 := 2) (k2 := 6220) hx hb (hts _ wa_int) hK hP hD hS hA (by decide) rfl rfl (Nat.le_of_ble_eq_true rfl) (Nat.le_of_ble_eq_true rfl) dd_MO_init_17 (fun q_2 H hP hD hS => ?_)
  have hP : va_P g.1 vwCl [oc_o h 11 [.int (nI 0), .ref q_1, .int (nI 0), .null, .int (nI 0), .int (nI 0), .int (nI 0), .null, .null, .int (nI 0), .int (nI 0), .null, .int (nI 0), .int (nI 0), .int (nI 0), .int (nI 0), .null, .null, .null, .null, .null, .null, .null, .null, .null, .null, .null, .null, .null, .int (nI 0), .null, .int (nI 0)], oc_i g q_1 1220 (fun _ => 0), oc_i g q_2 5000 (fun _ => 0)] H := hP
  have hD : va_D A [oc_o h 11 [.int (nI 0), .ref q_1, .int (nI 0), .null, .int (nI 0), .int (nI 0), .int (nI 0), .null, .null, .int (nI 0), .int (nI 0), .null, .int (nI 0), .int (nI 0), .int (nI 0), .int (nI 0), .null, .null, .null, .null, .null, .null, .null, .null, .null, .null, .null, .null, .null, .int (nI 0), .null, .int (nI 0)], oc_i g q_1 1220 (fun _ => 0), oc_i g q_2 5000 (fun _ => 0)] := hD
  refine pf_MO_13 hin hx hb hts hown hK hP hD hS 0 rfl rfl rfl (Nat.le_of_ble_eq_true rfl) dd_MO_init_19 (fun H locs hP hD hS => ?_)
  have hP : va_P g.1 vwCl [oc_o h 11 [.int (nI 0), .ref q_1, .int (nI 0), .ref q_2, .int (nI 0), .int (nI 0), .int (nI 0), .null, .null, .int (nI 0), .int (nI 0), .null, .int (nI 0), .int (nI 0), .int (nI 0), .int (nI 0), .null, .null, .null, .null, .null, .null, .null, .null, .null, .null, .null, .null, .null, .int (nI 0), .null, .int (nI 0)], oc_i g q_1 1220 (fun _ => 0), oc_i g q_2 5000 (fun _ => 0)] H := hP
  have hD : va_D A [oc_o h 11 [.int (nI 0), .ref q_1, .int (nI 0), .ref q_2, .int (nI 0), .int (nI 0), .int (nI 0), .null, .null, .int (nI 0), .int (nI 0), .null, .int (nI 0), .int (nI 0), .int (nI 0), .int (nI 0), .null, .null, .null, .null, .null, .null, .null, .null, .null, .null, .null, .null, .null, .int (nI 0), .null, .int (nI 0)], oc_i g q_1 1220 (fun _ => 0), oc_i g q_2 5000 (fun _ => 0)] := hD
  refine xw_sub (wr := [oc_o h 11 [.int (nI 0), .ref q_1, .int (nI 0), .ref q_2, .int (nI 0), .int (nI 0), .int (nI 0), .null, .null, .int (nI 0), .int (nI 0), .null, .int (nI 0), .int (nI 0), .int (nI 0), .int (nI 0), .null, .null, .null, .null, .null, .null, .null, .null, .null, .null, .null, .null, .null, .int (nI 0), .null, .int (nI 0)], oc_i g q_1 1220 (fun _ => 0)]) hP hD [0, 1] (by decide) rfl (fun hP hD => ?_)
  refine lv_aload_n hx hb dd_MO_init_22 rfl (lv_at hl 0 rfl) ?_
  refine lv_bipush (v := nI 25) hx hb dd_MO_init_23 (by decide) ?_
  refine xa_newI (k1 := 3) (k2 := 6245) hx hb (hts _ wa_int) hK hP hD hS hA (by decide) rfl rfl (Nat.le_of_ble_eq_true rfl) (Nat.le_of_ble_eq_true rfl) dd_MO_init_25 (fun q_3 H hP hD hS => ?_)
  have hP : va_P g.1 vwCl [oc_o h 11 [.int (nI 0), .ref q_1, .int (nI 0), .ref q_2, .int (nI 0), .int (nI 0), .int (nI 0), .null, .null, .int (nI 0), .int (nI 0), .null, .int (nI 0), .int (nI 0), .int (nI 0), .int (nI 0), .null, .null, .null, .null, .null, .null, .null, .null, .null, .null, .null, .null, .null, .int (nI 0), .null, .int (nI 0)], oc_i g q_1 1220 (fun _ => 0), oc_i g q_3 25 (fun _ => 0)] H := hP
  have hD : va_D A [oc_o h 11 [.int (nI 0), .ref q_1, .int (nI 0), .ref q_2, .int (nI 0), .int (nI 0), .int (nI 0), .null, .null, .int (nI 0), .int (nI 0), .null, .int (nI 0), .int (nI 0), .int (nI 0), .int (nI 0), .null, .null, .null, .null, .null, .null, .null, .null, .null, .null, .null, .null, .null, .int (nI 0), .null, .int (nI 0)], oc_i g q_1 1220 (fun _ => 0), oc_i g q_3 25 (fun _ => 0)] := hD
  refine lv_dup hx hb dd_MO_init_27 rfl ?_
  refine lv_iconst (v := nI 0) hx hb dd_MO_init_28 (by decide) ?_
  refine lv_bipush (v := nI 48) hx hb dd_MO_init_29 (by decide) ?_
  refine xa_st hx hb hK hP hD hS 2 rfl (j := 0) (by omega) (by omega) dd_MO_init_31 (fun f_4 H locs hP hD hS => ?_)
  have hP : va_P g.1 vwCl [oc_o h 11 [.int (nI 0), .ref q_1, .int (nI 0), .ref q_2, .int (nI 0), .int (nI 0), .int (nI 0), .null, .null, .int (nI 0), .int (nI 0), .null, .int (nI 0), .int (nI 0), .int (nI 0), .int (nI 0), .null, .null, .null, .null, .null, .null, .null, .null, .null, .null, .null, .null, .null, .int (nI 0), .null, .int (nI 0)], oc_i g q_1 1220 (fun _ => 0), oc_i g q_3 25 f_4] H := hP
  have hD : va_D A [oc_o h 11 [.int (nI 0), .ref q_1, .int (nI 0), .ref q_2, .int (nI 0), .int (nI 0), .int (nI 0), .null, .null, .int (nI 0), .int (nI 0), .null, .int (nI 0), .int (nI 0), .int (nI 0), .int (nI 0), .null, .null, .null, .null, .null, .null, .null, .null, .null, .null, .null, .null, .null, .int (nI 0), .null, .int (nI 0)], oc_i g q_1 1220 (fun _ => 0), oc_i g q_3 25 f_4] := hD
  refine lv_dup hx hb dd_MO_init_32 rfl ?_
  refine lv_iconst (v := nI 1) hx hb dd_MO_init_33 (by decide) ?_
  refine lv_bipush (v := nI 49) hx hb dd_MO_init_34 (by decide) ?_
  refine xa_st hx hb hK hP hD hS 2 rfl (j := 1) (by omega) (by omega) dd_MO_init_36 (fun f_5 H locs hP hD hS => ?_)
  have hP : va_P g.1 vwCl [oc_o h 11 [.int (nI 0), .ref q_1, .int (nI 0), .ref q_2, .int (nI 0), .int (nI 0), .int (nI 0), .null, .null, .int (nI 0), .int (nI 0), .null, .int (nI 0), .int (nI 0), .int (nI 0), .int (nI 0), .null, .null, .null, .null, .null, .null, .null, .null, .null, .null, .null, .null, .null, .int (nI 0), .null, .int (nI 0)], oc_i g q_1 1220 (fun _ => 0), oc_i g q_3 25 f_5] H := hP
  have hD : va_D A [oc_o h 11 [.int (nI 0), .ref q_1, .int (nI 0), .ref q_2, .int (nI 0), .int (nI 0), .int (nI 0), .null, .null, .int (nI 0), .int (nI 0), .null, .int (nI 0), .int (nI 0), .int (nI 0), .int (nI 0), .null, .null, .null, .null, .null, .null, .null, .null, .null, .null, .null, .null, .null, .int (nI 0), .null, .int (nI 0)], oc_i g q_1 1220 (fun _ => 0), oc_i g q_3 25 f_5] := hD
  refine lv_dup hx hb dd_MO_init_37 rfl ?_
  refine lv_iconst (v := nI 2) hx hb dd_MO_init_38 (by decide) ?_
  refine lv_bipush (v := nI 50) hx hb dd_MO_init_39 (by decide) ?_
  refine xa_st hx hb hK hP hD hS 2 rfl (j := 2) (by omega) (by omega) dd_MO_init_41 (fun f_6 H locs hP hD hS => ?_)
  have hP : va_P g.1 vwCl [oc_o h 11 [.int (nI 0), .ref q_1, .int (nI 0), .ref q_2, .int (nI 0), .int (nI 0), .int (nI 0), .null, .null, .int (nI 0), .int (nI 0), .null, .int (nI 0), .int (nI 0), .int (nI 0), .int (nI 0), .null, .null, .null, .null, .null, .null, .null, .null, .null, .null, .null, .null, .null, .int (nI 0), .null, .int (nI 0)], oc_i g q_1 1220 (fun _ => 0), oc_i g q_3 25 f_6] H := hP
  have hD : va_D A [oc_o h 11 [.int (nI 0), .ref q_1, .int (nI 0), .ref q_2, .int (nI 0), .int (nI 0), .int (nI 0), .null, .null, .int (nI 0), .int (nI 0), .null, .int (nI 0), .int (nI 0), .int (nI 0), .int (nI 0), .null, .null, .null, .null, .null, .null, .null, .null, .null, .null, .null, .null, .null, .int (nI 0), .null, .int (nI 0)], oc_i g q_1 1220 (fun _ => 0), oc_i g q_3 25 f_6] := hD
  refine lv_dup hx hb dd_MO_init_42 rfl ?_
  refine lv_iconst (v := nI 3) hx hb dd_MO_init_43 (by decide) ?_
  refine lv_bipush (v := nI 51) hx hb dd_MO_init_44 (by decide) ?_
  refine xa_st hx hb hK hP hD hS 2 rfl (j := 3) (by omega) (by omega) dd_MO_init_46 (fun f_7 H locs hP hD hS => ?_)
  have hP : va_P g.1 vwCl [oc_o h 11 [.int (nI 0), .ref q_1, .int (nI 0), .ref q_2, .int (nI 0), .int (nI 0), .int (nI 0), .null, .null, .int (nI 0), .int (nI 0), .null, .int (nI 0), .int (nI 0), .int (nI 0), .int (nI 0), .null, .null, .null, .null, .null, .null, .null, .null, .null, .null, .null, .null, .null, .int (nI 0), .null, .int (nI 0)], oc_i g q_1 1220 (fun _ => 0), oc_i g q_3 25 f_7] H := hP
  have hD : va_D A [oc_o h 11 [.int (nI 0), .ref q_1, .int (nI 0), .ref q_2, .int (nI 0), .int (nI 0), .int (nI 0), .null, .null, .int (nI 0), .int (nI 0), .null, .int (nI 0), .int (nI 0), .int (nI 0), .int (nI 0), .null, .null, .null, .null, .null, .null, .null, .null, .null, .null, .null, .null, .null, .int (nI 0), .null, .int (nI 0)], oc_i g q_1 1220 (fun _ => 0), oc_i g q_3 25 f_7] := hD
  refine lv_dup hx hb dd_MO_init_47 rfl ?_
  refine lv_iconst (v := nI 4) hx hb dd_MO_init_48 (by decide) ?_
  refine lv_bipush (v := nI 52) hx hb dd_MO_init_49 (by decide) ?_
  refine xa_st hx hb hK hP hD hS 2 rfl (j := 4) (by omega) (by omega) dd_MO_init_51 (fun f_8 H locs hP hD hS => ?_)
  have hP : va_P g.1 vwCl [oc_o h 11 [.int (nI 0), .ref q_1, .int (nI 0), .ref q_2, .int (nI 0), .int (nI 0), .int (nI 0), .null, .null, .int (nI 0), .int (nI 0), .null, .int (nI 0), .int (nI 0), .int (nI 0), .int (nI 0), .null, .null, .null, .null, .null, .null, .null, .null, .null, .null, .null, .null, .null, .int (nI 0), .null, .int (nI 0)], oc_i g q_1 1220 (fun _ => 0), oc_i g q_3 25 f_8] H := hP
  have hD : va_D A [oc_o h 11 [.int (nI 0), .ref q_1, .int (nI 0), .ref q_2, .int (nI 0), .int (nI 0), .int (nI 0), .null, .null, .int (nI 0), .int (nI 0), .null, .int (nI 0), .int (nI 0), .int (nI 0), .int (nI 0), .null, .null, .null, .null, .null, .null, .null, .null, .null, .null, .null, .null, .null, .int (nI 0), .null, .int (nI 0)], oc_i g q_1 1220 (fun _ => 0), oc_i g q_3 25 f_8] := hD
  refine lv_dup hx hb dd_MO_init_52 rfl ?_
  refine lv_iconst (v := nI 5) hx hb dd_MO_init_53 (by decide) ?_
  refine lv_bipush (v := nI 53) hx hb dd_MO_init_54 (by decide) ?_
  refine xa_st hx hb hK hP hD hS 2 rfl (j := 5) (by omega) (by omega) dd_MO_init_56 (fun f_9 H locs hP hD hS => ?_)
  have hP : va_P g.1 vwCl [oc_o h 11 [.int (nI 0), .ref q_1, .int (nI 0), .ref q_2, .int (nI 0), .int (nI 0), .int (nI 0), .null, .null, .int (nI 0), .int (nI 0), .null, .int (nI 0), .int (nI 0), .int (nI 0), .int (nI 0), .null, .null, .null, .null, .null, .null, .null, .null, .null, .null, .null, .null, .null, .int (nI 0), .null, .int (nI 0)], oc_i g q_1 1220 (fun _ => 0), oc_i g q_3 25 f_9] H := hP
  have hD : va_D A [oc_o h 11 [.int (nI 0), .ref q_1, .int (nI 0), .ref q_2, .int (nI 0), .int (nI 0), .int (nI 0), .null, .null, .int (nI 0), .int (nI 0), .null, .int (nI 0), .int (nI 0), .int (nI 0), .int (nI 0), .null, .null, .null, .null, .null, .null, .null, .null, .null, .null, .null, .null, .null, .int (nI 0), .null, .int (nI 0)], oc_i g q_1 1220 (fun _ => 0), oc_i g q_3 25 f_9] := hD
  refine lv_dup hx hb dd_MO_init_57 rfl ?_
  refine lv_bipush (v := nI 6) hx hb dd_MO_init_58 (by decide) ?_
  refine lv_bipush (v := nI 54) hx hb dd_MO_init_60 (by decide) ?_
  refine xa_st hx hb hK hP hD hS 2 rfl (j := 6) (by omega) (by omega) dd_MO_init_62 (fun f_10 H locs hP hD hS => ?_)
  have hP : va_P g.1 vwCl [oc_o h 11 [.int (nI 0), .ref q_1, .int (nI 0), .ref q_2, .int (nI 0), .int (nI 0), .int (nI 0), .null, .null, .int (nI 0), .int (nI 0), .null, .int (nI 0), .int (nI 0), .int (nI 0), .int (nI 0), .null, .null, .null, .null, .null, .null, .null, .null, .null, .null, .null, .null, .null, .int (nI 0), .null, .int (nI 0)], oc_i g q_1 1220 (fun _ => 0), oc_i g q_3 25 f_10] H := hP
  have hD : va_D A [oc_o h 11 [.int (nI 0), .ref q_1, .int (nI 0), .ref q_2, .int (nI 0), .int (nI 0), .int (nI 0), .null, .null, .int (nI 0), .int (nI 0), .null, .int (nI 0), .int (nI 0), .int (nI 0), .int (nI 0), .null, .null, .null, .null, .null, .null, .null, .null, .null, .null, .null, .null, .null, .int (nI 0), .null, .int (nI 0)], oc_i g q_1 1220 (fun _ => 0), oc_i g q_3 25 f_10] := hD
  refine lv_dup hx hb dd_MO_init_63 rfl ?_
  refine lv_bipush (v := nI 7) hx hb dd_MO_init_64 (by decide) ?_
  refine lv_bipush (v := nI 55) hx hb dd_MO_init_66 (by decide) ?_
  refine xa_st hx hb hK hP hD hS 2 rfl (j := 7) (by omega) (by omega) dd_MO_init_68 (fun f_11 H locs hP hD hS => ?_)
  have hP : va_P g.1 vwCl [oc_o h 11 [.int (nI 0), .ref q_1, .int (nI 0), .ref q_2, .int (nI 0), .int (nI 0), .int (nI 0), .null, .null, .int (nI 0), .int (nI 0), .null, .int (nI 0), .int (nI 0), .int (nI 0), .int (nI 0), .null, .null, .null, .null, .null, .null, .null, .null, .null, .null, .null, .null, .null, .int (nI 0), .null, .int (nI 0)], oc_i g q_1 1220 (fun _ => 0), oc_i g q_3 25 f_11] H := hP
  have hD : va_D A [oc_o h 11 [.int (nI 0), .ref q_1, .int (nI 0), .ref q_2, .int (nI 0), .int (nI 0), .int (nI 0), .null, .null, .int (nI 0), .int (nI 0), .null, .int (nI 0), .int (nI 0), .int (nI 0), .int (nI 0), .null, .null, .null, .null, .null, .null, .null, .null, .null, .null, .null, .null, .null, .int (nI 0), .null, .int (nI 0)], oc_i g q_1 1220 (fun _ => 0), oc_i g q_3 25 f_11] := hD
  refine lv_dup hx hb dd_MO_init_69 rfl ?_
  refine lv_bipush (v := nI 8) hx hb dd_MO_init_70 (by decide) ?_
  refine lv_bipush (v := nI 56) hx hb dd_MO_init_72 (by decide) ?_
  refine xa_st hx hb hK hP hD hS 2 rfl (j := 8) (by omega) (by omega) dd_MO_init_74 (fun f_12 H locs hP hD hS => ?_)
  have hP : va_P g.1 vwCl [oc_o h 11 [.int (nI 0), .ref q_1, .int (nI 0), .ref q_2, .int (nI 0), .int (nI 0), .int (nI 0), .null, .null, .int (nI 0), .int (nI 0), .null, .int (nI 0), .int (nI 0), .int (nI 0), .int (nI 0), .null, .null, .null, .null, .null, .null, .null, .null, .null, .null, .null, .null, .null, .int (nI 0), .null, .int (nI 0)], oc_i g q_1 1220 (fun _ => 0), oc_i g q_3 25 f_12] H := hP
  have hD : va_D A [oc_o h 11 [.int (nI 0), .ref q_1, .int (nI 0), .ref q_2, .int (nI 0), .int (nI 0), .int (nI 0), .null, .null, .int (nI 0), .int (nI 0), .null, .int (nI 0), .int (nI 0), .int (nI 0), .int (nI 0), .null, .null, .null, .null, .null, .null, .null, .null, .null, .null, .null, .null, .null, .int (nI 0), .null, .int (nI 0)], oc_i g q_1 1220 (fun _ => 0), oc_i g q_3 25 f_12] := hD
  refine lv_dup hx hb dd_MO_init_75 rfl ?_
  refine lv_bipush (v := nI 9) hx hb dd_MO_init_76 (by decide) ?_
  refine lv_bipush (v := nI 57) hx hb dd_MO_init_78 (by decide) ?_
  refine xa_st hx hb hK hP hD hS 2 rfl (j := 9) (by omega) (by omega) dd_MO_init_80 (fun f_13 H locs hP hD hS => ?_)
  have hP : va_P g.1 vwCl [oc_o h 11 [.int (nI 0), .ref q_1, .int (nI 0), .ref q_2, .int (nI 0), .int (nI 0), .int (nI 0), .null, .null, .int (nI 0), .int (nI 0), .null, .int (nI 0), .int (nI 0), .int (nI 0), .int (nI 0), .null, .null, .null, .null, .null, .null, .null, .null, .null, .null, .null, .null, .null, .int (nI 0), .null, .int (nI 0)], oc_i g q_1 1220 (fun _ => 0), oc_i g q_3 25 f_13] H := hP
  have hD : va_D A [oc_o h 11 [.int (nI 0), .ref q_1, .int (nI 0), .ref q_2, .int (nI 0), .int (nI 0), .int (nI 0), .null, .null, .int (nI 0), .int (nI 0), .null, .int (nI 0), .int (nI 0), .int (nI 0), .int (nI 0), .null, .null, .null, .null, .null, .null, .null, .null, .null, .null, .null, .null, .null, .int (nI 0), .null, .int (nI 0)], oc_i g q_1 1220 (fun _ => 0), oc_i g q_3 25 f_13] := hD
  refine lv_dup hx hb dd_MO_init_81 rfl ?_
  refine lv_bipush (v := nI 10) hx hb dd_MO_init_82 (by decide) ?_
  refine lv_bipush (v := nI 38) hx hb dd_MO_init_84 (by decide) ?_
  refine xa_st hx hb hK hP hD hS 2 rfl (j := 10) (by omega) (by omega) dd_MO_init_86 (fun f_14 H locs hP hD hS => ?_)
  have hP : va_P g.1 vwCl [oc_o h 11 [.int (nI 0), .ref q_1, .int (nI 0), .ref q_2, .int (nI 0), .int (nI 0), .int (nI 0), .null, .null, .int (nI 0), .int (nI 0), .null, .int (nI 0), .int (nI 0), .int (nI 0), .int (nI 0), .null, .null, .null, .null, .null, .null, .null, .null, .null, .null, .null, .null, .null, .int (nI 0), .null, .int (nI 0)], oc_i g q_1 1220 (fun _ => 0), oc_i g q_3 25 f_14] H := hP
  have hD : va_D A [oc_o h 11 [.int (nI 0), .ref q_1, .int (nI 0), .ref q_2, .int (nI 0), .int (nI 0), .int (nI 0), .null, .null, .int (nI 0), .int (nI 0), .null, .int (nI 0), .int (nI 0), .int (nI 0), .int (nI 0), .null, .null, .null, .null, .null, .null, .null, .null, .null, .null, .null, .null, .null, .int (nI 0), .null, .int (nI 0)], oc_i g q_1 1220 (fun _ => 0), oc_i g q_3 25 f_14] := hD
  refine lv_dup hx hb dd_MO_init_87 rfl ?_
  refine lv_bipush (v := nI 11) hx hb dd_MO_init_88 (by decide) ?_
  refine lv_bipush (v := nI 13) hx hb dd_MO_init_90 (by decide) ?_
  refine xa_st hx hb hK hP hD hS 2 rfl (j := 11) (by omega) (by omega) dd_MO_init_92 (fun f_15 H locs hP hD hS => ?_)
  have hP : va_P g.1 vwCl [oc_o h 11 [.int (nI 0), .ref q_1, .int (nI 0), .ref q_2, .int (nI 0), .int (nI 0), .int (nI 0), .null, .null, .int (nI 0), .int (nI 0), .null, .int (nI 0), .int (nI 0), .int (nI 0), .int (nI 0), .null, .null, .null, .null, .null, .null, .null, .null, .null, .null, .null, .null, .null, .int (nI 0), .null, .int (nI 0)], oc_i g q_1 1220 (fun _ => 0), oc_i g q_3 25 f_15] H := hP
  have hD : va_D A [oc_o h 11 [.int (nI 0), .ref q_1, .int (nI 0), .ref q_2, .int (nI 0), .int (nI 0), .int (nI 0), .null, .null, .int (nI 0), .int (nI 0), .null, .int (nI 0), .int (nI 0), .int (nI 0), .int (nI 0), .null, .null, .null, .null, .null, .null, .null, .null, .null, .null, .null, .null, .null, .int (nI 0), .null, .int (nI 0)], oc_i g q_1 1220 (fun _ => 0), oc_i g q_3 25 f_15] := hD
  refine lv_dup hx hb dd_MO_init_93 rfl ?_
  refine lv_bipush (v := nI 12) hx hb dd_MO_init_94 (by decide) ?_
  refine lv_bipush (v := nI 9) hx hb dd_MO_init_96 (by decide) ?_
  refine xa_st hx hb hK hP hD hS 2 rfl (j := 12) (by omega) (by omega) dd_MO_init_98 (fun f_16 H locs hP hD hS => ?_)
  have hP : va_P g.1 vwCl [oc_o h 11 [.int (nI 0), .ref q_1, .int (nI 0), .ref q_2, .int (nI 0), .int (nI 0), .int (nI 0), .null, .null, .int (nI 0), .int (nI 0), .null, .int (nI 0), .int (nI 0), .int (nI 0), .int (nI 0), .null, .null, .null, .null, .null, .null, .null, .null, .null, .null, .null, .null, .null, .int (nI 0), .null, .int (nI 0)], oc_i g q_1 1220 (fun _ => 0), oc_i g q_3 25 f_16] H := hP
  have hD : va_D A [oc_o h 11 [.int (nI 0), .ref q_1, .int (nI 0), .ref q_2, .int (nI 0), .int (nI 0), .int (nI 0), .null, .null, .int (nI 0), .int (nI 0), .null, .int (nI 0), .int (nI 0), .int (nI 0), .int (nI 0), .null, .null, .null, .null, .null, .null, .null, .null, .null, .null, .null, .null, .null, .int (nI 0), .null, .int (nI 0)], oc_i g q_1 1220 (fun _ => 0), oc_i g q_3 25 f_16] := hD
  refine lv_dup hx hb dd_MO_init_99 rfl ?_
  refine lv_bipush (v := nI 13) hx hb dd_MO_init_100 (by decide) ?_
  refine lv_bipush (v := nI 44) hx hb dd_MO_init_102 (by decide) ?_
  refine xa_st hx hb hK hP hD hS 2 rfl (j := 13) (by omega) (by omega) dd_MO_init_104 (fun f_17 H locs hP hD hS => ?_)
  have hP : va_P g.1 vwCl [oc_o h 11 [.int (nI 0), .ref q_1, .int (nI 0), .ref q_2, .int (nI 0), .int (nI 0), .int (nI 0), .null, .null, .int (nI 0), .int (nI 0), .null, .int (nI 0), .int (nI 0), .int (nI 0), .int (nI 0), .null, .null, .null, .null, .null, .null, .null, .null, .null, .null, .null, .null, .null, .int (nI 0), .null, .int (nI 0)], oc_i g q_1 1220 (fun _ => 0), oc_i g q_3 25 f_17] H := hP
  have hD : va_D A [oc_o h 11 [.int (nI 0), .ref q_1, .int (nI 0), .ref q_2, .int (nI 0), .int (nI 0), .int (nI 0), .null, .null, .int (nI 0), .int (nI 0), .null, .int (nI 0), .int (nI 0), .int (nI 0), .int (nI 0), .null, .null, .null, .null, .null, .null, .null, .null, .null, .null, .null, .null, .null, .int (nI 0), .null, .int (nI 0)], oc_i g q_1 1220 (fun _ => 0), oc_i g q_3 25 f_17] := hD
  refine lv_dup hx hb dd_MO_init_105 rfl ?_
  refine lv_bipush (v := nI 14) hx hb dd_MO_init_106 (by decide) ?_
  refine lv_bipush (v := nI 58) hx hb dd_MO_init_108 (by decide) ?_
  refine xa_st hx hb hK hP hD hS 2 rfl (j := 14) (by omega) (by omega) dd_MO_init_110 (fun f_18 H locs hP hD hS => ?_)
  have hP : va_P g.1 vwCl [oc_o h 11 [.int (nI 0), .ref q_1, .int (nI 0), .ref q_2, .int (nI 0), .int (nI 0), .int (nI 0), .null, .null, .int (nI 0), .int (nI 0), .null, .int (nI 0), .int (nI 0), .int (nI 0), .int (nI 0), .null, .null, .null, .null, .null, .null, .null, .null, .null, .null, .null, .null, .null, .int (nI 0), .null, .int (nI 0)], oc_i g q_1 1220 (fun _ => 0), oc_i g q_3 25 f_18] H := hP
  have hD : va_D A [oc_o h 11 [.int (nI 0), .ref q_1, .int (nI 0), .ref q_2, .int (nI 0), .int (nI 0), .int (nI 0), .null, .null, .int (nI 0), .int (nI 0), .null, .int (nI 0), .int (nI 0), .int (nI 0), .int (nI 0), .null, .null, .null, .null, .null, .null, .null, .null, .null, .null, .null, .null, .null, .int (nI 0), .null, .int (nI 0)], oc_i g q_1 1220 (fun _ => 0), oc_i g q_3 25 f_18] := hD
  refine lv_dup hx hb dd_MO_init_111 rfl ?_
  refine lv_bipush (v := nI 15) hx hb dd_MO_init_112 (by decide) ?_
  refine lv_bipush (v := nI 35) hx hb dd_MO_init_114 (by decide) ?_
  refine xa_st hx hb hK hP hD hS 2 rfl (j := 15) (by omega) (by omega) dd_MO_init_116 (fun f_19 H locs hP hD hS => ?_)
  have hP : va_P g.1 vwCl [oc_o h 11 [.int (nI 0), .ref q_1, .int (nI 0), .ref q_2, .int (nI 0), .int (nI 0), .int (nI 0), .null, .null, .int (nI 0), .int (nI 0), .null, .int (nI 0), .int (nI 0), .int (nI 0), .int (nI 0), .null, .null, .null, .null, .null, .null, .null, .null, .null, .null, .null, .null, .null, .int (nI 0), .null, .int (nI 0)], oc_i g q_1 1220 (fun _ => 0), oc_i g q_3 25 f_19] H := hP
  have hD : va_D A [oc_o h 11 [.int (nI 0), .ref q_1, .int (nI 0), .ref q_2, .int (nI 0), .int (nI 0), .int (nI 0), .null, .null, .int (nI 0), .int (nI 0), .null, .int (nI 0), .int (nI 0), .int (nI 0), .int (nI 0), .null, .null, .null, .null, .null, .null, .null, .null, .null, .null, .null, .null, .null, .int (nI 0), .null, .int (nI 0)], oc_i g q_1 1220 (fun _ => 0), oc_i g q_3 25 f_19] := hD
  refine lv_dup hx hb dd_MO_init_117 rfl ?_
  refine lv_bipush (v := nI 16) hx hb dd_MO_init_118 (by decide) ?_
  refine lv_bipush (v := nI 45) hx hb dd_MO_init_120 (by decide) ?_
  refine xa_st hx hb hK hP hD hS 2 rfl (j := 16) (by omega) (by omega) dd_MO_init_122 (fun f_20 H locs hP hD hS => ?_)
  have hP : va_P g.1 vwCl [oc_o h 11 [.int (nI 0), .ref q_1, .int (nI 0), .ref q_2, .int (nI 0), .int (nI 0), .int (nI 0), .null, .null, .int (nI 0), .int (nI 0), .null, .int (nI 0), .int (nI 0), .int (nI 0), .int (nI 0), .null, .null, .null, .null, .null, .null, .null, .null, .null, .null, .null, .null, .null, .int (nI 0), .null, .int (nI 0)], oc_i g q_1 1220 (fun _ => 0), oc_i g q_3 25 f_20] H := hP
  have hD : va_D A [oc_o h 11 [.int (nI 0), .ref q_1, .int (nI 0), .ref q_2, .int (nI 0), .int (nI 0), .int (nI 0), .null, .null, .int (nI 0), .int (nI 0), .null, .int (nI 0), .int (nI 0), .int (nI 0), .int (nI 0), .null, .null, .null, .null, .null, .null, .null, .null, .null, .null, .null, .null, .null, .int (nI 0), .null, .int (nI 0)], oc_i g q_1 1220 (fun _ => 0), oc_i g q_3 25 f_20] := hD
  refine lv_dup hx hb dd_MO_init_123 rfl ?_
  refine lv_bipush (v := nI 17) hx hb dd_MO_init_124 (by decide) ?_
  refine lv_bipush (v := nI 46) hx hb dd_MO_init_126 (by decide) ?_
  refine xa_st hx hb hK hP hD hS 2 rfl (j := 17) (by omega) (by omega) dd_MO_init_128 (fun f_21 H locs hP hD hS => ?_)
  have hP : va_P g.1 vwCl [oc_o h 11 [.int (nI 0), .ref q_1, .int (nI 0), .ref q_2, .int (nI 0), .int (nI 0), .int (nI 0), .null, .null, .int (nI 0), .int (nI 0), .null, .int (nI 0), .int (nI 0), .int (nI 0), .int (nI 0), .null, .null, .null, .null, .null, .null, .null, .null, .null, .null, .null, .null, .null, .int (nI 0), .null, .int (nI 0)], oc_i g q_1 1220 (fun _ => 0), oc_i g q_3 25 f_21] H := hP
  have hD : va_D A [oc_o h 11 [.int (nI 0), .ref q_1, .int (nI 0), .ref q_2, .int (nI 0), .int (nI 0), .int (nI 0), .null, .null, .int (nI 0), .int (nI 0), .null, .int (nI 0), .int (nI 0), .int (nI 0), .int (nI 0), .null, .null, .null, .null, .null, .null, .null, .null, .null, .null, .null, .null, .null, .int (nI 0), .null, .int (nI 0)], oc_i g q_1 1220 (fun _ => 0), oc_i g q_3 25 f_21] := hD
  refine lv_dup hx hb dd_MO_init_129 rfl ?_
  refine lv_bipush (v := nI 18) hx hb dd_MO_init_130 (by decide) ?_
  refine lv_bipush (v := nI 36) hx hb dd_MO_init_132 (by decide) ?_
  refine xa_st hx hb hK hP hD hS 2 rfl (j := 18) (by omega) (by omega) dd_MO_init_134 (fun f_22 H locs hP hD hS => ?_)
  have hP : va_P g.1 vwCl [oc_o h 11 [.int (nI 0), .ref q_1, .int (nI 0), .ref q_2, .int (nI 0), .int (nI 0), .int (nI 0), .null, .null, .int (nI 0), .int (nI 0), .null, .int (nI 0), .int (nI 0), .int (nI 0), .int (nI 0), .null, .null, .null, .null, .null, .null, .null, .null, .null, .null, .null, .null, .null, .int (nI 0), .null, .int (nI 0)], oc_i g q_1 1220 (fun _ => 0), oc_i g q_3 25 f_22] H := hP
  have hD : va_D A [oc_o h 11 [.int (nI 0), .ref q_1, .int (nI 0), .ref q_2, .int (nI 0), .int (nI 0), .int (nI 0), .null, .null, .int (nI 0), .int (nI 0), .null, .int (nI 0), .int (nI 0), .int (nI 0), .int (nI 0), .null, .null, .null, .null, .null, .null, .null, .null, .null, .null, .null, .null, .null, .int (nI 0), .null, .int (nI 0)], oc_i g q_1 1220 (fun _ => 0), oc_i g q_3 25 f_22] := hD
  refine lv_dup hx hb dd_MO_init_135 rfl ?_
  refine lv_bipush (v := nI 19) hx hb dd_MO_init_136 (by decide) ?_
  refine lv_bipush (v := nI 47) hx hb dd_MO_init_138 (by decide) ?_
  refine xa_st hx hb hK hP hD hS 2 rfl (j := 19) (by omega) (by omega) dd_MO_init_140 (fun f_23 H locs hP hD hS => ?_)
  have hP : va_P g.1 vwCl [oc_o h 11 [.int (nI 0), .ref q_1, .int (nI 0), .ref q_2, .int (nI 0), .int (nI 0), .int (nI 0), .null, .null, .int (nI 0), .int (nI 0), .null, .int (nI 0), .int (nI 0), .int (nI 0), .int (nI 0), .null, .null, .null, .null, .null, .null, .null, .null, .null, .null, .null, .null, .null, .int (nI 0), .null, .int (nI 0)], oc_i g q_1 1220 (fun _ => 0), oc_i g q_3 25 f_23] H := hP
  have hD : va_D A [oc_o h 11 [.int (nI 0), .ref q_1, .int (nI 0), .ref q_2, .int (nI 0), .int (nI 0), .int (nI 0), .null, .null, .int (nI 0), .int (nI 0), .null, .int (nI 0), .int (nI 0), .int (nI 0), .int (nI 0), .null, .null, .null, .null, .null, .null, .null, .null, .null, .null, .null, .null, .null, .int (nI 0), .null, .int (nI 0)], oc_i g q_1 1220 (fun _ => 0), oc_i g q_3 25 f_23] := hD
  refine lv_dup hx hb dd_MO_init_141 rfl ?_
  refine lv_bipush (v := nI 20) hx hb dd_MO_init_142 (by decide) ?_
  refine lv_bipush (v := nI 43) hx hb dd_MO_init_144 (by decide) ?_
  refine xa_st hx hb hK hP hD hS 2 rfl (j := 20) (by omega) (by omega) dd_MO_init_146 (fun f_24 H locs hP hD hS => ?_)
  have hP : va_P g.1 vwCl [oc_o h 11 [.int (nI 0), .ref q_1, .int (nI 0), .ref q_2, .int (nI 0), .int (nI 0), .int (nI 0), .null, .null, .int (nI 0), .int (nI 0), .null, .int (nI 0), .int (nI 0), .int (nI 0), .int (nI 0), .null, .null, .null, .null, .null, .null, .null, .null, .null, .null, .null, .null, .null, .int (nI 0), .null, .int (nI 0)], oc_i g q_1 1220 (fun _ => 0), oc_i g q_3 25 f_24] H := hP
  have hD : va_D A [oc_o h 11 [.int (nI 0), .ref q_1, .int (nI 0), .ref q_2, .int (nI 0), .int (nI 0), .int (nI 0), .null, .null, .int (nI 0), .int (nI 0), .null, .int (nI 0), .int (nI 0), .int (nI 0), .int (nI 0), .null, .null, .null, .null, .null, .null, .null, .null, .null, .null, .null, .null, .null, .int (nI 0), .null, .int (nI 0)], oc_i g q_1 1220 (fun _ => 0), oc_i g q_3 25 f_24] := hD
  refine lv_dup hx hb dd_MO_init_147 rfl ?_
  refine lv_bipush (v := nI 21) hx hb dd_MO_init_148 (by decide) ?_
  refine lv_bipush (v := nI 37) hx hb dd_MO_init_150 (by decide) ?_
  refine xa_st hx hb hK hP hD hS 2 rfl (j := 21) (by omega) (by omega) dd_MO_init_152 (fun f_25 H locs hP hD hS => ?_)
  have hP : va_P g.1 vwCl [oc_o h 11 [.int (nI 0), .ref q_1, .int (nI 0), .ref q_2, .int (nI 0), .int (nI 0), .int (nI 0), .null, .null, .int (nI 0), .int (nI 0), .null, .int (nI 0), .int (nI 0), .int (nI 0), .int (nI 0), .null, .null, .null, .null, .null, .null, .null, .null, .null, .null, .null, .null, .null, .int (nI 0), .null, .int (nI 0)], oc_i g q_1 1220 (fun _ => 0), oc_i g q_3 25 f_25] H := hP
  have hD : va_D A [oc_o h 11 [.int (nI 0), .ref q_1, .int (nI 0), .ref q_2, .int (nI 0), .int (nI 0), .int (nI 0), .null, .null, .int (nI 0), .int (nI 0), .null, .int (nI 0), .int (nI 0), .int (nI 0), .int (nI 0), .null, .null, .null, .null, .null, .null, .null, .null, .null, .null, .null, .null, .null, .int (nI 0), .null, .int (nI 0)], oc_i g q_1 1220 (fun _ => 0), oc_i g q_3 25 f_25] := hD
  refine lv_dup hx hb dd_MO_init_153 rfl ?_
  refine lv_bipush (v := nI 22) hx hb dd_MO_init_154 (by decide) ?_
  refine lv_bipush (v := nI 42) hx hb dd_MO_init_156 (by decide) ?_
  refine xa_st hx hb hK hP hD hS 2 rfl (j := 22) (by omega) (by omega) dd_MO_init_158 (fun f_26 H locs hP hD hS => ?_)
  have hP : va_P g.1 vwCl [oc_o h 11 [.int (nI 0), .ref q_1, .int (nI 0), .ref q_2, .int (nI 0), .int (nI 0), .int (nI 0), .null, .null, .int (nI 0), .int (nI 0), .null, .int (nI 0), .int (nI 0), .int (nI 0), .int (nI 0), .null, .null, .null, .null, .null, .null, .null, .null, .null, .null, .null, .null, .null, .int (nI 0), .null, .int (nI 0)], oc_i g q_1 1220 (fun _ => 0), oc_i g q_3 25 f_26] H := hP
  have hD : va_D A [oc_o h 11 [.int (nI 0), .ref q_1, .int (nI 0), .ref q_2, .int (nI 0), .int (nI 0), .int (nI 0), .null, .null, .int (nI 0), .int (nI 0), .null, .int (nI 0), .int (nI 0), .int (nI 0), .int (nI 0), .null, .null, .null, .null, .null, .null, .null, .null, .null, .null, .null, .null, .null, .int (nI 0), .null, .int (nI 0)], oc_i g q_1 1220 (fun _ => 0), oc_i g q_3 25 f_26] := hD
  refine lv_dup hx hb dd_MO_init_159 rfl ?_
  refine lv_bipush (v := nI 23) hx hb dd_MO_init_160 (by decide) ?_
  refine lv_bipush (v := nI 61) hx hb dd_MO_init_162 (by decide) ?_
  refine xa_st hx hb hK hP hD hS 2 rfl (j := 23) (by omega) (by omega) dd_MO_init_164 (fun f_27 H locs hP hD hS => ?_)
  have hP : va_P g.1 vwCl [oc_o h 11 [.int (nI 0), .ref q_1, .int (nI 0), .ref q_2, .int (nI 0), .int (nI 0), .int (nI 0), .null, .null, .int (nI 0), .int (nI 0), .null, .int (nI 0), .int (nI 0), .int (nI 0), .int (nI 0), .null, .null, .null, .null, .null, .null, .null, .null, .null, .null, .null, .null, .null, .int (nI 0), .null, .int (nI 0)], oc_i g q_1 1220 (fun _ => 0), oc_i g q_3 25 f_27] H := hP
  have hD : va_D A [oc_o h 11 [.int (nI 0), .ref q_1, .int (nI 0), .ref q_2, .int (nI 0), .int (nI 0), .int (nI 0), .null, .null, .int (nI 0), .int (nI 0), .null, .int (nI 0), .int (nI 0), .int (nI 0), .int (nI 0), .null, .null, .null, .null, .null, .null, .null, .null, .null, .null, .null, .null, .null, .int (nI 0), .null, .int (nI 0)], oc_i g q_1 1220 (fun _ => 0), oc_i g q_3 25 f_27] := hD
  refine lv_dup hx hb dd_MO_init_165 rfl ?_
  refine lv_bipush (v := nI 24) hx hb dd_MO_init_166 (by decide) ?_
  refine lv_bipush (v := nI 94) hx hb dd_MO_init_168 (by decide) ?_
  refine xa_st hx hb hK hP hD hS 2 rfl (j := 24) (by omega) (by omega) dd_MO_init_170 (fun f_28 H locs hP hD hS => ?_)
  have hP : va_P g.1 vwCl [oc_o h 11 [.int (nI 0), .ref q_1, .int (nI 0), .ref q_2, .int (nI 0), .int (nI 0), .int (nI 0), .null, .null, .int (nI 0), .int (nI 0), .null, .int (nI 0), .int (nI 0), .int (nI 0), .int (nI 0), .null, .null, .null, .null, .null, .null, .null, .null, .null, .null, .null, .null, .null, .int (nI 0), .null, .int (nI 0)], oc_i g q_1 1220 (fun _ => 0), oc_i g q_3 25 f_28] H := hP
  have hD : va_D A [oc_o h 11 [.int (nI 0), .ref q_1, .int (nI 0), .ref q_2, .int (nI 0), .int (nI 0), .int (nI 0), .null, .null, .int (nI 0), .int (nI 0), .null, .int (nI 0), .int (nI 0), .int (nI 0), .int (nI 0), .null, .null, .null, .null, .null, .null, .null, .null, .null, .null, .null, .null, .null, .int (nI 0), .null, .int (nI 0)], oc_i g q_1 1220 (fun _ => 0), oc_i g q_3 25 f_28] := hD
  refine pf_MO_16 hin hx hb hts hown hK hP hD hS 0 rfl rfl rfl (Nat.le_of_ble_eq_true rfl) dd_MO_init_171 (fun H locs hP hD hS => ?_)
  have hP : va_P g.1 vwCl [oc_o h 11 [.int (nI 0), .ref q_1, .int (nI 0), .ref q_2, .int (nI 0), .int (nI 0), .int (nI 0), .ref q_3, .null, .int (nI 0), .int (nI 0), .null, .int (nI 0), .int (nI 0), .int (nI 0), .int (nI 0), .null, .null, .null, .null, .null, .null, .null, .null, .null, .null, .null, .null, .null, .int (nI 0), .null, .int (nI 0)], oc_i g q_1 1220 (fun _ => 0), oc_i g q_3 25 f_28] H := hP
  have hD : va_D A [oc_o h 11 [.int (nI 0), .ref q_1, .int (nI 0), .ref q_2, .int (nI 0), .int (nI 0), .int (nI 0), .ref q_3, .null, .int (nI 0), .int (nI 0), .null, .int (nI 0), .int (nI 0), .int (nI 0), .int (nI 0), .null, .null, .null, .null, .null, .null, .null, .null, .null, .null, .null, .null, .null, .int (nI 0), .null, .int (nI 0)], oc_i g q_1 1220 (fun _ => 0), oc_i g q_3 25 f_28] := hD
  refine xw_sub (wr := [oc_o h 11 [.int (nI 0), .ref q_1, .int (nI 0), .ref q_2, .int (nI 0), .int (nI 0), .int (nI 0), .ref q_3, .null, .int (nI 0), .int (nI 0), .null, .int (nI 0), .int (nI 0), .int (nI 0), .int (nI 0), .null, .null, .null, .null, .null, .null, .null, .null, .null, .null, .null, .null, .null, .int (nI 0), .null, .int (nI 0)], oc_i g q_1 1220 (fun _ => 0)]) hP hD [0, 1] (by decide) rfl (fun hP hD => ?_)
  refine lv_aload_n hx hb dd_MO_init_174 rfl (lv_at hl 0 rfl) ?_
  refine lv_bipush (v := nI 29) hx hb dd_MO_init_175 (by decide) ?_
  refine xa_newI (k1 := 4) (k2 := 6274) hx hb (hts _ wa_int) hK hP hD hS hA (by decide) rfl rfl (Nat.le_of_ble_eq_true rfl) (Nat.le_of_ble_eq_true rfl) dd_MO_init_177 (fun q_29 H hP hD hS => ?_)
  have hP : va_P g.1 vwCl [oc_o h 11 [.int (nI 0), .ref q_1, .int (nI 0), .ref q_2, .int (nI 0), .int (nI 0), .int (nI 0), .ref q_3, .null, .int (nI 0), .int (nI 0), .null, .int (nI 0), .int (nI 0), .int (nI 0), .int (nI 0), .null, .null, .null, .null, .null, .null, .null, .null, .null, .null, .null, .null, .null, .int (nI 0), .null, .int (nI 0)], oc_i g q_1 1220 (fun _ => 0), oc_i g q_29 29 (fun _ => 0)] H := hP
  have hD : va_D A [oc_o h 11 [.int (nI 0), .ref q_1, .int (nI 0), .ref q_2, .int (nI 0), .int (nI 0), .int (nI 0), .ref q_3, .null, .int (nI 0), .int (nI 0), .null, .int (nI 0), .int (nI 0), .int (nI 0), .int (nI 0), .null, .null, .null, .null, .null, .null, .null, .null, .null, .null, .null, .null, .null, .int (nI 0), .null, .int (nI 0)], oc_i g q_1 1220 (fun _ => 0), oc_i g q_29 29 (fun _ => 0)] := hD
  refine lv_dup hx hb dd_MO_init_179 rfl ?_
  refine lv_iconst (v := nI 0) hx hb dd_MO_init_180 (by decide) ?_
  refine lv_bipush (v := nI 59) hx hb dd_MO_init_181 (by decide) ?_
  refine xa_st hx hb hK hP hD hS 2 rfl (j := 0) (by omega) (by omega) dd_MO_init_183 (fun f_30 H locs hP hD hS => ?_)
  have hP : va_P g.1 vwCl [oc_o h 11 [.int (nI 0), .ref q_1, .int (nI 0), .ref q_2, .int (nI 0), .int (nI 0), .int (nI 0), .ref q_3, .null, .int (nI 0), .int (nI 0), .null, .int (nI 0), .int (nI 0), .int (nI 0), .int (nI 0), .null, .null, .null, .null, .null, .null, .null, .null, .null, .null, .null, .null, .null, .int (nI 0), .null, .int (nI 0)], oc_i g q_1 1220 (fun _ => 0), oc_i g q_29 29 f_30] H := hP
  have hD : va_D A [oc_o h 11 [.int (nI 0), .ref q_1, .int (nI 0), .ref q_2, .int (nI 0), .int (nI 0), .int (nI 0), .ref q_3, .null, .int (nI 0), .int (nI 0), .null, .int (nI 0), .int (nI 0), .int (nI 0), .int (nI 0), .null, .null, .null, .null, .null, .null, .null, .null, .null, .null, .null, .null, .null, .int (nI 0), .null, .int (nI 0)], oc_i g q_1 1220 (fun _ => 0), oc_i g q_29 29 f_30] := hD
  refine lv_dup hx hb dd_MO_init_184 rfl ?_
  refine lv_iconst (v := nI 1) hx hb dd_MO_init_185 (by decide) ?_
  refine lv_bipush (v := nI 60) hx hb dd_MO_init_186 (by decide) ?_
  refine xa_st hx hb hK hP hD hS 2 rfl (j := 1) (by omega) (by omega) dd_MO_init_188 (fun f_31 H locs hP hD hS => ?_)
  have hP : va_P g.1 vwCl [oc_o h 11 [.int (nI 0), .ref q_1, .int (nI 0), .ref q_2, .int (nI 0), .int (nI 0), .int (nI 0), .ref q_3, .null, .int (nI 0), .int (nI 0), .null, .int (nI 0), .int (nI 0), .int (nI 0), .int (nI 0), .null, .null, .null, .null, .null, .null, .null, .null, .null, .null, .null, .null, .null, .int (nI 0), .null, .int (nI 0)], oc_i g q_1 1220 (fun _ => 0), oc_i g q_29 29 f_31] H := hP
  have hD : va_D A [oc_o h 11 [.int (nI 0), .ref q_1, .int (nI 0), .ref q_2, .int (nI 0), .int (nI 0), .int (nI 0), .ref q_3, .null, .int (nI 0), .int (nI 0), .null, .int (nI 0), .int (nI 0), .int (nI 0), .int (nI 0), .null, .null, .null, .null, .null, .null, .null, .null, .null, .null, .null, .null, .null, .int (nI 0), .null, .int (nI 0)], oc_i g q_1 1220 (fun _ => 0), oc_i g q_29 29 f_31] := hD
  refine lv_dup hx hb dd_MO_init_189 rfl ?_
  refine lv_iconst (v := nI 2) hx hb dd_MO_init_190 (by decide) ?_
  refine lv_bipush (v := nI 62) hx hb dd_MO_init_191 (by decide) ?_
  refine xa_st hx hb hK hP hD hS 2 rfl (j := 2) (by omega) (by omega) dd_MO_init_193 (fun f_32 H locs hP hD hS => ?_)
  have hP : va_P g.1 vwCl [oc_o h 11 [.int (nI 0), .ref q_1, .int (nI 0), .ref q_2, .int (nI 0), .int (nI 0), .int (nI 0), .ref q_3, .null, .int (nI 0), .int (nI 0), .null, .int (nI 0), .int (nI 0), .int (nI 0), .int (nI 0), .null, .null, .null, .null, .null, .null, .null, .null, .null, .null, .null, .null, .null, .int (nI 0), .null, .int (nI 0)], oc_i g q_1 1220 (fun _ => 0), oc_i g q_29 29 f_32] H := hP
  have hD : va_D A [oc_o h 11 [.int (nI 0), .ref q_1, .int (nI 0), .ref q_2, .int (nI 0), .int (nI 0), .int (nI 0), .ref q_3, .null, .int (nI 0), .int (nI 0), .null, .int (nI 0), .int (nI 0), .int (nI 0), .int (nI 0), .null, .null, .null, .null, .null, .null, .null, .null, .null, .null, .null, .null, .null, .int (nI 0), .null, .int (nI 0)], oc_i g q_1 1220 (fun _ => 0), oc_i g q_29 29 f_32] := hD
  refine lv_dup hx hb dd_MO_init_194 rfl ?_
  refine lv_iconst (v := nI 3) hx hb dd_MO_init_195 (by decide) ?_
  refine lv_bipush (v := nI 64) hx hb dd_MO_init_196 (by decide) ?_
  refine xa_st hx hb hK hP hD hS 2 rfl (j := 3) (by omega) (by omega) dd_MO_init_198 (fun f_33 H locs hP hD hS => ?_)
  have hP : va_P g.1 vwCl [oc_o h 11 [.int (nI 0), .ref q_1, .int (nI 0), .ref q_2, .int (nI 0), .int (nI 0), .int (nI 0), .ref q_3, .null, .int (nI 0), .int (nI 0), .null, .int (nI 0), .int (nI 0), .int (nI 0), .int (nI 0), .null, .null, .null, .null, .null, .null, .null, .null, .null, .null, .null, .null, .null, .int (nI 0), .null, .int (nI 0)], oc_i g q_1 1220 (fun _ => 0), oc_i g q_29 29 f_33] H := hP
  have hD : va_D A [oc_o h 11 [.int (nI 0), .ref q_1, .int (nI 0), .ref q_2, .int (nI 0), .int (nI 0), .int (nI 0), .ref q_3, .null, .int (nI 0), .int (nI 0), .null, .int (nI 0), .int (nI 0), .int (nI 0), .int (nI 0), .null, .null, .null, .null, .null, .null, .null, .null, .null, .null, .null, .null, .null, .int (nI 0), .null, .int (nI 0)], oc_i g q_1 1220 (fun _ => 0), oc_i g q_29 29 f_33] := hD
  refine lv_dup hx hb dd_MO_init_199 rfl ?_
  refine lv_iconst (v := nI 4) hx hb dd_MO_init_200 (by decide) ?_
  refine lv_bipush (v := nI 91) hx hb dd_MO_init_201 (by decide) ?_
  refine xa_st hx hb hK hP hD hS 2 rfl (j := 4) (by omega) (by omega) dd_MO_init_203 (fun f_34 H locs hP hD hS => ?_)
  have hP : va_P g.1 vwCl [oc_o h 11 [.int (nI 0), .ref q_1, .int (nI 0), .ref q_2, .int (nI 0), .int (nI 0), .int (nI 0), .ref q_3, .null, .int (nI 0), .int (nI 0), .null, .int (nI 0), .int (nI 0), .int (nI 0), .int (nI 0), .null, .null, .null, .null, .null, .null, .null, .null, .null, .null, .null, .null, .null, .int (nI 0), .null, .int (nI 0)], oc_i g q_1 1220 (fun _ => 0), oc_i g q_29 29 f_34] H := hP
  have hD : va_D A [oc_o h 11 [.int (nI 0), .ref q_1, .int (nI 0), .ref q_2, .int (nI 0), .int (nI 0), .int (nI 0), .ref q_3, .null, .int (nI 0), .int (nI 0), .null, .int (nI 0), .int (nI 0), .int (nI 0), .int (nI 0), .null, .null, .null, .null, .null, .null, .null, .null, .null, .null, .null, .null, .null, .int (nI 0), .null, .int (nI 0)], oc_i g q_1 1220 (fun _ => 0), oc_i g q_29 29 f_34] := hD
  refine lv_dup hx hb dd_MO_init_204 rfl ?_
  refine lv_iconst (v := nI 5) hx hb dd_MO_init_205 (by decide) ?_
  refine lv_bipush (v := nI 92) hx hb dd_MO_init_206 (by decide) ?_
  refine xa_st hx hb hK hP hD hS 2 rfl (j := 5) (by omega) (by omega) dd_MO_init_208 (fun f_35 H locs hP hD hS => ?_)
  have hP : va_P g.1 vwCl [oc_o h 11 [.int (nI 0), .ref q_1, .int (nI 0), .ref q_2, .int (nI 0), .int (nI 0), .int (nI 0), .ref q_3, .null, .int (nI 0), .int (nI 0), .null, .int (nI 0), .int (nI 0), .int (nI 0), .int (nI 0), .null, .null, .null, .null, .null, .null, .null, .null, .null, .null, .null, .null, .null, .int (nI 0), .null, .int (nI 0)], oc_i g q_1 1220 (fun _ => 0), oc_i g q_29 29 f_35] H := hP
  have hD : va_D A [oc_o h 11 [.int (nI 0), .ref q_1, .int (nI 0), .ref q_2, .int (nI 0), .int (nI 0), .int (nI 0), .ref q_3, .null, .int (nI 0), .int (nI 0), .null, .int (nI 0), .int (nI 0), .int (nI 0), .int (nI 0), .null, .null, .null, .null, .null, .null, .null, .null, .null, .null, .null, .null, .null, .int (nI 0), .null, .int (nI 0)], oc_i g q_1 1220 (fun _ => 0), oc_i g q_29 29 f_35] := hD
  refine lv_dup hx hb dd_MO_init_209 rfl ?_
  refine lv_bipush (v := nI 6) hx hb dd_MO_init_210 (by decide) ?_
  refine lv_bipush (v := nI 93) hx hb dd_MO_init_212 (by decide) ?_
  refine xa_st hx hb hK hP hD hS 2 rfl (j := 6) (by omega) (by omega) dd_MO_init_214 (fun f_36 H locs hP hD hS => ?_)
  have hP : va_P g.1 vwCl [oc_o h 11 [.int (nI 0), .ref q_1, .int (nI 0), .ref q_2, .int (nI 0), .int (nI 0), .int (nI 0), .ref q_3, .null, .int (nI 0), .int (nI 0), .null, .int (nI 0), .int (nI 0), .int (nI 0), .int (nI 0), .null, .null, .null, .null, .null, .null, .null, .null, .null, .null, .null, .null, .null, .int (nI 0), .null, .int (nI 0)], oc_i g q_1 1220 (fun _ => 0), oc_i g q_29 29 f_36] H := hP
  have hD : va_D A [oc_o h 11 [.int (nI 0), .ref q_1, .int (nI 0), .ref q_2, .int (nI 0), .int (nI 0), .int (nI 0), .ref q_3, .null, .int (nI 0), .int (nI 0), .null, .int (nI 0), .int (nI 0), .int (nI 0), .int (nI 0), .null, .null, .null, .null, .null, .null, .null, .null, .null, .null, .null, .null, .null, .int (nI 0), .null, .int (nI 0)], oc_i g q_1 1220 (fun _ => 0), oc_i g q_29 29 f_36] := hD
  refine lv_dup hx hb dd_MO_init_215 rfl ?_
  refine lv_bipush (v := nI 7) hx hb dd_MO_init_216 (by decide) ?_
  refine lv_bipush (v := nI 95) hx hb dd_MO_init_218 (by decide) ?_
  refine xa_st hx hb hK hP hD hS 2 rfl (j := 7) (by omega) (by omega) dd_MO_init_220 (fun f_37 H locs hP hD hS => ?_)
  have hP : va_P g.1 vwCl [oc_o h 11 [.int (nI 0), .ref q_1, .int (nI 0), .ref q_2, .int (nI 0), .int (nI 0), .int (nI 0), .ref q_3, .null, .int (nI 0), .int (nI 0), .null, .int (nI 0), .int (nI 0), .int (nI 0), .int (nI 0), .null, .null, .null, .null, .null, .null, .null, .null, .null, .null, .null, .null, .null, .int (nI 0), .null, .int (nI 0)], oc_i g q_1 1220 (fun _ => 0), oc_i g q_29 29 f_37] H := hP
  have hD : va_D A [oc_o h 11 [.int (nI 0), .ref q_1, .int (nI 0), .ref q_2, .int (nI 0), .int (nI 0), .int (nI 0), .ref q_3, .null, .int (nI 0), .int (nI 0), .null, .int (nI 0), .int (nI 0), .int (nI 0), .int (nI 0), .null, .null, .null, .null, .null, .null, .null, .null, .null, .null, .null, .null, .null, .int (nI 0), .null, .int (nI 0)], oc_i g q_1 1220 (fun _ => 0), oc_i g q_29 29 f_37] := hD
  refine lv_dup hx hb dd_MO_init_221 rfl ?_
  refine lv_bipush (v := nI 8) hx hb dd_MO_init_222 (by decide) ?_
  refine lv_bipush (v := nI 96) hx hb dd_MO_init_224 (by decide) ?_
  refine xa_st hx hb hK hP hD hS 2 rfl (j := 8) (by omega) (by omega) dd_MO_init_226 (fun f_38 H locs hP hD hS => ?_)
  have hP : va_P g.1 vwCl [oc_o h 11 [.int (nI 0), .ref q_1, .int (nI 0), .ref q_2, .int (nI 0), .int (nI 0), .int (nI 0), .ref q_3, .null, .int (nI 0), .int (nI 0), .null, .int (nI 0), .int (nI 0), .int (nI 0), .int (nI 0), .null, .null, .null, .null, .null, .null, .null, .null, .null, .null, .null, .null, .null, .int (nI 0), .null, .int (nI 0)], oc_i g q_1 1220 (fun _ => 0), oc_i g q_29 29 f_38] H := hP
  have hD : va_D A [oc_o h 11 [.int (nI 0), .ref q_1, .int (nI 0), .ref q_2, .int (nI 0), .int (nI 0), .int (nI 0), .ref q_3, .null, .int (nI 0), .int (nI 0), .null, .int (nI 0), .int (nI 0), .int (nI 0), .int (nI 0), .null, .null, .null, .null, .null, .null, .null, .null, .null, .null, .null, .null, .null, .int (nI 0), .null, .int (nI 0)], oc_i g q_1 1220 (fun _ => 0), oc_i g q_29 29 f_38] := hD
  refine lv_dup hx hb dd_MO_init_227 rfl ?_
  refine lv_bipush (v := nI 9) hx hb dd_MO_init_228 (by decide) ?_
  refine lv_bipush (v := nI 126) hx hb dd_MO_init_230 (by decide) ?_
  refine xa_st hx hb hK hP hD hS 2 rfl (j := 9) (by omega) (by omega) dd_MO_init_232 (fun f_39 H locs hP hD hS => ?_)
  have hP : va_P g.1 vwCl [oc_o h 11 [.int (nI 0), .ref q_1, .int (nI 0), .ref q_2, .int (nI 0), .int (nI 0), .int (nI 0), .ref q_3, .null, .int (nI 0), .int (nI 0), .null, .int (nI 0), .int (nI 0), .int (nI 0), .int (nI 0), .null, .null, .null, .null, .null, .null, .null, .null, .null, .null, .null, .null, .null, .int (nI 0), .null, .int (nI 0)], oc_i g q_1 1220 (fun _ => 0), oc_i g q_29 29 f_39] H := hP
  have hD : va_D A [oc_o h 11 [.int (nI 0), .ref q_1, .int (nI 0), .ref q_2, .int (nI 0), .int (nI 0), .int (nI 0), .ref q_3, .null, .int (nI 0), .int (nI 0), .null, .int (nI 0), .int (nI 0), .int (nI 0), .int (nI 0), .null, .null, .null, .null, .null, .null, .null, .null, .null, .null, .null, .null, .null, .int (nI 0), .null, .int (nI 0)], oc_i g q_1 1220 (fun _ => 0), oc_i g q_29 29 f_39] := hD
  refine lv_dup hx hb dd_MO_init_233 rfl ?_
  refine lv_bipush (v := nI 10) hx hb dd_MO_init_234 (by decide) ?_
  refine lv_bipush (v := nI 33) hx hb dd_MO_init_236 (by decide) ?_
  refine xa_st hx hb hK hP hD hS 2 rfl (j := 10) (by omega) (by omega) dd_MO_init_238 (fun f_40 H locs hP hD hS => ?_)
  have hP : va_P g.1 vwCl [oc_o h 11 [.int (nI 0), .ref q_1, .int (nI 0), .ref q_2, .int (nI 0), .int (nI 0), .int (nI 0), .ref q_3, .null, .int (nI 0), .int (nI 0), .null, .int (nI 0), .int (nI 0), .int (nI 0), .int (nI 0), .null, .null, .null, .null, .null, .null, .null, .null, .null, .null, .null, .null, .null, .int (nI 0), .null, .int (nI 0)], oc_i g q_1 1220 (fun _ => 0), oc_i g q_29 29 f_40] H := hP
  have hD : va_D A [oc_o h 11 [.int (nI 0), .ref q_1, .int (nI 0), .ref q_2, .int (nI 0), .int (nI 0), .int (nI 0), .ref q_3, .null, .int (nI 0), .int (nI 0), .null, .int (nI 0), .int (nI 0), .int (nI 0), .int (nI 0), .null, .null, .null, .null, .null, .null, .null, .null, .null, .null, .null, .null, .null, .int (nI 0), .null, .int (nI 0)], oc_i g q_1 1220 (fun _ => 0), oc_i g q_29 29 f_40] := hD
  refine lv_dup hx hb dd_MO_init_239 rfl ?_
  refine lv_bipush (v := nI 11) hx hb dd_MO_init_240 (by decide) ?_
  refine lv_bipush (v := nI 13) hx hb dd_MO_init_242 (by decide) ?_
  refine xa_st hx hb hK hP hD hS 2 rfl (j := 11) (by omega) (by omega) dd_MO_init_244 (fun f_41 H locs hP hD hS => ?_)
  have hP : va_P g.1 vwCl [oc_o h 11 [.int (nI 0), .ref q_1, .int (nI 0), .ref q_2, .int (nI 0), .int (nI 0), .int (nI 0), .ref q_3, .null, .int (nI 0), .int (nI 0), .null, .int (nI 0), .int (nI 0), .int (nI 0), .int (nI 0), .null, .null, .null, .null, .null, .null, .null, .null, .null, .null, .null, .null, .null, .int (nI 0), .null, .int (nI 0)], oc_i g q_1 1220 (fun _ => 0), oc_i g q_29 29 f_41] H := hP
  have hD : va_D A [oc_o h 11 [.int (nI 0), .ref q_1, .int (nI 0), .ref q_2, .int (nI 0), .int (nI 0), .int (nI 0), .ref q_3, .null, .int (nI 0), .int (nI 0), .null, .int (nI 0), .int (nI 0), .int (nI 0), .int (nI 0), .null, .null, .null, .null, .null, .null, .null, .null, .null, .null, .null, .null, .null, .int (nI 0), .null, .int (nI 0)], oc_i g q_1 1220 (fun _ => 0), oc_i g q_29 29 f_41] := hD
  refine lv_dup hx hb dd_MO_init_245 rfl ?_
  refine lv_bipush (v := nI 12) hx hb dd_MO_init_246 (by decide) ?_
  refine lv_bipush (v := nI 9) hx hb dd_MO_init_248 (by decide) ?_
  refine xa_st hx hb hK hP hD hS 2 rfl (j := 12) (by omega) (by omega) dd_MO_init_250 (fun f_42 H locs hP hD hS => ?_)
  have hP : va_P g.1 vwCl [oc_o h 11 [.int (nI 0), .ref q_1, .int (nI 0), .ref q_2, .int (nI 0), .int (nI 0), .int (nI 0), .ref q_3, .null, .int (nI 0), .int (nI 0), .null, .int (nI 0), .int (nI 0), .int (nI 0), .int (nI 0), .null, .null, .null, .null, .null, .null, .null, .null, .null, .null, .null, .null, .null, .int (nI 0), .null, .int (nI 0)], oc_i g q_1 1220 (fun _ => 0), oc_i g q_29 29 f_42] H := hP
  have hD : va_D A [oc_o h 11 [.int (nI 0), .ref q_1, .int (nI 0), .ref q_2, .int (nI 0), .int (nI 0), .int (nI 0), .ref q_3, .null, .int (nI 0), .int (nI 0), .null, .int (nI 0), .int (nI 0), .int (nI 0), .int (nI 0), .null, .null, .null, .null, .null, .null, .null, .null, .null, .null, .null, .null, .null, .int (nI 0), .null, .int (nI 0)], oc_i g q_1 1220 (fun _ => 0), oc_i g q_29 29 f_42] := hD
  refine lv_dup hx hb dd_MO_init_251 rfl ?_
  refine lv_bipush (v := nI 13) hx hb dd_MO_init_252 (by decide) ?_
  refine lv_bipush (v := nI 44) hx hb dd_MO_init_254 (by decide) ?_
  refine xa_st hx hb hK hP hD hS 2 rfl (j := 13) (by omega) (by omega) dd_MO_init_256 (fun f_43 H locs hP hD hS => ?_)
  have hP : va_P g.1 vwCl [oc_o h 11 [.int (nI 0), .ref q_1, .int (nI 0), .ref q_2, .int (nI 0), .int (nI 0), .int (nI 0), .ref q_3, .null, .int (nI 0), .int (nI 0), .null, .int (nI 0), .int (nI 0), .int (nI 0), .int (nI 0), .null, .null, .null, .null, .null, .null, .null, .null, .null, .null, .null, .null, .null, .int (nI 0), .null, .int (nI 0)], oc_i g q_1 1220 (fun _ => 0), oc_i g q_29 29 f_43] H := hP
  have hD : va_D A [oc_o h 11 [.int (nI 0), .ref q_1, .int (nI 0), .ref q_2, .int (nI 0), .int (nI 0), .int (nI 0), .ref q_3, .null, .int (nI 0), .int (nI 0), .null, .int (nI 0), .int (nI 0), .int (nI 0), .int (nI 0), .null, .null, .null, .null, .null, .null, .null, .null, .null, .null, .null, .null, .null, .int (nI 0), .null, .int (nI 0)], oc_i g q_1 1220 (fun _ => 0), oc_i g q_29 29 f_43] := hD
  refine lv_dup hx hb dd_MO_init_257 rfl ?_
  refine lv_bipush (v := nI 14) hx hb dd_MO_init_258 (by decide) ?_
  refine lv_bipush (v := nI 58) hx hb dd_MO_init_260 (by decide) ?_
  refine xa_st hx hb hK hP hD hS 2 rfl (j := 14) (by omega) (by omega) dd_MO_init_262 (fun f_44 H locs hP hD hS => ?_)
  have hP : va_P g.1 vwCl [oc_o h 11 [.int (nI 0), .ref q_1, .int (nI 0), .ref q_2, .int (nI 0), .int (nI 0), .int (nI 0), .ref q_3, .null, .int (nI 0), .int (nI 0), .null, .int (nI 0), .int (nI 0), .int (nI 0), .int (nI 0), .null, .null, .null, .null, .null, .null, .null, .null, .null, .null, .null, .null, .null, .int (nI 0), .null, .int (nI 0)], oc_i g q_1 1220 (fun _ => 0), oc_i g q_29 29 f_44] H := hP
  have hD : va_D A [oc_o h 11 [.int (nI 0), .ref q_1, .int (nI 0), .ref q_2, .int (nI 0), .int (nI 0), .int (nI 0), .ref q_3, .null, .int (nI 0), .int (nI 0), .null, .int (nI 0), .int (nI 0), .int (nI 0), .int (nI 0), .null, .null, .null, .null, .null, .null, .null, .null, .null, .null, .null, .null, .null, .int (nI 0), .null, .int (nI 0)], oc_i g q_1 1220 (fun _ => 0), oc_i g q_29 29 f_44] := hD
  refine lv_dup hx hb dd_MO_init_263 rfl ?_
  refine lv_bipush (v := nI 15) hx hb dd_MO_init_264 (by decide) ?_
  refine lv_bipush (v := nI 10) hx hb dd_MO_init_266 (by decide) ?_
  refine xa_st hx hb hK hP hD hS 2 rfl (j := 15) (by omega) (by omega) dd_MO_init_268 (fun f_45 H locs hP hD hS => ?_)
  have hP : va_P g.1 vwCl [oc_o h 11 [.int (nI 0), .ref q_1, .int (nI 0), .ref q_2, .int (nI 0), .int (nI 0), .int (nI 0), .ref q_3, .null, .int (nI 0), .int (nI 0), .null, .int (nI 0), .int (nI 0), .int (nI 0), .int (nI 0), .null, .null, .null, .null, .null, .null, .null, .null, .null, .null, .null, .null, .null, .int (nI 0), .null, .int (nI 0)], oc_i g q_1 1220 (fun _ => 0), oc_i g q_29 29 f_45] H := hP
  have hD : va_D A [oc_o h 11 [.int (nI 0), .ref q_1, .int (nI 0), .ref q_2, .int (nI 0), .int (nI 0), .int (nI 0), .ref q_3, .null, .int (nI 0), .int (nI 0), .null, .int (nI 0), .int (nI 0), .int (nI 0), .int (nI 0), .null, .null, .null, .null, .null, .null, .null, .null, .null, .null, .null, .null, .null, .int (nI 0), .null, .int (nI 0)], oc_i g q_1 1220 (fun _ => 0), oc_i g q_29 29 f_45] := hD
  refine lv_dup hx hb dd_MO_init_269 rfl ?_
  refine lv_bipush (v := nI 16) hx hb dd_MO_init_270 (by decide) ?_
  refine lv_bipush (v := nI 45) hx hb dd_MO_init_272 (by decide) ?_
  refine xa_st hx hb hK hP hD hS 2 rfl (j := 16) (by omega) (by omega) dd_MO_init_274 (fun f_46 H locs hP hD hS => ?_)
  have hP : va_P g.1 vwCl [oc_o h 11 [.int (nI 0), .ref q_1, .int (nI 0), .ref q_2, .int (nI 0), .int (nI 0), .int (nI 0), .ref q_3, .null, .int (nI 0), .int (nI 0), .null, .int (nI 0), .int (nI 0), .int (nI 0), .int (nI 0), .null, .null, .null, .null, .null, .null, .null, .null, .null, .null, .null, .null, .null, .int (nI 0), .null, .int (nI 0)], oc_i g q_1 1220 (fun _ => 0), oc_i g q_29 29 f_46] H := hP
  have hD : va_D A [oc_o h 11 [.int (nI 0), .ref q_1, .int (nI 0), .ref q_2, .int (nI 0), .int (nI 0), .int (nI 0), .ref q_3, .null, .int (nI 0), .int (nI 0), .null, .int (nI 0), .int (nI 0), .int (nI 0), .int (nI 0), .null, .null, .null, .null, .null, .null, .null, .null, .null, .null, .null, .null, .null, .int (nI 0), .null, .int (nI 0)], oc_i g q_1 1220 (fun _ => 0), oc_i g q_29 29 f_46] := hD
  refine lv_dup hx hb dd_MO_init_275 rfl ?_
  refine lv_bipush (v := nI 17) hx hb dd_MO_init_276 (by decide) ?_
  refine lv_bipush (v := nI 46) hx hb dd_MO_init_278 (by decide) ?_
  refine xa_st hx hb hK hP hD hS 2 rfl (j := 17) (by omega) (by omega) dd_MO_init_280 (fun f_47 H locs hP hD hS => ?_)
  have hP : va_P g.1 vwCl [oc_o h 11 [.int (nI 0), .ref q_1, .int (nI 0), .ref q_2, .int (nI 0), .int (nI 0), .int (nI 0), .ref q_3, .null, .int (nI 0), .int (nI 0), .null, .int (nI 0), .int (nI 0), .int (nI 0), .int (nI 0), .null, .null, .null, .null, .null, .null, .null, .null, .null, .null, .null, .null, .null, .int (nI 0), .null, .int (nI 0)], oc_i g q_1 1220 (fun _ => 0), oc_i g q_29 29 f_47] H := hP
  have hD : va_D A [oc_o h 11 [.int (nI 0), .ref q_1, .int (nI 0), .ref q_2, .int (nI 0), .int (nI 0), .int (nI 0), .ref q_3, .null, .int (nI 0), .int (nI 0), .null, .int (nI 0), .int (nI 0), .int (nI 0), .int (nI 0), .null, .null, .null, .null, .null, .null, .null, .null, .null, .null, .null, .null, .null, .int (nI 0), .null, .int (nI 0)], oc_i g q_1 1220 (fun _ => 0), oc_i g q_29 29 f_47] := hD
  refine lv_dup hx hb dd_MO_init_281 rfl ?_
  refine lv_bipush (v := nI 18) hx hb dd_MO_init_282 (by decide) ?_
  refine lv_bipush (v := nI 36) hx hb dd_MO_init_284 (by decide) ?_
  refine xa_st hx hb hK hP hD hS 2 rfl (j := 18) (by omega) (by omega) dd_MO_init_286 (fun f_48 H locs hP hD hS => ?_)
  have hP : va_P g.1 vwCl [oc_o h 11 [.int (nI 0), .ref q_1, .int (nI 0), .ref q_2, .int (nI 0), .int (nI 0), .int (nI 0), .ref q_3, .null, .int (nI 0), .int (nI 0), .null, .int (nI 0), .int (nI 0), .int (nI 0), .int (nI 0), .null, .null, .null, .null, .null, .null, .null, .null, .null, .null, .null, .null, .null, .int (nI 0), .null, .int (nI 0)], oc_i g q_1 1220 (fun _ => 0), oc_i g q_29 29 f_48] H := hP
  have hD : va_D A [oc_o h 11 [.int (nI 0), .ref q_1, .int (nI 0), .ref q_2, .int (nI 0), .int (nI 0), .int (nI 0), .ref q_3, .null, .int (nI 0), .int (nI 0), .null, .int (nI 0), .int (nI 0), .int (nI 0), .int (nI 0), .null, .null, .null, .null, .null, .null, .null, .null, .null, .null, .null, .null, .null, .int (nI 0), .null, .int (nI 0)], oc_i g q_1 1220 (fun _ => 0), oc_i g q_29 29 f_48] := hD
  refine lv_dup hx hb dd_MO_init_287 rfl ?_
  refine lv_bipush (v := nI 19) hx hb dd_MO_init_288 (by decide) ?_
  refine lv_bipush (v := nI 47) hx hb dd_MO_init_290 (by decide) ?_
  refine xa_st hx hb hK hP hD hS 2 rfl (j := 19) (by omega) (by omega) dd_MO_init_292 (fun f_49 H locs hP hD hS => ?_)
  have hP : va_P g.1 vwCl [oc_o h 11 [.int (nI 0), .ref q_1, .int (nI 0), .ref q_2, .int (nI 0), .int (nI 0), .int (nI 0), .ref q_3, .null, .int (nI 0), .int (nI 0), .null, .int (nI 0), .int (nI 0), .int (nI 0), .int (nI 0), .null, .null, .null, .null, .null, .null, .null, .null, .null, .null, .null, .null, .null, .int (nI 0), .null, .int (nI 0)], oc_i g q_1 1220 (fun _ => 0), oc_i g q_29 29 f_49] H := hP
  have hD : va_D A [oc_o h 11 [.int (nI 0), .ref q_1, .int (nI 0), .ref q_2, .int (nI 0), .int (nI 0), .int (nI 0), .ref q_3, .null, .int (nI 0), .int (nI 0), .null, .int (nI 0), .int (nI 0), .int (nI 0), .int (nI 0), .null, .null, .null, .null, .null, .null, .null, .null, .null, .null, .null, .null, .null, .int (nI 0), .null, .int (nI 0)], oc_i g q_1 1220 (fun _ => 0), oc_i g q_29 29 f_49] := hD
  refine lv_dup hx hb dd_MO_init_293 rfl ?_
  refine lv_bipush (v := nI 20) hx hb dd_MO_init_294 (by decide) ?_
  refine lv_bipush (v := nI 34) hx hb dd_MO_init_296 (by decide) ?_
  refine xa_st hx hb hK hP hD hS 2 rfl (j := 20) (by omega) (by omega) dd_MO_init_298 (fun f_50 H locs hP hD hS => ?_)
  have hP : va_P g.1 vwCl [oc_o h 11 [.int (nI 0), .ref q_1, .int (nI 0), .ref q_2, .int (nI 0), .int (nI 0), .int (nI 0), .ref q_3, .null, .int (nI 0), .int (nI 0), .null, .int (nI 0), .int (nI 0), .int (nI 0), .int (nI 0), .null, .null, .null, .null, .null, .null, .null, .null, .null, .null, .null, .null, .null, .int (nI 0), .null, .int (nI 0)], oc_i g q_1 1220 (fun _ => 0), oc_i g q_29 29 f_50] H := hP
  have hD : va_D A [oc_o h 11 [.int (nI 0), .ref q_1, .int (nI 0), .ref q_2, .int (nI 0), .int (nI 0), .int (nI 0), .ref q_3, .null, .int (nI 0), .int (nI 0), .null, .int (nI 0), .int (nI 0), .int (nI 0), .int (nI 0), .null, .null, .null, .null, .null, .null, .null, .null, .null, .null, .null, .null, .null, .int (nI 0), .null, .int (nI 0)], oc_i g q_1 1220 (fun _ => 0), oc_i g q_29 29 f_50] := hD
  refine lv_dup hx hb dd_MO_init_299 rfl ?_
  refine lv_bipush (v := nI 21) hx hb dd_MO_init_300 (by decide) ?_
  refine lv_bipush (v := nI 124) hx hb dd_MO_init_302 (by decide) ?_
  refine xa_st hx hb hK hP hD hS 2 rfl (j := 21) (by omega) (by omega) dd_MO_init_304 (fun f_51 H locs hP hD hS => ?_)
  have hP : va_P g.1 vwCl [oc_o h 11 [.int (nI 0), .ref q_1, .int (nI 0), .ref q_2, .int (nI 0), .int (nI 0), .int (nI 0), .ref q_3, .null, .int (nI 0), .int (nI 0), .null, .int (nI 0), .int (nI 0), .int (nI 0), .int (nI 0), .null, .null, .null, .null, .null, .null, .null, .null, .null, .null, .null, .null, .null, .int (nI 0), .null, .int (nI 0)], oc_i g q_1 1220 (fun _ => 0), oc_i g q_29 29 f_51] H := hP
  have hD : va_D A [oc_o h 11 [.int (nI 0), .ref q_1, .int (nI 0), .ref q_2, .int (nI 0), .int (nI 0), .int (nI 0), .ref q_3, .null, .int (nI 0), .int (nI 0), .null, .int (nI 0), .int (nI 0), .int (nI 0), .int (nI 0), .null, .null, .null, .null, .null, .null, .null, .null, .null, .null, .null, .null, .null, .int (nI 0), .null, .int (nI 0)], oc_i g q_1 1220 (fun _ => 0), oc_i g q_29 29 f_51] := hD
  refine lv_dup hx hb dd_MO_init_305 rfl ?_
  refine lv_bipush (v := nI 22) hx hb dd_MO_init_306 (by decide) ?_
  refine lv_bipush (v := nI 42) hx hb dd_MO_init_308 (by decide) ?_
  refine xa_st hx hb hK hP hD hS 2 rfl (j := 22) (by omega) (by omega) dd_MO_init_310 (fun f_52 H locs hP hD hS => ?_)
  have hP : va_P g.1 vwCl [oc_o h 11 [.int (nI 0), .ref q_1, .int (nI 0), .ref q_2, .int (nI 0), .int (nI 0), .int (nI 0), .ref q_3, .null, .int (nI 0), .int (nI 0), .null, .int (nI 0), .int (nI 0), .int (nI 0), .int (nI 0), .null, .null, .null, .null, .null, .null, .null, .null, .null, .null, .null, .null, .null, .int (nI 0), .null, .int (nI 0)], oc_i g q_1 1220 (fun _ => 0), oc_i g q_29 29 f_52] H := hP
  have hD : va_D A [oc_o h 11 [.int (nI 0), .ref q_1, .int (nI 0), .ref q_2, .int (nI 0), .int (nI 0), .int (nI 0), .ref q_3, .null, .int (nI 0), .int (nI 0), .null, .int (nI 0), .int (nI 0), .int (nI 0), .int (nI 0), .null, .null, .null, .null, .null, .null, .null, .null, .null, .null, .null, .null, .null, .int (nI 0), .null, .int (nI 0)], oc_i g q_1 1220 (fun _ => 0), oc_i g q_29 29 f_52] := hD
  refine lv_dup hx hb dd_MO_init_311 rfl ?_
  refine lv_bipush (v := nI 23) hx hb dd_MO_init_312 (by decide) ?_
  refine lv_bipush (v := nI 40) hx hb dd_MO_init_314 (by decide) ?_
  refine xa_st hx hb hK hP hD hS 2 rfl (j := 23) (by omega) (by omega) dd_MO_init_316 (fun f_53 H locs hP hD hS => ?_)
  have hP : va_P g.1 vwCl [oc_o h 11 [.int (nI 0), .ref q_1, .int (nI 0), .ref q_2, .int (nI 0), .int (nI 0), .int (nI 0), .ref q_3, .null, .int (nI 0), .int (nI 0), .null, .int (nI 0), .int (nI 0), .int (nI 0), .int (nI 0), .null, .null, .null, .null, .null, .null, .null, .null, .null, .null, .null, .null, .null, .int (nI 0), .null, .int (nI 0)], oc_i g q_1 1220 (fun _ => 0), oc_i g q_29 29 f_53] H := hP
  have hD : va_D A [oc_o h 11 [.int (nI 0), .ref q_1, .int (nI 0), .ref q_2, .int (nI 0), .int (nI 0), .int (nI 0), .ref q_3, .null, .int (nI 0), .int (nI 0), .null, .int (nI 0), .int (nI 0), .int (nI 0), .int (nI 0), .null, .null, .null, .null, .null, .null, .null, .null, .null, .null, .null, .null, .null, .int (nI 0), .null, .int (nI 0)], oc_i g q_1 1220 (fun _ => 0), oc_i g q_29 29 f_53] := hD
  refine lv_dup hx hb dd_MO_init_317 rfl ?_
  refine lv_bipush (v := nI 24) hx hb dd_MO_init_318 (by decide) ?_
  refine lv_bipush (v := nI 41) hx hb dd_MO_init_320 (by decide) ?_
  refine xa_st hx hb hK hP hD hS 2 rfl (j := 24) (by omega) (by omega) dd_MO_init_322 (fun f_54 H locs hP hD hS => ?_)
  have hP : va_P g.1 vwCl [oc_o h 11 [.int (nI 0), .ref q_1, .int (nI 0), .ref q_2, .int (nI 0), .int (nI 0), .int (nI 0), .ref q_3, .null, .int (nI 0), .int (nI 0), .null, .int (nI 0), .int (nI 0), .int (nI 0), .int (nI 0), .null, .null, .null, .null, .null, .null, .null, .null, .null, .null, .null, .null, .null, .int (nI 0), .null, .int (nI 0)], oc_i g q_1 1220 (fun _ => 0), oc_i g q_29 29 f_54] H := hP
  have hD : va_D A [oc_o h 11 [.int (nI 0), .ref q_1, .int (nI 0), .ref q_2, .int (nI 0), .int (nI 0), .int (nI 0), .ref q_3, .null, .int (nI 0), .int (nI 0), .null, .int (nI 0), .int (nI 0), .int (nI 0), .int (nI 0), .null, .null, .null, .null, .null, .null, .null, .null, .null, .null, .null, .null, .null, .int (nI 0), .null, .int (nI 0)], oc_i g q_1 1220 (fun _ => 0), oc_i g q_29 29 f_54] := hD
  refine lv_dup hx hb dd_MO_init_323 rfl ?_
  refine lv_bipush (v := nI 25) hx hb dd_MO_init_324 (by decide) ?_
  refine lv_bipush (v := nI 63) hx hb dd_MO_init_326 (by decide) ?_
  refine xa_st hx hb hK hP hD hS 2 rfl (j := 25) (by omega) (by omega) dd_MO_init_328 (fun f_55 H locs hP hD hS => ?_)
  have hP : va_P g.1 vwCl [oc_o h 11 [.int (nI 0), .ref q_1, .int (nI 0), .ref q_2, .int (nI 0), .int (nI 0), .int (nI 0), .ref q_3, .null, .int (nI 0), .int (nI 0), .null, .int (nI 0), .int (nI 0), .int (nI 0), .int (nI 0), .null, .null, .null, .null, .null, .null, .null, .null, .null, .null, .null, .null, .null, .int (nI 0), .null, .int (nI 0)], oc_i g q_1 1220 (fun _ => 0), oc_i g q_29 29 f_55] H := hP
  have hD : va_D A [oc_o h 11 [.int (nI 0), .ref q_1, .int (nI 0), .ref q_2, .int (nI 0), .int (nI 0), .int (nI 0), .ref q_3, .null, .int (nI 0), .int (nI 0), .null, .int (nI 0), .int (nI 0), .int (nI 0), .int (nI 0), .null, .null, .null, .null, .null, .null, .null, .null, .null, .null, .null, .null, .null, .int (nI 0), .null, .int (nI 0)], oc_i g q_1 1220 (fun _ => 0), oc_i g q_29 29 f_55] := hD
  refine lv_dup hx hb dd_MO_init_329 rfl ?_
  refine lv_bipush (v := nI 26) hx hb dd_MO_init_330 (by decide) ?_
  refine lv_bipush (v := nI 123) hx hb dd_MO_init_332 (by decide) ?_
  refine xa_st hx hb hK hP hD hS 2 rfl (j := 26) (by omega) (by omega) dd_MO_init_334 (fun f_56 H locs hP hD hS => ?_)
  have hP : va_P g.1 vwCl [oc_o h 11 [.int (nI 0), .ref q_1, .int (nI 0), .ref q_2, .int (nI 0), .int (nI 0), .int (nI 0), .ref q_3, .null, .int (nI 0), .int (nI 0), .null, .int (nI 0), .int (nI 0), .int (nI 0), .int (nI 0), .null, .null, .null, .null, .null, .null, .null, .null, .null, .null, .null, .null, .null, .int (nI 0), .null, .int (nI 0)], oc_i g q_1 1220 (fun _ => 0), oc_i g q_29 29 f_56] H := hP
  have hD : va_D A [oc_o h 11 [.int (nI 0), .ref q_1, .int (nI 0), .ref q_2, .int (nI 0), .int (nI 0), .int (nI 0), .ref q_3, .null, .int (nI 0), .int (nI 0), .null, .int (nI 0), .int (nI 0), .int (nI 0), .int (nI 0), .null, .null, .null, .null, .null, .null, .null, .null, .null, .null, .null, .null, .null, .int (nI 0), .null, .int (nI 0)], oc_i g q_1 1220 (fun _ => 0), oc_i g q_29 29 f_56] := hD
  refine lv_dup hx hb dd_MO_init_335 rfl ?_
  refine lv_bipush (v := nI 27) hx hb dd_MO_init_336 (by decide) ?_
  refine lv_bipush (v := nI 125) hx hb dd_MO_init_338 (by decide) ?_
  refine xa_st hx hb hK hP hD hS 2 rfl (j := 27) (by omega) (by omega) dd_MO_init_340 (fun f_57 H locs hP hD hS => ?_)
  have hP : va_P g.1 vwCl [oc_o h 11 [.int (nI 0), .ref q_1, .int (nI 0), .ref q_2, .int (nI 0), .int (nI 0), .int (nI 0), .ref q_3, .null, .int (nI 0), .int (nI 0), .null, .int (nI 0), .int (nI 0), .int (nI 0), .int (nI 0), .null, .null, .null, .null, .null, .null, .null, .null, .null, .null, .null, .null, .null, .int (nI 0), .null, .int (nI 0)], oc_i g q_1 1220 (fun _ => 0), oc_i g q_29 29 f_57] H := hP
  have hD : va_D A [oc_o h 11 [.int (nI 0), .ref q_1, .int (nI 0), .ref q_2, .int (nI 0), .int (nI 0), .int (nI 0), .ref q_3, .null, .int (nI 0), .int (nI 0), .null, .int (nI 0), .int (nI 0), .int (nI 0), .int (nI 0), .null, .null, .null, .null, .null, .null, .null, .null, .null, .null, .null, .null, .null, .int (nI 0), .null, .int (nI 0)], oc_i g q_1 1220 (fun _ => 0), oc_i g q_29 29 f_57] := hD
  refine lv_dup hx hb dd_MO_init_341 rfl ?_
  refine lv_bipush (v := nI 28) hx hb dd_MO_init_342 (by decide) ?_
  refine lv_bipush (v := nI 39) hx hb dd_MO_init_344 (by decide) ?_
  refine xa_st hx hb hK hP hD hS 2 rfl (j := 28) (by omega) (by omega) dd_MO_init_346 (fun f_58 H locs hP hD hS => ?_)
  have hP : va_P g.1 vwCl [oc_o h 11 [.int (nI 0), .ref q_1, .int (nI 0), .ref q_2, .int (nI 0), .int (nI 0), .int (nI 0), .ref q_3, .null, .int (nI 0), .int (nI 0), .null, .int (nI 0), .int (nI 0), .int (nI 0), .int (nI 0), .null, .null, .null, .null, .null, .null, .null, .null, .null, .null, .null, .null, .null, .int (nI 0), .null, .int (nI 0)], oc_i g q_1 1220 (fun _ => 0), oc_i g q_29 29 f_58] H := hP
  have hD : va_D A [oc_o h 11 [.int (nI 0), .ref q_1, .int (nI 0), .ref q_2, .int (nI 0), .int (nI 0), .int (nI 0), .ref q_3, .null, .int (nI 0), .int (nI 0), .null, .int (nI 0), .int (nI 0), .int (nI 0), .int (nI 0), .null, .null, .null, .null, .null, .null, .null, .null, .null, .null, .null, .null, .null, .int (nI 0), .null, .int (nI 0)], oc_i g q_1 1220 (fun _ => 0), oc_i g q_29 29 f_58] := hD
  refine pf_MO_19 hin hx hb hts hown hK hP hD hS 0 rfl rfl rfl (Nat.le_of_ble_eq_true rfl) dd_MO_init_347 (fun H locs hP hD hS => ?_)
  have hP : va_P g.1 vwCl [oc_o h 11 [.int (nI 0), .ref q_1, .int (nI 0), .ref q_2, .int (nI 0), .int (nI 0), .int (nI 0), .ref q_3, .ref q_29, .int (nI 0), .int (nI 0), .null, .int (nI 0), .int (nI 0), .int (nI 0), .int (nI 0), .null, .null, .null, .null, .null, .null, .null, .null, .null, .null, .null, .null, .null, .int (nI 0), .null, .int (nI 0)], oc_i g q_1 1220 (fun _ => 0), oc_i g q_29 29 f_58] H := hP
  have hD : va_D A [oc_o h 11 [.int (nI 0), .ref q_1, .int (nI 0), .ref q_2, .int (nI 0), .int (nI 0), .int (nI 0), .ref q_3, .ref q_29, .int (nI 0), .int (nI 0), .null, .int (nI 0), .int (nI 0), .int (nI 0), .int (nI 0), .null, .null, .null, .null, .null, .null, .null, .null, .null, .null, .null, .null, .null, .int (nI 0), .null, .int (nI 0)], oc_i g q_1 1220 (fun _ => 0), oc_i g q_29 29 f_58] := hD
  refine xw_sub (wr := [oc_o h 11 [.int (nI 0), .ref q_1, .int (nI 0), .ref q_2, .int (nI 0), .int (nI 0), .int (nI 0), .ref q_3, .ref q_29, .int (nI 0), .int (nI 0), .null, .int (nI 0), .int (nI 0), .int (nI 0), .int (nI 0), .null, .null, .null, .null, .null, .null, .null, .null, .null, .null, .null, .null, .null, .int (nI 0), .null, .int (nI 0)], oc_i g q_1 1220 (fun _ => 0)]) hP hD [0, 1] (by decide) rfl (fun hP hD => ?_)
  refine lv_aload_n hx hb dd_MO_init_350 rfl (lv_at hl 0 rfl) ?_
  refine lv_sipush (v := nI 2900) hx hb dd_MO_init_351 (by decide) ?_
  refine xa_newI (k1 := 5) (k2 := 9174) hx hb (hts _ wa_int) hK hP hD hS hA (by decide) rfl rfl (Nat.le_of_ble_eq_true rfl) (Nat.le_of_ble_eq_true rfl) dd_MO_init_354 (fun q_59 H hP hD hS => ?_)
  have hP : va_P g.1 vwCl [oc_o h 11 [.int (nI 0), .ref q_1, .int (nI 0), .ref q_2, .int (nI 0), .int (nI 0), .int (nI 0), .ref q_3, .ref q_29, .int (nI 0), .int (nI 0), .null, .int (nI 0), .int (nI 0), .int (nI 0), .int (nI 0), .null, .null, .null, .null, .null, .null, .null, .null, .null, .null, .null, .null, .null, .int (nI 0), .null, .int (nI 0)], oc_i g q_1 1220 (fun _ => 0), oc_i g q_59 2900 (fun _ => 0)] H := hP
  have hD : va_D A [oc_o h 11 [.int (nI 0), .ref q_1, .int (nI 0), .ref q_2, .int (nI 0), .int (nI 0), .int (nI 0), .ref q_3, .ref q_29, .int (nI 0), .int (nI 0), .null, .int (nI 0), .int (nI 0), .int (nI 0), .int (nI 0), .null, .null, .null, .null, .null, .null, .null, .null, .null, .null, .null, .null, .null, .int (nI 0), .null, .int (nI 0)], oc_i g q_1 1220 (fun _ => 0), oc_i g q_59 2900 (fun _ => 0)] := hD
  refine pf_MO_22 hin hx hb hts hown hK hP hD hS 0 rfl rfl rfl (Nat.le_of_ble_eq_true rfl) dd_MO_init_356 (fun H locs hP hD hS => ?_)
  have hP : va_P g.1 vwCl [oc_o h 11 [.int (nI 0), .ref q_1, .int (nI 0), .ref q_2, .int (nI 0), .int (nI 0), .int (nI 0), .ref q_3, .ref q_29, .int (nI 0), .int (nI 0), .ref q_59, .int (nI 0), .int (nI 0), .int (nI 0), .int (nI 0), .null, .null, .null, .null, .null, .null, .null, .null, .null, .null, .null, .null, .null, .int (nI 0), .null, .int (nI 0)], oc_i g q_1 1220 (fun _ => 0), oc_i g q_59 2900 (fun _ => 0)] H := hP
  have hD : va_D A [oc_o h 11 [.int (nI 0), .ref q_1, .int (nI 0), .ref q_2, .int (nI 0), .int (nI 0), .int (nI 0), .ref q_3, .ref q_29, .int (nI 0), .int (nI 0), .ref q_59, .int (nI 0), .int (nI 0), .int (nI 0), .int (nI 0), .null, .null, .null, .null, .null, .null, .null, .null, .null, .null, .null, .null, .null, .int (nI 0), .null, .int (nI 0)], oc_i g q_1 1220 (fun _ => 0), oc_i g q_59 2900 (fun _ => 0)] := hD
  refine lv_aload_n hx hb dd_MO_init_359 rfl (lv_at hl 0 rfl) ?_
  refine lv_sipush (v := nI 928) hx hb dd_MO_init_360 (by decide) ?_
  refine xa_newI (k1 := 6) (k2 := 10102) hx hb (hts _ wa_int) hK hP hD hS hA (by decide) rfl rfl (Nat.le_of_ble_eq_true rfl) (Nat.le_of_ble_eq_true rfl) dd_MO_init_363 (fun q_60 H hP hD hS => ?_)
  have hP : va_P g.1 vwCl [oc_o h 11 [.int (nI 0), .ref q_1, .int (nI 0), .ref q_2, .int (nI 0), .int (nI 0), .int (nI 0), .ref q_3, .ref q_29, .int (nI 0), .int (nI 0), .ref q_59, .int (nI 0), .int (nI 0), .int (nI 0), .int (nI 0), .null, .null, .null, .null, .null, .null, .null, .null, .null, .null, .null, .null, .null, .int (nI 0), .null, .int (nI 0)], oc_i g q_1 1220 (fun _ => 0), oc_i g q_59 2900 (fun _ => 0), oc_i g q_60 928 (fun _ => 0)] H := hP
  have hD : va_D A [oc_o h 11 [.int (nI 0), .ref q_1, .int (nI 0), .ref q_2, .int (nI 0), .int (nI 0), .int (nI 0), .ref q_3, .ref q_29, .int (nI 0), .int (nI 0), .ref q_59, .int (nI 0), .int (nI 0), .int (nI 0), .int (nI 0), .null, .null, .null, .null, .null, .null, .null, .null, .null, .null, .null, .null, .null, .int (nI 0), .null, .int (nI 0)], oc_i g q_1 1220 (fun _ => 0), oc_i g q_59 2900 (fun _ => 0), oc_i g q_60 928 (fun _ => 0)] := hD
  refine pf_MO_25 hin hx hb hts hown hK hP hD hS 0 rfl rfl rfl (Nat.le_of_ble_eq_true rfl) dd_MO_init_365 (fun H locs hP hD hS => ?_)
  have hP : va_P g.1 vwCl [oc_o h 11 [.int (nI 0), .ref q_1, .int (nI 0), .ref q_2, .int (nI 0), .int (nI 0), .int (nI 0), .ref q_3, .ref q_29, .int (nI 0), .int (nI 0), .ref q_59, .int (nI 0), .int (nI 0), .int (nI 0), .int (nI 0), .ref q_60, .null, .null, .null, .null, .null, .null, .null, .null, .null, .null, .null, .null, .int (nI 0), .null, .int (nI 0)], oc_i g q_1 1220 (fun _ => 0), oc_i g q_59 2900 (fun _ => 0), oc_i g q_60 928 (fun _ => 0)] H := hP
  have hD : va_D A [oc_o h 11 [.int (nI 0), .ref q_1, .int (nI 0), .ref q_2, .int (nI 0), .int (nI 0), .int (nI 0), .ref q_3, .ref q_29, .int (nI 0), .int (nI 0), .ref q_59, .int (nI 0), .int (nI 0), .int (nI 0), .int (nI 0), .ref q_60, .null, .null, .null, .null, .null, .null, .null, .null, .null, .null, .null, .null, .int (nI 0), .null, .int (nI 0)], oc_i g q_1 1220 (fun _ => 0), oc_i g q_59 2900 (fun _ => 0), oc_i g q_60 928 (fun _ => 0)] := hD
  refine lv_aload_n hx hb dd_MO_init_368 rfl (lv_at hl 0 rfl) ?_
  refine lv_sipush (v := nI 928) hx hb dd_MO_init_369 (by decide) ?_
  refine xa_newZ (k1 := 7) (k2 := 11030) hx hb (hts _ wa_boolean) hK hP hD hS hA (by decide) rfl rfl (Nat.le_of_ble_eq_true rfl) (Nat.le_of_ble_eq_true rfl) dd_MO_init_372 (fun q_61 H hP hD hS => ?_)
  have hP : va_P g.1 vwCl [oc_o h 11 [.int (nI 0), .ref q_1, .int (nI 0), .ref q_2, .int (nI 0), .int (nI 0), .int (nI 0), .ref q_3, .ref q_29, .int (nI 0), .int (nI 0), .ref q_59, .int (nI 0), .int (nI 0), .int (nI 0), .int (nI 0), .ref q_60, .null, .null, .null, .null, .null, .null, .null, .null, .null, .null, .null, .null, .int (nI 0), .null, .int (nI 0)], oc_i g q_1 1220 (fun _ => 0), oc_i g q_59 2900 (fun _ => 0), oc_i g q_60 928 (fun _ => 0), oc_z g q_61 928 (fun _ => 0)] H := hP
  have hD : va_D A [oc_o h 11 [.int (nI 0), .ref q_1, .int (nI 0), .ref q_2, .int (nI 0), .int (nI 0), .int (nI 0), .ref q_3, .ref q_29, .int (nI 0), .int (nI 0), .ref q_59, .int (nI 0), .int (nI 0), .int (nI 0), .int (nI 0), .ref q_60, .null, .null, .null, .null, .null, .null, .null, .null, .null, .null, .null, .null, .int (nI 0), .null, .int (nI 0)], oc_i g q_1 1220 (fun _ => 0), oc_i g q_59 2900 (fun _ => 0), oc_i g q_60 928 (fun _ => 0), oc_z g q_61 928 (fun _ => 0)] := hD
  refine pf_MO_28 hin hx hb hts hown hK hP hD hS 0 rfl rfl rfl (Nat.le_of_ble_eq_true rfl) dd_MO_init_374 (fun H locs hP hD hS => ?_)
  have hP : va_P g.1 vwCl [oc_o h 11 [.int (nI 0), .ref q_1, .int (nI 0), .ref q_2, .int (nI 0), .int (nI 0), .int (nI 0), .ref q_3, .ref q_29, .int (nI 0), .int (nI 0), .ref q_59, .int (nI 0), .int (nI 0), .int (nI 0), .int (nI 0), .ref q_60, .ref q_61, .null, .null, .null, .null, .null, .null, .null, .null, .null, .null, .null, .int (nI 0), .null, .int (nI 0)], oc_i g q_1 1220 (fun _ => 0), oc_i g q_59 2900 (fun _ => 0), oc_i g q_60 928 (fun _ => 0), oc_z g q_61 928 (fun _ => 0)] H := hP
  have hD : va_D A [oc_o h 11 [.int (nI 0), .ref q_1, .int (nI 0), .ref q_2, .int (nI 0), .int (nI 0), .int (nI 0), .ref q_3, .ref q_29, .int (nI 0), .int (nI 0), .ref q_59, .int (nI 0), .int (nI 0), .int (nI 0), .int (nI 0), .ref q_60, .ref q_61, .null, .null, .null, .null, .null, .null, .null, .null, .null, .null, .null, .int (nI 0), .null, .int (nI 0)], oc_i g q_1 1220 (fun _ => 0), oc_i g q_59 2900 (fun _ => 0), oc_i g q_60 928 (fun _ => 0), oc_z g q_61 928 (fun _ => 0)] := hD
  refine xw_sub (wr := [oc_o h 11 [.int (nI 0), .ref q_1, .int (nI 0), .ref q_2, .int (nI 0), .int (nI 0), .int (nI 0), .ref q_3, .ref q_29, .int (nI 0), .int (nI 0), .ref q_59, .int (nI 0), .int (nI 0), .int (nI 0), .int (nI 0), .ref q_60, .ref q_61, .null, .null, .null, .null, .null, .null, .null, .null, .null, .null, .null, .int (nI 0), .null, .int (nI 0)], oc_i g q_1 1220 (fun _ => 0), oc_i g q_59 2900 (fun _ => 0), oc_i g q_60 928 (fun _ => 0)]) hP hD [0, 1, 2, 3] (by decide) rfl (fun hP hD => ?_)
  refine lv_aload_n hx hb dd_MO_init_377 rfl (lv_at hl 0 rfl) ?_
  refine lv_sipush (v := nI 929) hx hb dd_MO_init_378 (by decide) ?_
  refine xa_newI (k1 := 8) (k2 := 11959) hx hb (hts _ wa_int) hK hP hD hS hA (by decide) rfl rfl (Nat.le_of_ble_eq_true rfl) (Nat.le_of_ble_eq_true rfl) dd_MO_init_381 (fun q_62 H hP hD hS => ?_)
  have hP : va_P g.1 vwCl [oc_o h 11 [.int (nI 0), .ref q_1, .int (nI 0), .ref q_2, .int (nI 0), .int (nI 0), .int (nI 0), .ref q_3, .ref q_29, .int (nI 0), .int (nI 0), .ref q_59, .int (nI 0), .int (nI 0), .int (nI 0), .int (nI 0), .ref q_60, .ref q_61, .null, .null, .null, .null, .null, .null, .null, .null, .null, .null, .null, .int (nI 0), .null, .int (nI 0)], oc_i g q_1 1220 (fun _ => 0), oc_i g q_59 2900 (fun _ => 0), oc_i g q_60 928 (fun _ => 0), oc_i g q_62 929 (fun _ => 0)] H := hP
  have hD : va_D A [oc_o h 11 [.int (nI 0), .ref q_1, .int (nI 0), .ref q_2, .int (nI 0), .int (nI 0), .int (nI 0), .ref q_3, .ref q_29, .int (nI 0), .int (nI 0), .ref q_59, .int (nI 0), .int (nI 0), .int (nI 0), .int (nI 0), .ref q_60, .ref q_61, .null, .null, .null, .null, .null, .null, .null, .null, .null, .null, .null, .int (nI 0), .null, .int (nI 0)], oc_i g q_1 1220 (fun _ => 0), oc_i g q_59 2900 (fun _ => 0), oc_i g q_60 928 (fun _ => 0), oc_i g q_62 929 (fun _ => 0)] := hD
  refine pf_MO_32 hin hx hb hts hown hK hP hD hS 0 rfl rfl rfl (Nat.le_of_ble_eq_true rfl) dd_MO_init_383 (fun H locs hP hD hS => ?_)
  have hP : va_P g.1 vwCl [oc_o h 11 [.int (nI 0), .ref q_1, .int (nI 0), .ref q_2, .int (nI 0), .int (nI 0), .int (nI 0), .ref q_3, .ref q_29, .int (nI 0), .int (nI 0), .ref q_59, .int (nI 0), .int (nI 0), .int (nI 0), .int (nI 0), .ref q_60, .ref q_61, .ref q_62, .null, .null, .null, .null, .null, .null, .null, .null, .null, .null, .int (nI 0), .null, .int (nI 0)], oc_i g q_1 1220 (fun _ => 0), oc_i g q_59 2900 (fun _ => 0), oc_i g q_60 928 (fun _ => 0), oc_i g q_62 929 (fun _ => 0)] H := hP
  have hD : va_D A [oc_o h 11 [.int (nI 0), .ref q_1, .int (nI 0), .ref q_2, .int (nI 0), .int (nI 0), .int (nI 0), .ref q_3, .ref q_29, .int (nI 0), .int (nI 0), .ref q_59, .int (nI 0), .int (nI 0), .int (nI 0), .int (nI 0), .ref q_60, .ref q_61, .ref q_62, .null, .null, .null, .null, .null, .null, .null, .null, .null, .null, .int (nI 0), .null, .int (nI 0)], oc_i g q_1 1220 (fun _ => 0), oc_i g q_59 2900 (fun _ => 0), oc_i g q_60 928 (fun _ => 0), oc_i g q_62 929 (fun _ => 0)] := hD
  refine lv_aload_n hx hb dd_MO_init_386 rfl (lv_at hl 0 rfl) ?_
  refine lv_sipush (v := nI 930) hx hb dd_MO_init_387 (by decide) ?_
  refine xa_newI (k1 := 9) (k2 := 12889) hx hb (hts _ wa_int) hK hP hD hS hA (by decide) rfl rfl (Nat.le_of_ble_eq_true rfl) (Nat.le_of_ble_eq_true rfl) dd_MO_init_390 (fun q_63 H hP hD hS => ?_)
  have hP : va_P g.1 vwCl [oc_o h 11 [.int (nI 0), .ref q_1, .int (nI 0), .ref q_2, .int (nI 0), .int (nI 0), .int (nI 0), .ref q_3, .ref q_29, .int (nI 0), .int (nI 0), .ref q_59, .int (nI 0), .int (nI 0), .int (nI 0), .int (nI 0), .ref q_60, .ref q_61, .ref q_62, .null, .null, .null, .null, .null, .null, .null, .null, .null, .null, .int (nI 0), .null, .int (nI 0)], oc_i g q_1 1220 (fun _ => 0), oc_i g q_59 2900 (fun _ => 0), oc_i g q_60 928 (fun _ => 0), oc_i g q_62 929 (fun _ => 0), oc_i g q_63 930 (fun _ => 0)] H := hP
  have hD : va_D A [oc_o h 11 [.int (nI 0), .ref q_1, .int (nI 0), .ref q_2, .int (nI 0), .int (nI 0), .int (nI 0), .ref q_3, .ref q_29, .int (nI 0), .int (nI 0), .ref q_59, .int (nI 0), .int (nI 0), .int (nI 0), .int (nI 0), .ref q_60, .ref q_61, .ref q_62, .null, .null, .null, .null, .null, .null, .null, .null, .null, .null, .int (nI 0), .null, .int (nI 0)], oc_i g q_1 1220 (fun _ => 0), oc_i g q_59 2900 (fun _ => 0), oc_i g q_60 928 (fun _ => 0), oc_i g q_62 929 (fun _ => 0), oc_i g q_63 930 (fun _ => 0)] := hD
  refine pf_MO_35 hin hx hb hts hown hK hP hD hS 0 rfl rfl rfl (Nat.le_of_ble_eq_true rfl) dd_MO_init_392 (fun H locs hP hD hS => ?_)
  have hP : va_P g.1 vwCl [oc_o h 11 [.int (nI 0), .ref q_1, .int (nI 0), .ref q_2, .int (nI 0), .int (nI 0), .int (nI 0), .ref q_3, .ref q_29, .int (nI 0), .int (nI 0), .ref q_59, .int (nI 0), .int (nI 0), .int (nI 0), .int (nI 0), .ref q_60, .ref q_61, .ref q_62, .ref q_63, .null, .null, .null, .null, .null, .null, .null, .null, .null, .int (nI 0), .null, .int (nI 0)], oc_i g q_1 1220 (fun _ => 0), oc_i g q_59 2900 (fun _ => 0), oc_i g q_60 928 (fun _ => 0), oc_i g q_62 929 (fun _ => 0), oc_i g q_63 930 (fun _ => 0)] H := hP
  have hD : va_D A [oc_o h 11 [.int (nI 0), .ref q_1, .int (nI 0), .ref q_2, .int (nI 0), .int (nI 0), .int (nI 0), .ref q_3, .ref q_29, .int (nI 0), .int (nI 0), .ref q_59, .int (nI 0), .int (nI 0), .int (nI 0), .int (nI 0), .ref q_60, .ref q_61, .ref q_62, .ref q_63, .null, .null, .null, .null, .null, .null, .null, .null, .null, .int (nI 0), .null, .int (nI 0)], oc_i g q_1 1220 (fun _ => 0), oc_i g q_59 2900 (fun _ => 0), oc_i g q_60 928 (fun _ => 0), oc_i g q_62 929 (fun _ => 0), oc_i g q_63 930 (fun _ => 0)] := hD
  refine xw_sub (wr := [oc_o h 11 [.int (nI 0), .ref q_1, .int (nI 0), .ref q_2, .int (nI 0), .int (nI 0), .int (nI 0), .ref q_3, .ref q_29, .int (nI 0), .int (nI 0), .ref q_59, .int (nI 0), .int (nI 0), .int (nI 0), .int (nI 0), .ref q_60, .ref q_61, .ref q_62, .ref q_63, .null, .null, .null, .null, .null, .null, .null, .null, .null, .int (nI 0), .null, .int (nI 0)], oc_i g q_1 1220 (fun _ => 0), oc_i g q_59 2900 (fun _ => 0), oc_i g q_60 928 (fun _ => 0), oc_i g q_62 929 (fun _ => 0)]) hP hD [0, 1, 2, 3, 4] (by decide) rfl (fun hP hD => ?_)
  refine lv_aload_n hx hb dd_MO_init_395 rfl (lv_at hl 0 rfl) ?_
  refine lv_bipush (v := nI 90) hx hb dd_MO_init_396 (by decide) ?_
  refine xa_newI (k1 := 10) (k2 := 12979) hx hb (hts _ wa_int) hK hP hD hS hA (by decide) rfl rfl (Nat.le_of_ble_eq_true rfl) (Nat.le_of_ble_eq_true rfl) dd_MO_init_398 (fun q_64 H hP hD hS => ?_)
  have hP : va_P g.1 vwCl [oc_o h 11 [.int (nI 0), .ref q_1, .int (nI 0), .ref q_2, .int (nI 0), .int (nI 0), .int (nI 0), .ref q_3, .ref q_29, .int (nI 0), .int (nI 0), .ref q_59, .int (nI 0), .int (nI 0), .int (nI 0), .int (nI 0), .ref q_60, .ref q_61, .ref q_62, .ref q_63, .null, .null, .null, .null, .null, .null, .null, .null, .null, .int (nI 0), .null, .int (nI 0)], oc_i g q_1 1220 (fun _ => 0), oc_i g q_59 2900 (fun _ => 0), oc_i g q_60 928 (fun _ => 0), oc_i g q_62 929 (fun _ => 0), oc_i g q_64 90 (fun _ => 0)] H := hP
  have hD : va_D A [oc_o h 11 [.int (nI 0), .ref q_1, .int (nI 0), .ref q_2, .int (nI 0), .int (nI 0), .int (nI 0), .ref q_3, .ref q_29, .int (nI 0), .int (nI 0), .ref q_59, .int (nI 0), .int (nI 0), .int (nI 0), .int (nI 0), .ref q_60, .ref q_61, .ref q_62, .ref q_63, .null, .null, .null, .null, .null, .null, .null, .null, .null, .int (nI 0), .null, .int (nI 0)], oc_i g q_1 1220 (fun _ => 0), oc_i g q_59 2900 (fun _ => 0), oc_i g q_60 928 (fun _ => 0), oc_i g q_62 929 (fun _ => 0), oc_i g q_64 90 (fun _ => 0)] := hD
  refine pf_MO_38 hin hx hb hts hown hK hP hD hS 0 rfl rfl rfl (Nat.le_of_ble_eq_true rfl) dd_MO_init_400 (fun H locs hP hD hS => ?_)
  have hP : va_P g.1 vwCl [oc_o h 11 [.int (nI 0), .ref q_1, .int (nI 0), .ref q_2, .int (nI 0), .int (nI 0), .int (nI 0), .ref q_3, .ref q_29, .int (nI 0), .int (nI 0), .ref q_59, .int (nI 0), .int (nI 0), .int (nI 0), .int (nI 0), .ref q_60, .ref q_61, .ref q_62, .ref q_63, .ref q_64, .null, .null, .null, .null, .null, .null, .null, .null, .int (nI 0), .null, .int (nI 0)], oc_i g q_1 1220 (fun _ => 0), oc_i g q_59 2900 (fun _ => 0), oc_i g q_60 928 (fun _ => 0), oc_i g q_62 929 (fun _ => 0), oc_i g q_64 90 (fun _ => 0)] H := hP
  have hD : va_D A [oc_o h 11 [.int (nI 0), .ref q_1, .int (nI 0), .ref q_2, .int (nI 0), .int (nI 0), .int (nI 0), .ref q_3, .ref q_29, .int (nI 0), .int (nI 0), .ref q_59, .int (nI 0), .int (nI 0), .int (nI 0), .int (nI 0), .ref q_60, .ref q_61, .ref q_62, .ref q_63, .ref q_64, .null, .null, .null, .null, .null, .null, .null, .null, .int (nI 0), .null, .int (nI 0)], oc_i g q_1 1220 (fun _ => 0), oc_i g q_59 2900 (fun _ => 0), oc_i g q_60 928 (fun _ => 0), oc_i g q_62 929 (fun _ => 0), oc_i g q_64 90 (fun _ => 0)] := hD
  refine xw_sub (wr := [oc_o h 11 [.int (nI 0), .ref q_1, .int (nI 0), .ref q_2, .int (nI 0), .int (nI 0), .int (nI 0), .ref q_3, .ref q_29, .int (nI 0), .int (nI 0), .ref q_59, .int (nI 0), .int (nI 0), .int (nI 0), .int (nI 0), .ref q_60, .ref q_61, .ref q_62, .ref q_63, .ref q_64, .null, .null, .null, .null, .null, .null, .null, .null, .int (nI 0), .null, .int (nI 0)], oc_i g q_1 1220 (fun _ => 0), oc_i g q_59 2900 (fun _ => 0), oc_i g q_60 928 (fun _ => 0), oc_i g q_62 929 (fun _ => 0)]) hP hD [0, 1, 2, 3, 4] (by decide) rfl (fun hP hD => ?_)
  refine lv_aload_n hx hb dd_MO_init_403 rfl (lv_at hl 0 rfl) ?_
  refine lv_sipush (v := nI 1860) hx hb dd_MO_init_404 (by decide) ?_
  refine xa_newI (k1 := 11) (k2 := 14839) hx hb (hts _ wa_int) hK hP hD hS hA (by decide) rfl rfl (Nat.le_of_ble_eq_true rfl) (Nat.le_of_ble_eq_true rfl) dd_MO_init_407 (fun q_65 H hP hD hS => ?_)
  have hP : va_P g.1 vwCl [oc_o h 11 [.int (nI 0), .ref q_1, .int (nI 0), .ref q_2, .int (nI 0), .int (nI 0), .int (nI 0), .ref q_3, .ref q_29, .int (nI 0), .int (nI 0), .ref q_59, .int (nI 0), .int (nI 0), .int (nI 0), .int (nI 0), .ref q_60, .ref q_61, .ref q_62, .ref q_63, .ref q_64, .null, .null, .null, .null, .null, .null, .null, .null, .int (nI 0), .null, .int (nI 0)], oc_i g q_1 1220 (fun _ => 0), oc_i g q_59 2900 (fun _ => 0), oc_i g q_60 928 (fun _ => 0), oc_i g q_62 929 (fun _ => 0), oc_i g q_65 1860 (fun _ => 0)] H := hP
  have hD : va_D A [oc_o h 11 [.int (nI 0), .ref q_1, .int (nI 0), .ref q_2, .int (nI 0), .int (nI 0), .int (nI 0), .ref q_3, .ref q_29, .int (nI 0), .int (nI 0), .ref q_59, .int (nI 0), .int (nI 0), .int (nI 0), .int (nI 0), .ref q_60, .ref q_61, .ref q_62, .ref q_63, .ref q_64, .null, .null, .null, .null, .null, .null, .null, .null, .int (nI 0), .null, .int (nI 0)], oc_i g q_1 1220 (fun _ => 0), oc_i g q_59 2900 (fun _ => 0), oc_i g q_60 928 (fun _ => 0), oc_i g q_62 929 (fun _ => 0), oc_i g q_65 1860 (fun _ => 0)] := hD
  refine pf_MO_41 hin hx hb hts hown hK hP hD hS 0 rfl rfl rfl (Nat.le_of_ble_eq_true rfl) dd_MO_init_409 (fun H locs hP hD hS => ?_)
  have hP : va_P g.1 vwCl [oc_o h 11 [.int (nI 0), .ref q_1, .int (nI 0), .ref q_2, .int (nI 0), .int (nI 0), .int (nI 0), .ref q_3, .ref q_29, .int (nI 0), .int (nI 0), .ref q_59, .int (nI 0), .int (nI 0), .int (nI 0), .int (nI 0), .ref q_60, .ref q_61, .ref q_62, .ref q_63, .ref q_64, .ref q_65, .null, .null, .null, .null, .null, .null, .null, .int (nI 0), .null, .int (nI 0)], oc_i g q_1 1220 (fun _ => 0), oc_i g q_59 2900 (fun _ => 0), oc_i g q_60 928 (fun _ => 0), oc_i g q_62 929 (fun _ => 0), oc_i g q_65 1860 (fun _ => 0)] H := hP
  have hD : va_D A [oc_o h 11 [.int (nI 0), .ref q_1, .int (nI 0), .ref q_2, .int (nI 0), .int (nI 0), .int (nI 0), .ref q_3, .ref q_29, .int (nI 0), .int (nI 0), .ref q_59, .int (nI 0), .int (nI 0), .int (nI 0), .int (nI 0), .ref q_60, .ref q_61, .ref q_62, .ref q_63, .ref q_64, .ref q_65, .null, .null, .null, .null, .null, .null, .null, .int (nI 0), .null, .int (nI 0)], oc_i g q_1 1220 (fun _ => 0), oc_i g q_59 2900 (fun _ => 0), oc_i g q_60 928 (fun _ => 0), oc_i g q_62 929 (fun _ => 0), oc_i g q_65 1860 (fun _ => 0)] := hD
  refine lv_aload_n hx hb dd_MO_init_412 rfl (lv_at hl 0 rfl) ?_
  refine lv_sipush (v := nI 1860) hx hb dd_MO_init_413 (by decide) ?_
  refine xa_newI (k1 := 12) (k2 := 16699) hx hb (hts _ wa_int) hK hP hD hS hA (by decide) rfl rfl (Nat.le_of_ble_eq_true rfl) (Nat.le_of_ble_eq_true rfl) dd_MO_init_416 (fun q_66 H hP hD hS => ?_)
  have hP : va_P g.1 vwCl [oc_o h 11 [.int (nI 0), .ref q_1, .int (nI 0), .ref q_2, .int (nI 0), .int (nI 0), .int (nI 0), .ref q_3, .ref q_29, .int (nI 0), .int (nI 0), .ref q_59, .int (nI 0), .int (nI 0), .int (nI 0), .int (nI 0), .ref q_60, .ref q_61, .ref q_62, .ref q_63, .ref q_64, .ref q_65, .null, .null, .null, .null, .null, .null, .null, .int (nI 0), .null, .int (nI 0)], oc_i g q_1 1220 (fun _ => 0), oc_i g q_59 2900 (fun _ => 0), oc_i g q_60 928 (fun _ => 0), oc_i g q_62 929 (fun _ => 0), oc_i g q_65 1860 (fun _ => 0), oc_i g q_66 1860 (fun _ => 0)] H := hP
  have hD : va_D A [oc_o h 11 [.int (nI 0), .ref q_1, .int (nI 0), .ref q_2, .int (nI 0), .int (nI 0), .int (nI 0), .ref q_3, .ref q_29, .int (nI 0), .int (nI 0), .ref q_59, .int (nI 0), .int (nI 0), .int (nI 0), .int (nI 0), .ref q_60, .ref q_61, .ref q_62, .ref q_63, .ref q_64, .ref q_65, .null, .null, .null, .null, .null, .null, .null, .int (nI 0), .null, .int (nI 0)], oc_i g q_1 1220 (fun _ => 0), oc_i g q_59 2900 (fun _ => 0), oc_i g q_60 928 (fun _ => 0), oc_i g q_62 929 (fun _ => 0), oc_i g q_65 1860 (fun _ => 0), oc_i g q_66 1860 (fun _ => 0)] := hD
  refine pf_MO_44 hin hx hb hts hown hK hP hD hS 0 rfl rfl rfl (Nat.le_of_ble_eq_true rfl) dd_MO_init_418 (fun H locs hP hD hS => ?_)
  have hP : va_P g.1 vwCl [oc_o h 11 [.int (nI 0), .ref q_1, .int (nI 0), .ref q_2, .int (nI 0), .int (nI 0), .int (nI 0), .ref q_3, .ref q_29, .int (nI 0), .int (nI 0), .ref q_59, .int (nI 0), .int (nI 0), .int (nI 0), .int (nI 0), .ref q_60, .ref q_61, .ref q_62, .ref q_63, .ref q_64, .ref q_65, .ref q_66, .null, .null, .null, .null, .null, .null, .int (nI 0), .null, .int (nI 0)], oc_i g q_1 1220 (fun _ => 0), oc_i g q_59 2900 (fun _ => 0), oc_i g q_60 928 (fun _ => 0), oc_i g q_62 929 (fun _ => 0), oc_i g q_65 1860 (fun _ => 0), oc_i g q_66 1860 (fun _ => 0)] H := hP
  have hD : va_D A [oc_o h 11 [.int (nI 0), .ref q_1, .int (nI 0), .ref q_2, .int (nI 0), .int (nI 0), .int (nI 0), .ref q_3, .ref q_29, .int (nI 0), .int (nI 0), .ref q_59, .int (nI 0), .int (nI 0), .int (nI 0), .int (nI 0), .ref q_60, .ref q_61, .ref q_62, .ref q_63, .ref q_64, .ref q_65, .ref q_66, .null, .null, .null, .null, .null, .null, .int (nI 0), .null, .int (nI 0)], oc_i g q_1 1220 (fun _ => 0), oc_i g q_59 2900 (fun _ => 0), oc_i g q_60 928 (fun _ => 0), oc_i g q_62 929 (fun _ => 0), oc_i g q_65 1860 (fun _ => 0), oc_i g q_66 1860 (fun _ => 0)] := hD
  refine xw_sub (wr := [oc_o h 11 [.int (nI 0), .ref q_1, .int (nI 0), .ref q_2, .int (nI 0), .int (nI 0), .int (nI 0), .ref q_3, .ref q_29, .int (nI 0), .int (nI 0), .ref q_59, .int (nI 0), .int (nI 0), .int (nI 0), .int (nI 0), .ref q_60, .ref q_61, .ref q_62, .ref q_63, .ref q_64, .ref q_65, .ref q_66, .null, .null, .null, .null, .null, .null, .int (nI 0), .null, .int (nI 0)], oc_i g q_1 1220 (fun _ => 0), oc_i g q_59 2900 (fun _ => 0), oc_i g q_60 928 (fun _ => 0), oc_i g q_62 929 (fun _ => 0), oc_i g q_65 1860 (fun _ => 0)]) hP hD [0, 1, 2, 3, 4, 5] (by decide) rfl (fun hP hD => ?_)
  refine lv_aload_n hx hb dd_MO_init_421 rfl (lv_at hl 0 rfl) ?_
  refine lv_sipush (v := nI 1860) hx hb dd_MO_init_422 (by decide) ?_
  refine xa_newI (k1 := 13) (k2 := 18559) hx hb (hts _ wa_int) hK hP hD hS hA (by decide) rfl rfl (Nat.le_of_ble_eq_true rfl) (Nat.le_of_ble_eq_true rfl) dd_MO_init_425 (fun q_67 H hP hD hS => ?_)
  have hP : va_P g.1 vwCl [oc_o h 11 [.int (nI 0), .ref q_1, .int (nI 0), .ref q_2, .int (nI 0), .int (nI 0), .int (nI 0), .ref q_3, .ref q_29, .int (nI 0), .int (nI 0), .ref q_59, .int (nI 0), .int (nI 0), .int (nI 0), .int (nI 0), .ref q_60, .ref q_61, .ref q_62, .ref q_63, .ref q_64, .ref q_65, .ref q_66, .null, .null, .null, .null, .null, .null, .int (nI 0), .null, .int (nI 0)], oc_i g q_1 1220 (fun _ => 0), oc_i g q_59 2900 (fun _ => 0), oc_i g q_60 928 (fun _ => 0), oc_i g q_62 929 (fun _ => 0), oc_i g q_65 1860 (fun _ => 0), oc_i g q_67 1860 (fun _ => 0)] H := hP
  have hD : va_D A [oc_o h 11 [.int (nI 0), .ref q_1, .int (nI 0), .ref q_2, .int (nI 0), .int (nI 0), .int (nI 0), .ref q_3, .ref q_29, .int (nI 0), .int (nI 0), .ref q_59, .int (nI 0), .int (nI 0), .int (nI 0), .int (nI 0), .ref q_60, .ref q_61, .ref q_62, .ref q_63, .ref q_64, .ref q_65, .ref q_66, .null, .null, .null, .null, .null, .null, .int (nI 0), .null, .int (nI 0)], oc_i g q_1 1220 (fun _ => 0), oc_i g q_59 2900 (fun _ => 0), oc_i g q_60 928 (fun _ => 0), oc_i g q_62 929 (fun _ => 0), oc_i g q_65 1860 (fun _ => 0), oc_i g q_67 1860 (fun _ => 0)] := hD
  refine pf_MO_47 hin hx hb hts hown hK hP hD hS 0 rfl rfl rfl (Nat.le_of_ble_eq_true rfl) dd_MO_init_427 (fun H locs hP hD hS => ?_)
  have hP : va_P g.1 vwCl [oc_o h 11 [.int (nI 0), .ref q_1, .int (nI 0), .ref q_2, .int (nI 0), .int (nI 0), .int (nI 0), .ref q_3, .ref q_29, .int (nI 0), .int (nI 0), .ref q_59, .int (nI 0), .int (nI 0), .int (nI 0), .int (nI 0), .ref q_60, .ref q_61, .ref q_62, .ref q_63, .ref q_64, .ref q_65, .ref q_66, .ref q_67, .null, .null, .null, .null, .null, .int (nI 0), .null, .int (nI 0)], oc_i g q_1 1220 (fun _ => 0), oc_i g q_59 2900 (fun _ => 0), oc_i g q_60 928 (fun _ => 0), oc_i g q_62 929 (fun _ => 0), oc_i g q_65 1860 (fun _ => 0), oc_i g q_67 1860 (fun _ => 0)] H := hP
  have hD : va_D A [oc_o h 11 [.int (nI 0), .ref q_1, .int (nI 0), .ref q_2, .int (nI 0), .int (nI 0), .int (nI 0), .ref q_3, .ref q_29, .int (nI 0), .int (nI 0), .ref q_59, .int (nI 0), .int (nI 0), .int (nI 0), .int (nI 0), .ref q_60, .ref q_61, .ref q_62, .ref q_63, .ref q_64, .ref q_65, .ref q_66, .ref q_67, .null, .null, .null, .null, .null, .int (nI 0), .null, .int (nI 0)], oc_i g q_1 1220 (fun _ => 0), oc_i g q_59 2900 (fun _ => 0), oc_i g q_60 928 (fun _ => 0), oc_i g q_62 929 (fun _ => 0), oc_i g q_65 1860 (fun _ => 0), oc_i g q_67 1860 (fun _ => 0)] := hD
  refine xw_sub (wr := [oc_o h 11 [.int (nI 0), .ref q_1, .int (nI 0), .ref q_2, .int (nI 0), .int (nI 0), .int (nI 0), .ref q_3, .ref q_29, .int (nI 0), .int (nI 0), .ref q_59, .int (nI 0), .int (nI 0), .int (nI 0), .int (nI 0), .ref q_60, .ref q_61, .ref q_62, .ref q_63, .ref q_64, .ref q_65, .ref q_66, .ref q_67, .null, .null, .null, .null, .null, .int (nI 0), .null, .int (nI 0)], oc_i g q_1 1220 (fun _ => 0), oc_i g q_59 2900 (fun _ => 0), oc_i g q_60 928 (fun _ => 0), oc_i g q_62 929 (fun _ => 0), oc_i g q_65 1860 (fun _ => 0)]) hP hD [0, 1, 2, 3, 4, 5] (by decide) rfl (fun hP hD => ?_)
  refine lv_aload_n hx hb dd_MO_init_430 rfl (lv_at hl 0 rfl) ?_
  refine lv_sipush (v := nI 1860) hx hb dd_MO_init_431 (by decide) ?_
  refine xa_newI (k1 := 14) (k2 := 20419) hx hb (hts _ wa_int) hK hP hD hS hA (by decide) rfl rfl (Nat.le_of_ble_eq_true rfl) (Nat.le_of_ble_eq_true rfl) dd_MO_init_434 (fun q_68 H hP hD hS => ?_)
  have hP : va_P g.1 vwCl [oc_o h 11 [.int (nI 0), .ref q_1, .int (nI 0), .ref q_2, .int (nI 0), .int (nI 0), .int (nI 0), .ref q_3, .ref q_29, .int (nI 0), .int (nI 0), .ref q_59, .int (nI 0), .int (nI 0), .int (nI 0), .int (nI 0), .ref q_60, .ref q_61, .ref q_62, .ref q_63, .ref q_64, .ref q_65, .ref q_66, .ref q_67, .null, .null, .null, .null, .null, .int (nI 0), .null, .int (nI 0)], oc_i g q_1 1220 (fun _ => 0), oc_i g q_59 2900 (fun _ => 0), oc_i g q_60 928 (fun _ => 0), oc_i g q_62 929 (fun _ => 0), oc_i g q_65 1860 (fun _ => 0), oc_i g q_68 1860 (fun _ => 0)] H := hP
  have hD : va_D A [oc_o h 11 [.int (nI 0), .ref q_1, .int (nI 0), .ref q_2, .int (nI 0), .int (nI 0), .int (nI 0), .ref q_3, .ref q_29, .int (nI 0), .int (nI 0), .ref q_59, .int (nI 0), .int (nI 0), .int (nI 0), .int (nI 0), .ref q_60, .ref q_61, .ref q_62, .ref q_63, .ref q_64, .ref q_65, .ref q_66, .ref q_67, .null, .null, .null, .null, .null, .int (nI 0), .null, .int (nI 0)], oc_i g q_1 1220 (fun _ => 0), oc_i g q_59 2900 (fun _ => 0), oc_i g q_60 928 (fun _ => 0), oc_i g q_62 929 (fun _ => 0), oc_i g q_65 1860 (fun _ => 0), oc_i g q_68 1860 (fun _ => 0)] := hD
  refine pf_MO_50 hin hx hb hts hown hK hP hD hS 0 rfl rfl rfl (Nat.le_of_ble_eq_true rfl) dd_MO_init_436 (fun H locs hP hD hS => ?_)
  have hP : va_P g.1 vwCl [oc_o h 11 [.int (nI 0), .ref q_1, .int (nI 0), .ref q_2, .int (nI 0), .int (nI 0), .int (nI 0), .ref q_3, .ref q_29, .int (nI 0), .int (nI 0), .ref q_59, .int (nI 0), .int (nI 0), .int (nI 0), .int (nI 0), .ref q_60, .ref q_61, .ref q_62, .ref q_63, .ref q_64, .ref q_65, .ref q_66, .ref q_67, .ref q_68, .null, .null, .null, .null, .int (nI 0), .null, .int (nI 0)], oc_i g q_1 1220 (fun _ => 0), oc_i g q_59 2900 (fun _ => 0), oc_i g q_60 928 (fun _ => 0), oc_i g q_62 929 (fun _ => 0), oc_i g q_65 1860 (fun _ => 0), oc_i g q_68 1860 (fun _ => 0)] H := hP
  have hD : va_D A [oc_o h 11 [.int (nI 0), .ref q_1, .int (nI 0), .ref q_2, .int (nI 0), .int (nI 0), .int (nI 0), .ref q_3, .ref q_29, .int (nI 0), .int (nI 0), .ref q_59, .int (nI 0), .int (nI 0), .int (nI 0), .int (nI 0), .ref q_60, .ref q_61, .ref q_62, .ref q_63, .ref q_64, .ref q_65, .ref q_66, .ref q_67, .ref q_68, .null, .null, .null, .null, .int (nI 0), .null, .int (nI 0)], oc_i g q_1 1220 (fun _ => 0), oc_i g q_59 2900 (fun _ => 0), oc_i g q_60 928 (fun _ => 0), oc_i g q_62 929 (fun _ => 0), oc_i g q_65 1860 (fun _ => 0), oc_i g q_68 1860 (fun _ => 0)] := hD
  refine xw_sub (wr := [oc_o h 11 [.int (nI 0), .ref q_1, .int (nI 0), .ref q_2, .int (nI 0), .int (nI 0), .int (nI 0), .ref q_3, .ref q_29, .int (nI 0), .int (nI 0), .ref q_59, .int (nI 0), .int (nI 0), .int (nI 0), .int (nI 0), .ref q_60, .ref q_61, .ref q_62, .ref q_63, .ref q_64, .ref q_65, .ref q_66, .ref q_67, .ref q_68, .null, .null, .null, .null, .int (nI 0), .null, .int (nI 0)], oc_i g q_1 1220 (fun _ => 0), oc_i g q_59 2900 (fun _ => 0), oc_i g q_60 928 (fun _ => 0), oc_i g q_62 929 (fun _ => 0), oc_i g q_65 1860 (fun _ => 0)]) hP hD [0, 1, 2, 3, 4, 5] (by decide) rfl (fun hP hD => ?_)
  refine lv_aload_n hx hb dd_MO_init_439 rfl (lv_at hl 0 rfl) ?_
  refine lv_sipush (v := nI 1860) hx hb dd_MO_init_440 (by decide) ?_
  refine xa_newI (k1 := 15) (k2 := 22279) hx hb (hts _ wa_int) hK hP hD hS hA (by decide) rfl rfl (Nat.le_of_ble_eq_true rfl) (Nat.le_of_ble_eq_true rfl) dd_MO_init_443 (fun q_69 H hP hD hS => ?_)
  have hP : va_P g.1 vwCl [oc_o h 11 [.int (nI 0), .ref q_1, .int (nI 0), .ref q_2, .int (nI 0), .int (nI 0), .int (nI 0), .ref q_3, .ref q_29, .int (nI 0), .int (nI 0), .ref q_59, .int (nI 0), .int (nI 0), .int (nI 0), .int (nI 0), .ref q_60, .ref q_61, .ref q_62, .ref q_63, .ref q_64, .ref q_65, .ref q_66, .ref q_67, .ref q_68, .null, .null, .null, .null, .int (nI 0), .null, .int (nI 0)], oc_i g q_1 1220 (fun _ => 0), oc_i g q_59 2900 (fun _ => 0), oc_i g q_60 928 (fun _ => 0), oc_i g q_62 929 (fun _ => 0), oc_i g q_65 1860 (fun _ => 0), oc_i g q_69 1860 (fun _ => 0)] H := hP
  have hD : va_D A [oc_o h 11 [.int (nI 0), .ref q_1, .int (nI 0), .ref q_2, .int (nI 0), .int (nI 0), .int (nI 0), .ref q_3, .ref q_29, .int (nI 0), .int (nI 0), .ref q_59, .int (nI 0), .int (nI 0), .int (nI 0), .int (nI 0), .ref q_60, .ref q_61, .ref q_62, .ref q_63, .ref q_64, .ref q_65, .ref q_66, .ref q_67, .ref q_68, .null, .null, .null, .null, .int (nI 0), .null, .int (nI 0)], oc_i g q_1 1220 (fun _ => 0), oc_i g q_59 2900 (fun _ => 0), oc_i g q_60 928 (fun _ => 0), oc_i g q_62 929 (fun _ => 0), oc_i g q_65 1860 (fun _ => 0), oc_i g q_69 1860 (fun _ => 0)] := hD
  refine pf_MO_53 hin hx hb hts hown hK hP hD hS 0 rfl rfl rfl (Nat.le_of_ble_eq_true rfl) dd_MO_init_445 (fun H locs hP hD hS => ?_)
  have hP : va_P g.1 vwCl [oc_o h 11 [.int (nI 0), .ref q_1, .int (nI 0), .ref q_2, .int (nI 0), .int (nI 0), .int (nI 0), .ref q_3, .ref q_29, .int (nI 0), .int (nI 0), .ref q_59, .int (nI 0), .int (nI 0), .int (nI 0), .int (nI 0), .ref q_60, .ref q_61, .ref q_62, .ref q_63, .ref q_64, .ref q_65, .ref q_66, .ref q_67, .ref q_68, .ref q_69, .null, .null, .null, .int (nI 0), .null, .int (nI 0)], oc_i g q_1 1220 (fun _ => 0), oc_i g q_59 2900 (fun _ => 0), oc_i g q_60 928 (fun _ => 0), oc_i g q_62 929 (fun _ => 0), oc_i g q_65 1860 (fun _ => 0), oc_i g q_69 1860 (fun _ => 0)] H := hP
  have hD : va_D A [oc_o h 11 [.int (nI 0), .ref q_1, .int (nI 0), .ref q_2, .int (nI 0), .int (nI 0), .int (nI 0), .ref q_3, .ref q_29, .int (nI 0), .int (nI 0), .ref q_59, .int (nI 0), .int (nI 0), .int (nI 0), .int (nI 0), .ref q_60, .ref q_61, .ref q_62, .ref q_63, .ref q_64, .ref q_65, .ref q_66, .ref q_67, .ref q_68, .ref q_69, .null, .null, .null, .int (nI 0), .null, .int (nI 0)], oc_i g q_1 1220 (fun _ => 0), oc_i g q_59 2900 (fun _ => 0), oc_i g q_60 928 (fun _ => 0), oc_i g q_62 929 (fun _ => 0), oc_i g q_65 1860 (fun _ => 0), oc_i g q_69 1860 (fun _ => 0)] := hD
  refine xw_sub (wr := [oc_o h 11 [.int (nI 0), .ref q_1, .int (nI 0), .ref q_2, .int (nI 0), .int (nI 0), .int (nI 0), .ref q_3, .ref q_29, .int (nI 0), .int (nI 0), .ref q_59, .int (nI 0), .int (nI 0), .int (nI 0), .int (nI 0), .ref q_60, .ref q_61, .ref q_62, .ref q_63, .ref q_64, .ref q_65, .ref q_66, .ref q_67, .ref q_68, .ref q_69, .null, .null, .null, .int (nI 0), .null, .int (nI 0)], oc_i g q_1 1220 (fun _ => 0), oc_i g q_59 2900 (fun _ => 0), oc_i g q_60 928 (fun _ => 0), oc_i g q_62 929 (fun _ => 0), oc_i g q_65 1860 (fun _ => 0)]) hP hD [0, 1, 2, 3, 4, 5] (by decide) rfl (fun hP hD => ?_)
  refine lv_aload_n hx hb dd_MO_init_448 rfl (lv_at hl 0 rfl) ?_
  refine lv_sipush (v := nI 1860) hx hb dd_MO_init_449 (by decide) ?_
  refine xa_newI (k1 := 16) (k2 := 24139) hx hb (hts _ wa_int) hK hP hD hS hA (by decide) rfl rfl (Nat.le_of_ble_eq_true rfl) (Nat.le_of_ble_eq_true rfl) dd_MO_init_452 (fun q_70 H hP hD hS => ?_)
  have hP : va_P g.1 vwCl [oc_o h 11 [.int (nI 0), .ref q_1, .int (nI 0), .ref q_2, .int (nI 0), .int (nI 0), .int (nI 0), .ref q_3, .ref q_29, .int (nI 0), .int (nI 0), .ref q_59, .int (nI 0), .int (nI 0), .int (nI 0), .int (nI 0), .ref q_60, .ref q_61, .ref q_62, .ref q_63, .ref q_64, .ref q_65, .ref q_66, .ref q_67, .ref q_68, .ref q_69, .null, .null, .null, .int (nI 0), .null, .int (nI 0)], oc_i g q_1 1220 (fun _ => 0), oc_i g q_59 2900 (fun _ => 0), oc_i g q_60 928 (fun _ => 0), oc_i g q_62 929 (fun _ => 0), oc_i g q_65 1860 (fun _ => 0), oc_i g q_70 1860 (fun _ => 0)] H := hP
  have hD : va_D A [oc_o h 11 [.int (nI 0), .ref q_1, .int (nI 0), .ref q_2, .int (nI 0), .int (nI 0), .int (nI 0), .ref q_3, .ref q_29, .int (nI 0), .int (nI 0), .ref q_59, .int (nI 0), .int (nI 0), .int (nI 0), .int (nI 0), .ref q_60, .ref q_61, .ref q_62, .ref q_63, .ref q_64, .ref q_65, .ref q_66, .ref q_67, .ref q_68, .ref q_69, .null, .null, .null, .int (nI 0), .null, .int (nI 0)], oc_i g q_1 1220 (fun _ => 0), oc_i g q_59 2900 (fun _ => 0), oc_i g q_60 928 (fun _ => 0), oc_i g q_62 929 (fun _ => 0), oc_i g q_65 1860 (fun _ => 0), oc_i g q_70 1860 (fun _ => 0)] := hD
  refine pf_MO_56 hin hx hb hts hown hK hP hD hS 0 rfl rfl rfl (Nat.le_of_ble_eq_true rfl) dd_MO_init_454 (fun H locs hP hD hS => ?_)
  have hP : va_P g.1 vwCl [oc_o h 11 [.int (nI 0), .ref q_1, .int (nI 0), .ref q_2, .int (nI 0), .int (nI 0), .int (nI 0), .ref q_3, .ref q_29, .int (nI 0), .int (nI 0), .ref q_59, .int (nI 0), .int (nI 0), .int (nI 0), .int (nI 0), .ref q_60, .ref q_61, .ref q_62, .ref q_63, .ref q_64, .ref q_65, .ref q_66, .ref q_67, .ref q_68, .ref q_69, .ref q_70, .null, .null, .int (nI 0), .null, .int (nI 0)], oc_i g q_1 1220 (fun _ => 0), oc_i g q_59 2900 (fun _ => 0), oc_i g q_60 928 (fun _ => 0), oc_i g q_62 929 (fun _ => 0), oc_i g q_65 1860 (fun _ => 0), oc_i g q_70 1860 (fun _ => 0)] H := hP
  have hD : va_D A [oc_o h 11 [.int (nI 0), .ref q_1, .int (nI 0), .ref q_2, .int (nI 0), .int (nI 0), .int (nI 0), .ref q_3, .ref q_29, .int (nI 0), .int (nI 0), .ref q_59, .int (nI 0), .int (nI 0), .int (nI 0), .int (nI 0), .ref q_60, .ref q_61, .ref q_62, .ref q_63, .ref q_64, .ref q_65, .ref q_66, .ref q_67, .ref q_68, .ref q_69, .ref q_70, .null, .null, .int (nI 0), .null, .int (nI 0)], oc_i g q_1 1220 (fun _ => 0), oc_i g q_59 2900 (fun _ => 0), oc_i g q_60 928 (fun _ => 0), oc_i g q_62 929 (fun _ => 0), oc_i g q_65 1860 (fun _ => 0), oc_i g q_70 1860 (fun _ => 0)] := hD
  refine lv_aload_n hx hb dd_MO_init_457 rfl (lv_at hl 0 rfl) ?_
  refine lv_sipush (v := nI 928) hx hb dd_MO_init_458 (by decide) ?_
  refine xa_newZ (k1 := 17) (k2 := 25067) hx hb (hts _ wa_boolean) hK hP hD hS hA (by decide) rfl rfl (Nat.le_of_ble_eq_true rfl) (Nat.le_of_ble_eq_true rfl) dd_MO_init_461 (fun q_71 H hP hD hS => ?_)
  have hP : va_P g.1 vwCl [oc_o h 11 [.int (nI 0), .ref q_1, .int (nI 0), .ref q_2, .int (nI 0), .int (nI 0), .int (nI 0), .ref q_3, .ref q_29, .int (nI 0), .int (nI 0), .ref q_59, .int (nI 0), .int (nI 0), .int (nI 0), .int (nI 0), .ref q_60, .ref q_61, .ref q_62, .ref q_63, .ref q_64, .ref q_65, .ref q_66, .ref q_67, .ref q_68, .ref q_69, .ref q_70, .null, .null, .int (nI 0), .null, .int (nI 0)], oc_i g q_1 1220 (fun _ => 0), oc_i g q_59 2900 (fun _ => 0), oc_i g q_60 928 (fun _ => 0), oc_i g q_62 929 (fun _ => 0), oc_i g q_65 1860 (fun _ => 0), oc_i g q_70 1860 (fun _ => 0), oc_z g q_71 928 (fun _ => 0)] H := hP
  have hD : va_D A [oc_o h 11 [.int (nI 0), .ref q_1, .int (nI 0), .ref q_2, .int (nI 0), .int (nI 0), .int (nI 0), .ref q_3, .ref q_29, .int (nI 0), .int (nI 0), .ref q_59, .int (nI 0), .int (nI 0), .int (nI 0), .int (nI 0), .ref q_60, .ref q_61, .ref q_62, .ref q_63, .ref q_64, .ref q_65, .ref q_66, .ref q_67, .ref q_68, .ref q_69, .ref q_70, .null, .null, .int (nI 0), .null, .int (nI 0)], oc_i g q_1 1220 (fun _ => 0), oc_i g q_59 2900 (fun _ => 0), oc_i g q_60 928 (fun _ => 0), oc_i g q_62 929 (fun _ => 0), oc_i g q_65 1860 (fun _ => 0), oc_i g q_70 1860 (fun _ => 0), oc_z g q_71 928 (fun _ => 0)] := hD
  refine pf_MO_59 hin hx hb hts hown hK hP hD hS 0 rfl rfl rfl (Nat.le_of_ble_eq_true rfl) dd_MO_init_463 (fun H locs hP hD hS => ?_)
  have hP : va_P g.1 vwCl [oc_o h 11 [.int (nI 0), .ref q_1, .int (nI 0), .ref q_2, .int (nI 0), .int (nI 0), .int (nI 0), .ref q_3, .ref q_29, .int (nI 0), .int (nI 0), .ref q_59, .int (nI 0), .int (nI 0), .int (nI 0), .int (nI 0), .ref q_60, .ref q_61, .ref q_62, .ref q_63, .ref q_64, .ref q_65, .ref q_66, .ref q_67, .ref q_68, .ref q_69, .ref q_70, .ref q_71, .null, .int (nI 0), .null, .int (nI 0)], oc_i g q_1 1220 (fun _ => 0), oc_i g q_59 2900 (fun _ => 0), oc_i g q_60 928 (fun _ => 0), oc_i g q_62 929 (fun _ => 0), oc_i g q_65 1860 (fun _ => 0), oc_i g q_70 1860 (fun _ => 0), oc_z g q_71 928 (fun _ => 0)] H := hP
  have hD : va_D A [oc_o h 11 [.int (nI 0), .ref q_1, .int (nI 0), .ref q_2, .int (nI 0), .int (nI 0), .int (nI 0), .ref q_3, .ref q_29, .int (nI 0), .int (nI 0), .ref q_59, .int (nI 0), .int (nI 0), .int (nI 0), .int (nI 0), .ref q_60, .ref q_61, .ref q_62, .ref q_63, .ref q_64, .ref q_65, .ref q_66, .ref q_67, .ref q_68, .ref q_69, .ref q_70, .ref q_71, .null, .int (nI 0), .null, .int (nI 0)], oc_i g q_1 1220 (fun _ => 0), oc_i g q_59 2900 (fun _ => 0), oc_i g q_60 928 (fun _ => 0), oc_i g q_62 929 (fun _ => 0), oc_i g q_65 1860 (fun _ => 0), oc_i g q_70 1860 (fun _ => 0), oc_z g q_71 928 (fun _ => 0)] := hD
  refine xw_sub (wr := [oc_o h 11 [.int (nI 0), .ref q_1, .int (nI 0), .ref q_2, .int (nI 0), .int (nI 0), .int (nI 0), .ref q_3, .ref q_29, .int (nI 0), .int (nI 0), .ref q_59, .int (nI 0), .int (nI 0), .int (nI 0), .int (nI 0), .ref q_60, .ref q_61, .ref q_62, .ref q_63, .ref q_64, .ref q_65, .ref q_66, .ref q_67, .ref q_68, .ref q_69, .ref q_70, .ref q_71, .null, .int (nI 0), .null, .int (nI 0)], oc_i g q_1 1220 (fun _ => 0), oc_i g q_59 2900 (fun _ => 0), oc_i g q_60 928 (fun _ => 0), oc_i g q_62 929 (fun _ => 0), oc_i g q_65 1860 (fun _ => 0), oc_i g q_70 1860 (fun _ => 0)]) hP hD [0, 1, 2, 3, 4, 5, 6] (by decide) rfl (fun hP hD => ?_)
  refine lv_aload_n hx hb dd_MO_init_466 rfl (lv_at hl 0 rfl) ?_
  refine lv_sipush (v := nI 1200) hx hb dd_MO_init_467 (by decide) ?_
  refine xa_newI (k1 := 18) (k2 := 26267) hx hb (hts _ wa_int) hK hP hD hS hA (by decide) rfl rfl (Nat.le_of_ble_eq_true rfl) (Nat.le_of_ble_eq_true rfl) dd_MO_init_470 (fun q_72 H hP hD hS => ?_)
  have hP : va_P g.1 vwCl [oc_o h 11 [.int (nI 0), .ref q_1, .int (nI 0), .ref q_2, .int (nI 0), .int (nI 0), .int (nI 0), .ref q_3, .ref q_29, .int (nI 0), .int (nI 0), .ref q_59, .int (nI 0), .int (nI 0), .int (nI 0), .int (nI 0), .ref q_60, .ref q_61, .ref q_62, .ref q_63, .ref q_64, .ref q_65, .ref q_66, .ref q_67, .ref q_68, .ref q_69, .ref q_70, .ref q_71, .null, .int (nI 0), .null, .int (nI 0)], oc_i g q_1 1220 (fun _ => 0), oc_i g q_59 2900 (fun _ => 0), oc_i g q_60 928 (fun _ => 0), oc_i g q_62 929 (fun _ => 0), oc_i g q_65 1860 (fun _ => 0), oc_i g q_70 1860 (fun _ => 0), oc_i g q_72 1200 (fun _ => 0)] H := hP
  have hD : va_D A [oc_o h 11 [.int (nI 0), .ref q_1, .int (nI 0), .ref q_2, .int (nI 0), .int (nI 0), .int (nI 0), .ref q_3, .ref q_29, .int (nI 0), .int (nI 0), .ref q_59, .int (nI 0), .int (nI 0), .int (nI 0), .int (nI 0), .ref q_60, .ref q_61, .ref q_62, .ref q_63, .ref q_64, .ref q_65, .ref q_66, .ref q_67, .ref q_68, .ref q_69, .ref q_70, .ref q_71, .null, .int (nI 0), .null, .int (nI 0)], oc_i g q_1 1220 (fun _ => 0), oc_i g q_59 2900 (fun _ => 0), oc_i g q_60 928 (fun _ => 0), oc_i g q_62 929 (fun _ => 0), oc_i g q_65 1860 (fun _ => 0), oc_i g q_70 1860 (fun _ => 0), oc_i g q_72 1200 (fun _ => 0)] := hD
  refine pf_MO_62 hin hx hb hts hown hK hP hD hS 0 rfl rfl rfl (Nat.le_of_ble_eq_true rfl) dd_MO_init_472 (fun H locs hP hD hS => ?_)
  have hP : va_P g.1 vwCl [oc_o h 11 [.int (nI 0), .ref q_1, .int (nI 0), .ref q_2, .int (nI 0), .int (nI 0), .int (nI 0), .ref q_3, .ref q_29, .int (nI 0), .int (nI 0), .ref q_59, .int (nI 0), .int (nI 0), .int (nI 0), .int (nI 0), .ref q_60, .ref q_61, .ref q_62, .ref q_63, .ref q_64, .ref q_65, .ref q_66, .ref q_67, .ref q_68, .ref q_69, .ref q_70, .ref q_71, .ref q_72, .int (nI 0), .null, .int (nI 0)], oc_i g q_1 1220 (fun _ => 0), oc_i g q_59 2900 (fun _ => 0), oc_i g q_60 928 (fun _ => 0), oc_i g q_62 929 (fun _ => 0), oc_i g q_65 1860 (fun _ => 0), oc_i g q_70 1860 (fun _ => 0), oc_i g q_72 1200 (fun _ => 0)] H := hP
  have hD : va_D A [oc_o h 11 [.int (nI 0), .ref q_1, .int (nI 0), .ref q_2, .int (nI 0), .int (nI 0), .int (nI 0), .ref q_3, .ref q_29, .int (nI 0), .int (nI 0), .ref q_59, .int (nI 0), .int (nI 0), .int (nI 0), .int (nI 0), .ref q_60, .ref q_61, .ref q_62, .ref q_63, .ref q_64, .ref q_65, .ref q_66, .ref q_67, .ref q_68, .ref q_69, .ref q_70, .ref q_71, .ref q_72, .int (nI 0), .null, .int (nI 0)], oc_i g q_1 1220 (fun _ => 0), oc_i g q_59 2900 (fun _ => 0), oc_i g q_60 928 (fun _ => 0), oc_i g q_62 929 (fun _ => 0), oc_i g q_65 1860 (fun _ => 0), oc_i g q_70 1860 (fun _ => 0), oc_i g q_72 1200 (fun _ => 0)] := hD
  refine xw_sub (wr := [oc_o h 11 [.int (nI 0), .ref q_1, .int (nI 0), .ref q_2, .int (nI 0), .int (nI 0), .int (nI 0), .ref q_3, .ref q_29, .int (nI 0), .int (nI 0), .ref q_59, .int (nI 0), .int (nI 0), .int (nI 0), .int (nI 0), .ref q_60, .ref q_61, .ref q_62, .ref q_63, .ref q_64, .ref q_65, .ref q_66, .ref q_67, .ref q_68, .ref q_69, .ref q_70, .ref q_71, .ref q_72, .int (nI 0), .null, .int (nI 0)], oc_i g q_1 1220 (fun _ => 0), oc_i g q_59 2900 (fun _ => 0), oc_i g q_60 928 (fun _ => 0), oc_i g q_62 929 (fun _ => 0), oc_i g q_65 1860 (fun _ => 0), oc_i g q_70 1860 (fun _ => 0)]) hP hD [0, 1, 2, 3, 4, 5, 6] (by decide) rfl (fun hP hD => ?_)
  refine lv_aload_n hx hb dd_MO_init_475 rfl (lv_at hl 0 rfl) ?_
  refine lv_bipush (v := nI 60) hx hb dd_MO_init_476 (by decide) ?_
  refine xa_newI (k1 := 19) (k2 := 26327) hx hb (hts _ wa_int) hK hP hD hS hA (by decide) rfl rfl (Nat.le_of_ble_eq_true rfl) (Nat.le_of_ble_eq_true rfl) dd_MO_init_478 (fun q_73 H hP hD hS => ?_)
  have hP : va_P g.1 vwCl [oc_o h 11 [.int (nI 0), .ref q_1, .int (nI 0), .ref q_2, .int (nI 0), .int (nI 0), .int (nI 0), .ref q_3, .ref q_29, .int (nI 0), .int (nI 0), .ref q_59, .int (nI 0), .int (nI 0), .int (nI 0), .int (nI 0), .ref q_60, .ref q_61, .ref q_62, .ref q_63, .ref q_64, .ref q_65, .ref q_66, .ref q_67, .ref q_68, .ref q_69, .ref q_70, .ref q_71, .ref q_72, .int (nI 0), .null, .int (nI 0)], oc_i g q_1 1220 (fun _ => 0), oc_i g q_59 2900 (fun _ => 0), oc_i g q_60 928 (fun _ => 0), oc_i g q_62 929 (fun _ => 0), oc_i g q_65 1860 (fun _ => 0), oc_i g q_70 1860 (fun _ => 0), oc_i g q_73 60 (fun _ => 0)] H := hP
  have hD : va_D A [oc_o h 11 [.int (nI 0), .ref q_1, .int (nI 0), .ref q_2, .int (nI 0), .int (nI 0), .int (nI 0), .ref q_3, .ref q_29, .int (nI 0), .int (nI 0), .ref q_59, .int (nI 0), .int (nI 0), .int (nI 0), .int (nI 0), .ref q_60, .ref q_61, .ref q_62, .ref q_63, .ref q_64, .ref q_65, .ref q_66, .ref q_67, .ref q_68, .ref q_69, .ref q_70, .ref q_71, .ref q_72, .int (nI 0), .null, .int (nI 0)], oc_i g q_1 1220 (fun _ => 0), oc_i g q_59 2900 (fun _ => 0), oc_i g q_60 928 (fun _ => 0), oc_i g q_62 929 (fun _ => 0), oc_i g q_65 1860 (fun _ => 0), oc_i g q_70 1860 (fun _ => 0), oc_i g q_73 60 (fun _ => 0)] := hD
  refine pf_MO_65 hin hx hb hts hown hK hP hD hS 0 rfl rfl rfl (Nat.le_of_ble_eq_true rfl) dd_MO_init_480 (fun H locs hP hD hS => ?_)
  have hP : va_P g.1 vwCl [oc_o h 11 [.int (nI 0), .ref q_1, .int (nI 0), .ref q_2, .int (nI 0), .int (nI 0), .int (nI 0), .ref q_3, .ref q_29, .int (nI 0), .int (nI 0), .ref q_59, .int (nI 0), .int (nI 0), .int (nI 0), .int (nI 0), .ref q_60, .ref q_61, .ref q_62, .ref q_63, .ref q_64, .ref q_65, .ref q_66, .ref q_67, .ref q_68, .ref q_69, .ref q_70, .ref q_71, .ref q_72, .int (nI 0), .ref q_73, .int (nI 0)], oc_i g q_1 1220 (fun _ => 0), oc_i g q_59 2900 (fun _ => 0), oc_i g q_60 928 (fun _ => 0), oc_i g q_62 929 (fun _ => 0), oc_i g q_65 1860 (fun _ => 0), oc_i g q_70 1860 (fun _ => 0), oc_i g q_73 60 (fun _ => 0)] H := hP
  have hD : va_D A [oc_o h 11 [.int (nI 0), .ref q_1, .int (nI 0), .ref q_2, .int (nI 0), .int (nI 0), .int (nI 0), .ref q_3, .ref q_29, .int (nI 0), .int (nI 0), .ref q_59, .int (nI 0), .int (nI 0), .int (nI 0), .int (nI 0), .ref q_60, .ref q_61, .ref q_62, .ref q_63, .ref q_64, .ref q_65, .ref q_66, .ref q_67, .ref q_68, .ref q_69, .ref q_70, .ref q_71, .ref q_72, .int (nI 0), .ref q_73, .int (nI 0)], oc_i g q_1 1220 (fun _ => 0), oc_i g q_59 2900 (fun _ => 0), oc_i g q_60 928 (fun _ => 0), oc_i g q_62 929 (fun _ => 0), oc_i g q_65 1860 (fun _ => 0), oc_i g q_70 1860 (fun _ => 0), oc_i g q_73 60 (fun _ => 0)] := hD
  refine xw_sub (wr := [oc_o h 11 [.int (nI 0), .ref q_1, .int (nI 0), .ref q_2, .int (nI 0), .int (nI 0), .int (nI 0), .ref q_3, .ref q_29, .int (nI 0), .int (nI 0), .ref q_59, .int (nI 0), .int (nI 0), .int (nI 0), .int (nI 0), .ref q_60, .ref q_61, .ref q_62, .ref q_63, .ref q_64, .ref q_65, .ref q_66, .ref q_67, .ref q_68, .ref q_69, .ref q_70, .ref q_71, .ref q_72, .int (nI 0), .ref q_73, .int (nI 0)], oc_i g q_1 1220 (fun _ => 0), oc_i g q_59 2900 (fun _ => 0), oc_i g q_60 928 (fun _ => 0), oc_i g q_62 929 (fun _ => 0), oc_i g q_65 1860 (fun _ => 0), oc_i g q_70 1860 (fun _ => 0)]) hP hD [0, 1, 2, 3, 4, 5, 6] (by decide) rfl (fun hP hD => ?_)
  refine lv_iconst (v := nI 1) hx hb dd_MO_init_483 (by decide) ?_
  refine lv_istore_n (lv' := [(1, .int (nI 1)), (0, .ref h)]) hx hb dd_MO_init_484 rfl hl (by decide) rfl (fun ls hl => ?_)
  refine lv_iconst (v := nI 0) hx hb dd_MO_init_485 (by decide) ?_
  refine lv_istore_n (lv' := [(2, .int (nI 0)), (1, .int (nI 1)), (0, .ref h)]) hx hb dd_MO_init_486 rfl hl (by decide) rfl (fun ls hl => ?_)
  have lp_74 : ∀ (n74 : Nat) (i : Nat) (z : Int32) (f : Nat → Int32) (H : Heap) (locs : List Loc) (ls : Array Slot), 929 - i = n74 → (i ≤ 929) → lv_has ls 3 [(0, .ref h), (1, .int z), (2, .int (nI i))] → va_P g.1 vwCl [oc_o h 11 [.int (nI 0), .ref q_1, .int (nI 0), .ref q_2, .int (nI 0), .int (nI 0), .int (nI 0), .ref q_3, .ref q_29, .int (nI 0), .int (nI 0), .ref q_59, .int (nI 0), .int (nI 0), .int (nI 0), .int (nI 0), .ref q_60, .ref q_61, .ref q_62, .ref q_63, .ref q_64, .ref q_65, .ref q_66, .ref q_67, .ref q_68, .ref q_69, .ref q_70, .ref q_71, .ref q_72, .int (nI 0), .ref q_73, .int (nI 0)], oc_i g q_1 1220 (fun _ => 0), oc_i g q_59 2900 (fun _ => 0), oc_i g q_60 928 (fun _ => 0), oc_i g q_62 929 f, oc_i g q_65 1860 (fun _ => 0), oc_i g q_70 1860 (fun _ => 0)] H → va_D A [oc_o h 11 [.int (nI 0), .ref q_1, .int (nI 0), .ref q_2, .int (nI 0), .int (nI 0), .int (nI 0), .ref q_3, .ref q_29, .int (nI 0), .int (nI 0), .ref q_59, .int (nI 0), .int (nI 0), .int (nI 0), .int (nI 0), .ref q_60, .ref q_61, .ref q_62, .ref q_63, .ref q_64, .ref q_65, .ref q_66, .ref q_67, .ref q_68, .ref q_69, .ref q_70, .ref q_71, .ref q_72, .int (nI 0), .ref q_73, .int (nI 0)], oc_i g q_1 1220 (fun _ => 0), oc_i g q_59 2900 (fun _ => 0), oc_i g q_60 928 (fun _ => 0), oc_i g q_62 929 f, oc_i g q_65 1860 (fun _ => 0), oc_i g q_70 1860 (fun _ => 0)] → va_S A s.heap H locs → W p l e { frames := 1, cells := 19, slots := 26327, locals := 12 } s m args below meth c H locs 19 26327 Q (F0 m 487 ls []) := by
    intro n74
    induction n74 using Nat.strongRecOn with
    | _ n74 ih74 =>
    intro i z f H locs ls hmn74 qi hl hP hD hS
    refine lv_iload_n hx hb dd_MO_init_487 rfl (lv_at hl 2 rfl) ?_
    refine lv_sipush (v := nI 929) hx hb dd_MO_init_488 (by decide) ?_
    refine xb_ge (tgt := 515) hx hb (by omega) (by omega) dd_MO_init_491 rfl (fun h_75 => ?_) (fun h_75 => ?_)
    · exact xr_v hx hb hr hlk hQ hP hD hS (q_1, q_2, q_3, q_29, q_59, q_60, q_61, q_62, q_63, q_64, q_65, q_66, q_67, q_68, q_69, q_70, q_71, q_72, q_73, f) trivial [0, 1, 2, 3, 4, 5, 6] (by decide) rfl (Nat.le_of_ble_eq_true rfl) (Nat.le_of_ble_eq_true rfl) dd_MO_init_515
    · refine lv_aload_n hx hb dd_MO_init_494 rfl (lv_at hl 0 rfl) ?_
      refine gf_MO_32 hx hb hts hown hK hP 0 rfl rfl dd_MO_init_495 ?_
      refine lv_iload_n hx hb dd_MO_init_498 rfl (lv_at hl 2 rfl) ?_
      refine lv_iload_n hx hb dd_MO_init_499 rfl (lv_at hl 1 rfl) ?_
      refine xa_st hx hb hK hP hD hS 4 rfl (j := i) (by omega) (by omega) dd_MO_init_500 (fun f_76 H locs hP hD hS => ?_)
      have hP : va_P g.1 vwCl [oc_o h 11 [.int (nI 0), .ref q_1, .int (nI 0), .ref q_2, .int (nI 0), .int (nI 0), .int (nI 0), .ref q_3, .ref q_29, .int (nI 0), .int (nI 0), .ref q_59, .int (nI 0), .int (nI 0), .int (nI 0), .int (nI 0), .ref q_60, .ref q_61, .ref q_62, .ref q_63, .ref q_64, .ref q_65, .ref q_66, .ref q_67, .ref q_68, .ref q_69, .ref q_70, .ref q_71, .ref q_72, .int (nI 0), .ref q_73, .int (nI 0)], oc_i g q_1 1220 (fun _ => 0), oc_i g q_59 2900 (fun _ => 0), oc_i g q_60 928 (fun _ => 0), oc_i g q_62 929 f_76, oc_i g q_65 1860 (fun _ => 0), oc_i g q_70 1860 (fun _ => 0)] H := hP
      have hD : va_D A [oc_o h 11 [.int (nI 0), .ref q_1, .int (nI 0), .ref q_2, .int (nI 0), .int (nI 0), .int (nI 0), .ref q_3, .ref q_29, .int (nI 0), .int (nI 0), .ref q_59, .int (nI 0), .int (nI 0), .int (nI 0), .int (nI 0), .ref q_60, .ref q_61, .ref q_62, .ref q_63, .ref q_64, .ref q_65, .ref q_66, .ref q_67, .ref q_68, .ref q_69, .ref q_70, .ref q_71, .ref q_72, .int (nI 0), .ref q_73, .int (nI 0)], oc_i g q_1 1220 (fun _ => 0), oc_i g q_59 2900 (fun _ => 0), oc_i g q_60 928 (fun _ => 0), oc_i g q_62 929 f_76, oc_i g q_65 1860 (fun _ => 0), oc_i g q_70 1860 (fun _ => 0)] := hD
      refine lv_iload_n hx hb dd_MO_init_501 rfl (lv_at hl 1 rfl) ?_
      refine lv_iconst (v := nI 3) hx hb dd_MO_init_502 (by decide) ?_
      refine lv_imul hx hb dd_MO_init_503 (lv_topi (fun x_77 _ => ?_))
      refine lv_sipush (v := nI 929) hx hb dd_MO_init_504 (by decide) ?_
      refine xi_remR hx hb (by decide) dd_MO_init_507 (fun x_78 => ?_)
      refine lv_istore_n (lv' := [(1, .int x_78), (0, .ref h), (2, .int (nI i))]) hx hb dd_MO_init_508 rfl hl (by decide) rfl (fun ls hl => ?_)
      refine lv_iinc (k := 2) (lv' := [(2, .int (nI (i + 1))), (1, .int x_78), (0, .ref h)]) hx hb dd_MO_init_509 hl rfl (xi_inc _) (by decide) rfl (fun ls hl => ?_)
      refine lv_goto (tgt := 487) hx hb dd_MO_init_512 rfl ?_
      exact ih74 _ (by omega) (i + 1) x_78 f_76 H locs ls rfl (by omega) (lv_sub hl [2, 1, 0] rfl) (hP.sub [0, 1, 2, 3, 4, 5, 6] rfl) (hD.sub [0, 1, 2, 3, 4, 5, 6] (by decide) rfl) hS
  exact lp_74 _ 0 (nI 1) (fun _ => 0) H locs ls rfl (by omega) (lv_sub hl [2, 1, 0] rfl) (hP.sub [0, 1, 2, 3, 4, 5, 6] rfl) (hD.sub [0, 1, 2, 3, 4, 5, 6] (by decide) rfl) hS

set_option maxHeartbeats 4000000 in
set_option maxRecDepth 100000 in
theorem cm_at (l : Launch) (g : xg_G) (h : Nat) (m_tape : Nat) (m_words : Nat) (m_mixed : Nat) (m_signs : Nat) (m_places : Nat) (m_row : Nat) (m_lost : Nat) (m_powers : Nat) (m_sums : Nat) (m_counted : Nat) (m_gone : Nat) (m_above : Nat) (m_below : Nat) (m_old : Nat) (m_now : Nat) (m_work : Nat) (m_isWrong : Nat) (m_out : Nat) (m_digits : Nat) (rr : Nat) (cc : Nat) (i : Nat) (j : Nat) : kc_I l yy_MO_at cd_MO_at 3 .int { frames := 0, cells := 0, slots := 0, locals := 0 } g [.ref h, .int (nI i), .int (nI j)] [oc_o h 11 [.int (nI 0), .ref m_tape, .int (nI 0), .ref m_words, .int (nI 0), .int (nI 0), .int (nI 0), .ref m_mixed, .ref m_signs, .int (nI rr), .int (nI cc), .ref m_places, .int (nI 0), .int (nI 0), .int (nI 0), .int (nI 0), .ref m_row, .ref m_lost, .ref m_powers, .ref m_sums, .ref m_counted, .ref m_gone, .ref m_above, .ref m_below, .ref m_old, .ref m_now, .ref m_work, .ref m_isWrong, .ref m_out, .int (nI 0), .ref m_digits, .int (nI 0)]] (S := Unit) (fun r0 _ => r0 = nI (i * (cc + 2) + j)) (fun _ => [oc_o h 11 [.int (nI 0), .ref m_tape, .int (nI 0), .ref m_words, .int (nI 0), .int (nI 0), .int (nI 0), .ref m_mixed, .ref m_signs, .int (nI rr), .int (nI cc), .ref m_places, .int (nI 0), .int (nI 0), .int (nI 0), .int (nI 0), .ref m_row, .ref m_lost, .ref m_powers, .ref m_sums, .ref m_counted, .ref m_gone, .ref m_above, .ref m_below, .ref m_old, .ref m_now, .ref m_work, .ref m_isWrong, .ref m_out, .int (nI 0), .ref m_digits, .int (nI 0)]]) := by
  refine kc_Iof (by decide) (Nat.le_of_ble_eq_true rfl) ?_
  intro p e s m args below meth c A ls Q H locs hQ hB hP hS
  obtain ⟨hx, hb, hr, hlk, hin, hml, hown, hts, hA, hK, hD, hE, hl⟩ := hB
  have hF : xf_F g p m c cd_MO_at 3 s args "StackedRowsModel" A := ⟨⟨hx, hb, hml, hown, hts⟩, hE, hK, hA⟩
  have hl : lv_has ls 3 [(0, .ref h), (1, .int (nI i)), (2, .int (nI j))] := hl
  have hown : s.vm.findClass "StackedRowsModel" = some m.cls := hown
  refine lv_iload_n hx hb dd_MO_at_0 rfl (lv_at hl 1 rfl) ?_
  refine lv_aload_n hx hb dd_MO_at_1 rfl (lv_at hl 0 rfl) ?_
  refine gf_MO_137 hx hb hts hown hK hP 0 rfl rfl dd_MO_at_2 ?_
  refine lv_iconst (v := nI 2) hx hb dd_MO_at_5 (by decide) ?_
  refine xi_iadd hx hb dd_MO_at_6 ?_
  refine xi_imul hx hb dd_MO_at_7 ?_
  refine lv_iload_n hx hb dd_MO_at_8 rfl (lv_at hl 2 rfl) ?_
  refine xi_iadd hx hb dd_MO_at_9 ?_
  exact xr_i hx hb hr hlk hQ hP hD hS () (by first | rfl | exact congrArg nI (by omega)) [0] (by decide) rfl rfl (Nat.le_of_ble_eq_true rfl) (Nat.le_of_ble_eq_true rfl) dd_MO_at_10

set_option maxHeartbeats 4000000 in
set_option maxRecDepth 100000 in
theorem cm_placeOf (l : Launch) (g : xg_G) (h : Nat) (m_tape : Nat) (m_words : Nat) (m_mixed : Nat) (m_signs : Nat) (m_places : Nat) (m_row : Nat) (m_lost : Nat) (m_powers : Nat) (m_sums : Nat) (m_counted : Nat) (m_gone : Nat) (m_above : Nat) (m_below : Nat) (m_old : Nat) (m_now : Nat) (m_work : Nat) (m_isWrong : Nat) (m_out : Nat) (m_digits : Nat) (rr : Nat) (cc : Nat) (i : Nat) (qi : i < 928) (qc : 1 ≤ cc) (qc2 : cc ≤ 30) : kc_I l yy_MO_placeOf cd_MO_placeOf 2 .int { frames := 1, cells := 0, slots := 0, locals := 22 } g [.ref h, .int (nI i)] [oc_o h 11 [.int (nI 0), .ref m_tape, .int (nI 0), .ref m_words, .int (nI 0), .int (nI 0), .int (nI 0), .ref m_mixed, .ref m_signs, .int (nI rr), .int (nI cc), .ref m_places, .int (nI 0), .int (nI 0), .int (nI 0), .int (nI 0), .ref m_row, .ref m_lost, .ref m_powers, .ref m_sums, .ref m_counted, .ref m_gone, .ref m_above, .ref m_below, .ref m_old, .ref m_now, .ref m_work, .ref m_isWrong, .ref m_out, .int (nI 0), .ref m_digits, .int (nI 0)]] (S := Unit) (fun r0 _ => r0 = nI (i / cc * (cc + 2) + (1 + i % cc))) (fun _ => [oc_o h 11 [.int (nI 0), .ref m_tape, .int (nI 0), .ref m_words, .int (nI 0), .int (nI 0), .int (nI 0), .ref m_mixed, .ref m_signs, .int (nI rr), .int (nI cc), .ref m_places, .int (nI 0), .int (nI 0), .int (nI 0), .int (nI 0), .ref m_row, .ref m_lost, .ref m_powers, .ref m_sums, .ref m_counted, .ref m_gone, .ref m_above, .ref m_below, .ref m_old, .ref m_now, .ref m_work, .ref m_isWrong, .ref m_out, .int (nI 0), .ref m_digits, .int (nI 0)]]) := by
  refine kc_Iof (by decide) (Nat.le_of_ble_eq_true rfl) ?_
  intro p e s m args below meth c A ls Q H locs hQ hB hP hS
  obtain ⟨hx, hb, hr, hlk, hin, hml, hown, hts, hA, hK, hD, hE, hl⟩ := hB
  have hF : xf_F g p m c cd_MO_placeOf 2 s args "StackedRowsModel" A := ⟨⟨hx, hb, hml, hown, hts⟩, hE, hK, hA⟩
  have hl : lv_has ls 2 [(0, .ref h), (1, .int (nI i))] := hl
  have hown : s.vm.findClass "StackedRowsModel" = some m.cls := hown
  refine lv_aload_n hx hb dd_MO_placeOf_0 rfl (lv_at hl 0 rfl) ?_
  refine lv_iload_n hx hb dd_MO_placeOf_1 rfl (lv_at hl 1 rfl) ?_
  refine lv_aload_n hx hb dd_MO_placeOf_2 rfl (lv_at hl 0 rfl) ?_
  refine gf_MO_137 hx hb hts hown hK hP 0 rfl rfl dd_MO_placeOf_3 ?_
  refine xi_idiv hx hb (by omega) (by omega) (by omega) dd_MO_placeOf_6 ?_
  refine lv_iconst (v := nI 1) hx hb dd_MO_placeOf_7 (by decide) ?_
  refine lv_iload_n hx hb dd_MO_placeOf_8 rfl (lv_at hl 1 rfl) ?_
  refine lv_aload_n hx hb dd_MO_placeOf_9 rfl (lv_at hl 0 rfl) ?_
  refine gf_MO_137 hx hb hts hown hK hP 0 rfl rfl dd_MO_placeOf_10 ?_
  refine xi_irem hx hb (by omega) (by omega) (by omega) dd_MO_placeOf_13 ?_
  refine xi_iadd hx hb dd_MO_placeOf_14 ?_
  refine xc_Vi (wr := []) (k1 := 0) (k2 := 0) (As := [.int (nI (i / cc)), .int (nI (1 + (i % cc)))]) (rest := []) (k := 2) hF hP hD hS (cm_at l g h m_tape m_words m_mixed m_signs m_places m_row m_lost m_powers m_sums m_counted m_gone m_above m_below m_old m_now m_work m_isWrong m_out m_digits rr cc (i / cc) (1 + (i % cc))) (xt_V ml_MO_140 wi_MO_at wx_MO_at wn_MO wc_MO_at) (by decide) 0 rfl rfl rfl [0] [] ⟨rfl, rfl, by decide, by decide, by decide⟩ ⟨⟨Nat.le_of_ble_eq_true rfl, Nat.le_of_ble_eq_true rfl⟩, rfl, rfl, Nat.le_of_ble_eq_true rfl, Nat.le_of_ble_eq_true rfl⟩ rfl hl.1 rfl (Nat.le_of_ble_eq_true rfl) dd_MO_placeOf_15 (fun r_1 u H locs hp hP hD hS => ?_)
  obtain rfl := hp
  have hP : va_P g.1 vwCl [oc_o h 11 [.int (nI 0), .ref m_tape, .int (nI 0), .ref m_words, .int (nI 0), .int (nI 0), .int (nI 0), .ref m_mixed, .ref m_signs, .int (nI rr), .int (nI cc), .ref m_places, .int (nI 0), .int (nI 0), .int (nI 0), .int (nI 0), .ref m_row, .ref m_lost, .ref m_powers, .ref m_sums, .ref m_counted, .ref m_gone, .ref m_above, .ref m_below, .ref m_old, .ref m_now, .ref m_work, .ref m_isWrong, .ref m_out, .int (nI 0), .ref m_digits, .int (nI 0)]] H := hP
  have hD : va_D A [oc_o h 11 [.int (nI 0), .ref m_tape, .int (nI 0), .ref m_words, .int (nI 0), .int (nI 0), .int (nI 0), .ref m_mixed, .ref m_signs, .int (nI rr), .int (nI cc), .ref m_places, .int (nI 0), .int (nI 0), .int (nI 0), .int (nI 0), .ref m_row, .ref m_lost, .ref m_powers, .ref m_sums, .ref m_counted, .ref m_gone, .ref m_above, .ref m_below, .ref m_old, .ref m_now, .ref m_work, .ref m_isWrong, .ref m_out, .int (nI 0), .ref m_digits, .int (nI 0)]] := hD
  exact xr_i hx hb hr hlk hQ hP hD hS () (by first | rfl | exact congrArg nI (by omega)) [0] (by decide) rfl rfl (Nat.le_of_ble_eq_true rfl) (Nat.le_of_ble_eq_true rfl) dd_MO_placeOf_18

set_option maxHeartbeats 4000000 in
set_option maxRecDepth 100000 in
theorem cm_ind0 (l : Launch) (g : xg_G) (h : Nat) (m_tape : Nat) (m_words : Nat) (m_mixed : Nat) (m_signs : Nat) (m_places : Nat) (m_row : Nat) (m_lost : Nat) (m_powers : Nat) (m_sums : Nat) (m_counted : Nat) (m_gone : Nat) (m_above : Nat) (m_below : Nat) (m_old : Nat) (m_now : Nat) (m_work : Nat) (m_isWrong : Nat) (m_out : Nat) (m_digits : Nat) (rr : Nat) (cc : Nat) (i : Nat) (L : Nat) (qi : i < 928) (qL : L ≤ 8) (qr : 3 ≤ rr) (qr2 : rr ≤ 90) (qc : 1 ≤ cc) (qc2 : cc ≤ 30) : kc_I l yy_MO_indicator cd_MO_indicator 6 .int { frames := 0, cells := 0, slots := 0, locals := 0 } g [.ref h, .int (nI i), .int (nI 0), .int (nI L)] [oc_o h 11 [.int (nI 0), .ref m_tape, .int (nI 0), .ref m_words, .int (nI 0), .int (nI 0), .int (nI 0), .ref m_mixed, .ref m_signs, .int (nI rr), .int (nI cc), .ref m_places, .int (nI 0), .int (nI 0), .int (nI 0), .int (nI 0), .ref m_row, .ref m_lost, .ref m_powers, .ref m_sums, .ref m_counted, .ref m_gone, .ref m_above, .ref m_below, .ref m_old, .ref m_now, .ref m_work, .ref m_isWrong, .ref m_out, .int (nI 0), .ref m_digits, .int (nI 0)]] (S := Unit) (fun _ _ => True) (fun _ => [oc_o h 11 [.int (nI 0), .ref m_tape, .int (nI 0), .ref m_words, .int (nI 0), .int (nI 0), .int (nI 0), .ref m_mixed, .ref m_signs, .int (nI rr), .int (nI cc), .ref m_places, .int (nI 0), .int (nI 0), .int (nI 0), .int (nI 0), .ref m_row, .ref m_lost, .ref m_powers, .ref m_sums, .ref m_counted, .ref m_gone, .ref m_above, .ref m_below, .ref m_old, .ref m_now, .ref m_work, .ref m_isWrong, .ref m_out, .int (nI 0), .ref m_digits, .int (nI 0)]]) := by
  refine kc_Iof (by decide) (Nat.le_of_ble_eq_true rfl) ?_
  intro p e s m args below meth c A ls Q H locs hQ hB hP hS
  obtain ⟨hx, hb, hr, hlk, hin, hml, hown, hts, hA, hK, hD, hE, hl⟩ := hB
  have hF : xf_F g p m c cd_MO_indicator 6 s args "StackedRowsModel" A := ⟨⟨hx, hb, hml, hown, hts⟩, hE, hK, hA⟩
  have hl : lv_has ls 6 [(0, .ref h), (1, .int (nI i)), (2, .int (nI 0)), (3, .int (nI L))] := hl
  have hown : s.vm.findClass "StackedRowsModel" = some m.cls := hown
  refine lv_iload_n hx hb dd_MO_indicator_0 rfl (lv_at hl 2 rfl) ?_
  refine lv_if_eq (tgt := 12) hx hb dd_MO_indicator_1 rfl (fun _ => ?_) (fun h_1 => absurd (by decide) h_1)
  refine lv_iload_n hx hb dd_MO_indicator_12 rfl (lv_at hl 1 rfl) ?_
  refine lv_iconst (v := nI 3) hx hb dd_MO_indicator_13 (by decide) ?_
  refine xi_irem hx hb (by omega) (by omega) (by omega) dd_MO_indicator_14 ?_
  refine lv_istore (lv' := [(4, .int (nI (i % 3))), (0, .ref h), (1, .int (nI i)), (2, .int (nI 0)), (3, .int (nI L))]) hx hb dd_MO_indicator_15 hl (by decide) rfl (fun ls hl => ?_)
  refine lv_iload hx hb dd_MO_indicator_17 (lv_at hl 0 rfl) ?_
  refine xb_zne (tgt := 33) hx hb (by omega) dd_MO_indicator_19 rfl (fun h_2 => ?_) (fun h_2 => ?_)
  · refine lv_iload hx hb dd_MO_indicator_33 (lv_at hl 0 rfl) ?_
    refine lv_iconst (v := nI 1) hx hb dd_MO_indicator_35 (by decide) ?_
    refine xb_ne (tgt := 54) hx hb (by omega) (by omega) dd_MO_indicator_36 rfl (fun h_3 => ?_) (fun h_3 => ?_)
    · refine lv_aload_n hx hb dd_MO_indicator_54 rfl (lv_at hl 1 rfl) ?_
      refine gf_MO_137 hx hb hts hown hK hP 0 rfl rfl dd_MO_indicator_55 ?_
      refine lv_iconst (v := nI 1) hx hb dd_MO_indicator_58 (by decide) ?_
      refine xi_isub hx hb (by omega) dd_MO_indicator_59 ?_
      refine lv_istore (lv' := [(5, .int (nI (cc - 1))), (4, .int (nI (i % 3))), (0, .ref h), (1, .int (nI i)), (2, .int (nI 0)), (3, .int (nI L))]) hx hb dd_MO_indicator_60 hl (by decide) rfl (fun ls hl => ?_)
      refine lv_bipush (v := nI 30) hx hb dd_MO_indicator_62 (by decide) ?_
      refine lv_iload_n hx hb dd_MO_indicator_64 rfl (lv_at hl 3 rfl) ?_
      refine lv_iconst (v := nI 3) hx hb dd_MO_indicator_65 (by decide) ?_
      refine xi_idiv hx hb (by omega) (by omega) (by omega) dd_MO_indicator_66 ?_
      refine xi_imul hx hb dd_MO_indicator_67 ?_
      refine lv_iload hx hb dd_MO_indicator_68 (lv_at hl 0 rfl) ?_
      refine xi_iadd hx hb dd_MO_indicator_70 ?_
      exact xr_i hx hb hr hlk hQ hP hD hS () trivial [0] (by decide) rfl rfl (Nat.le_of_ble_eq_true rfl) (Nat.le_of_ble_eq_true rfl) dd_MO_indicator_71
    · refine lv_iconst (v := nI 3) hx hb dd_MO_indicator_39 (by decide) ?_
      refine lv_iload_n hx hb dd_MO_indicator_40 rfl (lv_at hl 4 rfl) ?_
      refine xi_imul hx hb dd_MO_indicator_41 ?_
      refine lv_aload_n hx hb dd_MO_indicator_42 rfl (lv_at hl 1 rfl) ?_
      refine gf_MO_134 hx hb hts hown hK hP 0 rfl rfl dd_MO_indicator_43 ?_
      refine lv_iconst (v := nI 1) hx hb dd_MO_indicator_46 (by decide) ?_
      refine xi_isub hx hb (by omega) dd_MO_indicator_47 ?_
      refine lv_iconst (v := nI 3) hx hb dd_MO_indicator_48 (by decide) ?_
      refine xi_irem hx hb (by omega) (by omega) (by omega) dd_MO_indicator_49 ?_
      refine xi_iadd hx hb dd_MO_indicator_50 ?_
      refine lv_goto (tgt := 60) hx hb dd_MO_indicator_51 rfl ?_
      refine lv_istore (lv' := [(5, .int (nI (3 * L + ((rr - 1) % 3)))), (4, .int (nI (i % 3))), (0, .ref h), (1, .int (nI i)), (2, .int (nI 0)), (3, .int (nI L))]) hx hb dd_MO_indicator_60 hl (by decide) rfl (fun ls hl => ?_)
      refine lv_bipush (v := nI 30) hx hb dd_MO_indicator_62 (by decide) ?_
      refine lv_iload_n hx hb dd_MO_indicator_64 rfl (lv_at hl 3 rfl) ?_
      refine lv_iconst (v := nI 3) hx hb dd_MO_indicator_65 (by decide) ?_
      refine xi_idiv hx hb (by omega) (by omega) (by omega) dd_MO_indicator_66 ?_
      refine xi_imul hx hb dd_MO_indicator_67 ?_
      refine lv_iload hx hb dd_MO_indicator_68 (lv_at hl 0 rfl) ?_
      refine xi_iadd hx hb dd_MO_indicator_70 ?_
      exact xr_i hx hb hr hlk hQ hP hD hS () trivial [0] (by decide) rfl rfl (Nat.le_of_ble_eq_true rfl) (Nat.le_of_ble_eq_true rfl) dd_MO_indicator_71
  · refine lv_aload_n hx hb dd_MO_indicator_22 rfl (lv_at hl 1 rfl) ?_
    refine gf_MO_134 hx hb hts hown hK hP 0 rfl rfl dd_MO_indicator_23 ?_
    refine lv_iconst (v := nI 1) hx hb dd_MO_indicator_26 (by decide) ?_
    refine xi_isub hx hb (by omega) dd_MO_indicator_27 ?_
    refine lv_iconst (v := nI 3) hx hb dd_MO_indicator_28 (by decide) ?_
    refine xi_idiv hx hb (by omega) (by omega) (by omega) dd_MO_indicator_29 ?_
    refine lv_goto (tgt := 60) hx hb dd_MO_indicator_30 rfl ?_
    refine lv_istore (lv' := [(5, .int (nI ((rr - 1) / 3))), (4, .int (nI (i % 3))), (0, .ref h), (1, .int (nI i)), (2, .int (nI 0)), (3, .int (nI L))]) hx hb dd_MO_indicator_60 hl (by decide) rfl (fun ls hl => ?_)
    refine lv_bipush (v := nI 30) hx hb dd_MO_indicator_62 (by decide) ?_
    refine lv_iload_n hx hb dd_MO_indicator_64 rfl (lv_at hl 3 rfl) ?_
    refine lv_iconst (v := nI 3) hx hb dd_MO_indicator_65 (by decide) ?_
    refine xi_idiv hx hb (by omega) (by omega) (by omega) dd_MO_indicator_66 ?_
    refine xi_imul hx hb dd_MO_indicator_67 ?_
    refine lv_iload hx hb dd_MO_indicator_68 (lv_at hl 0 rfl) ?_
    refine xi_iadd hx hb dd_MO_indicator_70 ?_
    exact xr_i hx hb hr hlk hQ hP hD hS () trivial [0] (by decide) rfl rfl (Nat.le_of_ble_eq_true rfl) (Nat.le_of_ble_eq_true rfl) dd_MO_indicator_71

set_option maxHeartbeats 4000000 in
set_option maxRecDepth 100000 in
theorem cm_ind1 (l : Launch) (g : xg_G) (h : Nat) (m_tape : Nat) (m_words : Nat) (m_mixed : Nat) (m_signs : Nat) (m_places : Nat) (m_row : Nat) (m_lost : Nat) (m_powers : Nat) (m_sums : Nat) (m_counted : Nat) (m_gone : Nat) (m_above : Nat) (m_below : Nat) (m_old : Nat) (m_now : Nat) (m_work : Nat) (m_isWrong : Nat) (m_out : Nat) (m_digits : Nat) (rr : Nat) (cc : Nat) (i : Nat) (L : Nat) (qi : i < 928) (qL : L ≤ 8) (qr : 3 ≤ rr) (qr2 : rr ≤ 90) (qc : 1 ≤ cc) (qc2 : cc ≤ 30) : kc_I l yy_MO_indicator cd_MO_indicator 6 .int { frames := 0, cells := 0, slots := 0, locals := 0 } g [.ref h, .int (nI i), .int (nI 1), .int (nI L)] [oc_o h 11 [.int (nI 0), .ref m_tape, .int (nI 0), .ref m_words, .int (nI 0), .int (nI 0), .int (nI 0), .ref m_mixed, .ref m_signs, .int (nI rr), .int (nI cc), .ref m_places, .int (nI 0), .int (nI 0), .int (nI 0), .int (nI 0), .ref m_row, .ref m_lost, .ref m_powers, .ref m_sums, .ref m_counted, .ref m_gone, .ref m_above, .ref m_below, .ref m_old, .ref m_now, .ref m_work, .ref m_isWrong, .ref m_out, .int (nI 0), .ref m_digits, .int (nI 0)]] (S := Unit) (fun _ _ => True) (fun _ => [oc_o h 11 [.int (nI 0), .ref m_tape, .int (nI 0), .ref m_words, .int (nI 0), .int (nI 0), .int (nI 0), .ref m_mixed, .ref m_signs, .int (nI rr), .int (nI cc), .ref m_places, .int (nI 0), .int (nI 0), .int (nI 0), .int (nI 0), .ref m_row, .ref m_lost, .ref m_powers, .ref m_sums, .ref m_counted, .ref m_gone, .ref m_above, .ref m_below, .ref m_old, .ref m_now, .ref m_work, .ref m_isWrong, .ref m_out, .int (nI 0), .ref m_digits, .int (nI 0)]]) := by
  refine kc_Iof (by decide) (Nat.le_of_ble_eq_true rfl) ?_
  intro p e s m args below meth c A ls Q H locs hQ hB hP hS
  obtain ⟨hx, hb, hr, hlk, hin, hml, hown, hts, hA, hK, hD, hE, hl⟩ := hB
  have hF : xf_F g p m c cd_MO_indicator 6 s args "StackedRowsModel" A := ⟨⟨hx, hb, hml, hown, hts⟩, hE, hK, hA⟩
  have hl : lv_has ls 6 [(0, .ref h), (1, .int (nI i)), (2, .int (nI 1)), (3, .int (nI L))] := hl
  have hown : s.vm.findClass "StackedRowsModel" = some m.cls := hown
  refine lv_iload_n hx hb dd_MO_indicator_0 rfl (lv_at hl 2 rfl) ?_
  refine lv_if_eq (tgt := 12) hx hb dd_MO_indicator_1 rfl (fun h_1 => absurd h_1 (by decide)) (fun _ => ?_)
  refine lv_iload_n hx hb dd_MO_indicator_4 rfl (lv_at hl 1 rfl) ?_
  refine lv_iconst (v := nI 2) hx hb dd_MO_indicator_5 (by decide) ?_
  refine xi_iadd hx hb dd_MO_indicator_6 ?_
  refine lv_iconst (v := nI 3) hx hb dd_MO_indicator_7 (by decide) ?_
  refine xi_irem hx hb (by omega) (by omega) (by omega) dd_MO_indicator_8 ?_
  refine lv_goto (tgt := 15) hx hb dd_MO_indicator_9 rfl ?_
  refine lv_istore (lv' := [(4, .int (nI ((i + 2) % 3))), (0, .ref h), (1, .int (nI i)), (2, .int (nI 1)), (3, .int (nI L))]) hx hb dd_MO_indicator_15 hl (by decide) rfl (fun ls hl => ?_)
  refine lv_iload hx hb dd_MO_indicator_17 (lv_at hl 0 rfl) ?_
  refine xb_zne (tgt := 33) hx hb (by omega) dd_MO_indicator_19 rfl (fun h_2 => ?_) (fun h_2 => ?_)
  · refine lv_iload hx hb dd_MO_indicator_33 (lv_at hl 0 rfl) ?_
    refine lv_iconst (v := nI 1) hx hb dd_MO_indicator_35 (by decide) ?_
    refine xb_ne (tgt := 54) hx hb (by omega) (by omega) dd_MO_indicator_36 rfl (fun h_3 => ?_) (fun h_3 => ?_)
    · refine lv_aload_n hx hb dd_MO_indicator_54 rfl (lv_at hl 1 rfl) ?_
      refine gf_MO_137 hx hb hts hown hK hP 0 rfl rfl dd_MO_indicator_55 ?_
      refine lv_iconst (v := nI 1) hx hb dd_MO_indicator_58 (by decide) ?_
      refine xi_isub hx hb (by omega) dd_MO_indicator_59 ?_
      refine lv_istore (lv' := [(5, .int (nI (cc - 1))), (4, .int (nI ((i + 2) % 3))), (0, .ref h), (1, .int (nI i)), (2, .int (nI 1)), (3, .int (nI L))]) hx hb dd_MO_indicator_60 hl (by decide) rfl (fun ls hl => ?_)
      refine lv_bipush (v := nI 30) hx hb dd_MO_indicator_62 (by decide) ?_
      refine lv_iload_n hx hb dd_MO_indicator_64 rfl (lv_at hl 3 rfl) ?_
      refine lv_iconst (v := nI 3) hx hb dd_MO_indicator_65 (by decide) ?_
      refine xi_idiv hx hb (by omega) (by omega) (by omega) dd_MO_indicator_66 ?_
      refine xi_imul hx hb dd_MO_indicator_67 ?_
      refine lv_iload hx hb dd_MO_indicator_68 (lv_at hl 0 rfl) ?_
      refine xi_iadd hx hb dd_MO_indicator_70 ?_
      exact xr_i hx hb hr hlk hQ hP hD hS () trivial [0] (by decide) rfl rfl (Nat.le_of_ble_eq_true rfl) (Nat.le_of_ble_eq_true rfl) dd_MO_indicator_71
    · refine lv_iconst (v := nI 3) hx hb dd_MO_indicator_39 (by decide) ?_
      refine lv_iload_n hx hb dd_MO_indicator_40 rfl (lv_at hl 4 rfl) ?_
      refine xi_imul hx hb dd_MO_indicator_41 ?_
      refine lv_aload_n hx hb dd_MO_indicator_42 rfl (lv_at hl 1 rfl) ?_
      refine gf_MO_134 hx hb hts hown hK hP 0 rfl rfl dd_MO_indicator_43 ?_
      refine lv_iconst (v := nI 1) hx hb dd_MO_indicator_46 (by decide) ?_
      refine xi_isub hx hb (by omega) dd_MO_indicator_47 ?_
      refine lv_iconst (v := nI 3) hx hb dd_MO_indicator_48 (by decide) ?_
      refine xi_irem hx hb (by omega) (by omega) (by omega) dd_MO_indicator_49 ?_
      refine xi_iadd hx hb dd_MO_indicator_50 ?_
      refine lv_goto (tgt := 60) hx hb dd_MO_indicator_51 rfl ?_
      refine lv_istore (lv' := [(5, .int (nI (3 * L + ((rr - 1) % 3)))), (4, .int (nI ((i + 2) % 3))), (0, .ref h), (1, .int (nI i)), (2, .int (nI 1)), (3, .int (nI L))]) hx hb dd_MO_indicator_60 hl (by decide) rfl (fun ls hl => ?_)
      refine lv_bipush (v := nI 30) hx hb dd_MO_indicator_62 (by decide) ?_
      refine lv_iload_n hx hb dd_MO_indicator_64 rfl (lv_at hl 3 rfl) ?_
      refine lv_iconst (v := nI 3) hx hb dd_MO_indicator_65 (by decide) ?_
      refine xi_idiv hx hb (by omega) (by omega) (by omega) dd_MO_indicator_66 ?_
      refine xi_imul hx hb dd_MO_indicator_67 ?_
      refine lv_iload hx hb dd_MO_indicator_68 (lv_at hl 0 rfl) ?_
      refine xi_iadd hx hb dd_MO_indicator_70 ?_
      exact xr_i hx hb hr hlk hQ hP hD hS () trivial [0] (by decide) rfl rfl (Nat.le_of_ble_eq_true rfl) (Nat.le_of_ble_eq_true rfl) dd_MO_indicator_71
  · refine lv_aload_n hx hb dd_MO_indicator_22 rfl (lv_at hl 1 rfl) ?_
    refine gf_MO_134 hx hb hts hown hK hP 0 rfl rfl dd_MO_indicator_23 ?_
    refine lv_iconst (v := nI 1) hx hb dd_MO_indicator_26 (by decide) ?_
    refine xi_isub hx hb (by omega) dd_MO_indicator_27 ?_
    refine lv_iconst (v := nI 3) hx hb dd_MO_indicator_28 (by decide) ?_
    refine xi_idiv hx hb (by omega) (by omega) (by omega) dd_MO_indicator_29 ?_
    refine lv_goto (tgt := 60) hx hb dd_MO_indicator_30 rfl ?_
    refine lv_istore (lv' := [(5, .int (nI ((rr - 1) / 3))), (4, .int (nI ((i + 2) % 3))), (0, .ref h), (1, .int (nI i)), (2, .int (nI 1)), (3, .int (nI L))]) hx hb dd_MO_indicator_60 hl (by decide) rfl (fun ls hl => ?_)
    refine lv_bipush (v := nI 30) hx hb dd_MO_indicator_62 (by decide) ?_
    refine lv_iload_n hx hb dd_MO_indicator_64 rfl (lv_at hl 3 rfl) ?_
    refine lv_iconst (v := nI 3) hx hb dd_MO_indicator_65 (by decide) ?_
    refine xi_idiv hx hb (by omega) (by omega) (by omega) dd_MO_indicator_66 ?_
    refine xi_imul hx hb dd_MO_indicator_67 ?_
    refine lv_iload hx hb dd_MO_indicator_68 (lv_at hl 0 rfl) ?_
    refine xi_iadd hx hb dd_MO_indicator_70 ?_
    exact xr_i hx hb hr hlk hQ hP hD hS () trivial [0] (by decide) rfl rfl (Nat.le_of_ble_eq_true rfl) (Nat.le_of_ble_eq_true rfl) dd_MO_indicator_71

set_option maxHeartbeats 4000000 in
set_option maxRecDepth 100000 in
theorem cm_checks (l : Launch) (g : xg_G) (h : Nat) (m_tape : Nat) (m_words : Nat) (m_mixed : Nat) (m_signs : Nat) (m_places : Nat) (m_row : Nat) (m_lost : Nat) (m_powers : Nat) (m_sums : Nat) (m_counted : Nat) (m_gone : Nat) (m_above : Nat) (m_below : Nat) (m_old : Nat) (m_now : Nat) (m_work : Nat) (m_isWrong : Nat) (m_out : Nat) (m_digits : Nat) (rr : Nat) (cc : Nat) (nn : Nat) (K : Nat) (f1 : Nat → Int32) (f2 : Nat → Int32) (f3 : Nat → Int32) (f4 : Nat → Int32) (qK : 2 ≤ K ∧ K ≤ 512) (qn : nn ≤ 928) (qn2 : K + 1 ≤ nn) : kc_V l yy_MO_makeChecks cd_MO_makeChecks 6 { frames := 0, cells := 0, slots := 0, locals := 0 } g [.ref h, .int (nI nn), .int (nI K)] [oc_o h 11 [.int (nI 0), .ref m_tape, .int (nI 0), .ref m_words, .int (nI 0), .int (nI 0), .int (nI 0), .ref m_mixed, .ref m_signs, .int (nI rr), .int (nI cc), .ref m_places, .int (nI 0), .int (nI 0), .int (nI 0), .int (nI 0), .ref m_row, .ref m_lost, .ref m_powers, .ref m_sums, .ref m_counted, .ref m_gone, .ref m_above, .ref m_below, .ref m_old, .ref m_now, .ref m_work, .ref m_isWrong, .ref m_out, .int (nI 0), .ref m_digits, .int (nI 0)], oc_i g m_row 928 f1, oc_i g m_powers 929 f4, oc_i g m_gone 1860 f2, oc_i g m_work 1860 f3] (S := (Nat → Int32) × (Nat → Int32) × (Nat → Int32)) (fun _ => True) (fun u0 => [oc_o h 11 [.int (nI 0), .ref m_tape, .int (nI 0), .ref m_words, .int (nI 0), .int (nI 0), .int (nI 0), .ref m_mixed, .ref m_signs, .int (nI rr), .int (nI cc), .ref m_places, .int (nI 0), .int (nI 0), .int (nI 0), .int (nI 0), .ref m_row, .ref m_lost, .ref m_powers, .ref m_sums, .ref m_counted, .ref m_gone, .ref m_above, .ref m_below, .ref m_old, .ref m_now, .ref m_work, .ref m_isWrong, .ref m_out, .int (nI 0), .ref m_digits, .int (nI 0)], oc_i g m_row 928 u0.1, oc_i g m_powers 929 f4, oc_i g m_gone 1860 u0.2.1, oc_i g m_work 1860 u0.2.2]) := by
  refine kc_Vof (by decide) (Nat.le_of_ble_eq_true rfl) ?_
  intro p e s m args below meth c A ls Q H locs hQ hB hP hS
  obtain ⟨hx, hb, hr, hlk, hin, hml, hown, hts, hA, hK, hD, hE, hl⟩ := hB
  have hF : xf_F g p m c cd_MO_makeChecks 6 s args "StackedRowsModel" A := ⟨⟨hx, hb, hml, hown, hts⟩, hE, hK, hA⟩
  have hl : lv_has ls 6 [(0, .ref h), (1, .int (nI nn)), (2, .int (nI K))] := hl
  have hown : s.vm.findClass "StackedRowsModel" = some m.cls := hown
  refine lv_iconst (v := nI 0) hx hb dd_MO_makeChecks_0 (by decide) ?_
  refine lv_istore_n (lv' := [(3, .int (nI 0)), (0, .ref h), (1, .int (nI nn)), (2, .int (nI K))]) hx hb dd_MO_makeChecks_1 rfl hl (by decide) rfl (fun ls hl => ?_)
  have lp_1 : ∀ (n1 : Nat) (i : Nat) (f1 : Nat → Int32) (f2 : Nat → Int32) (f3 : Nat → Int32) (H : Heap) (locs : List Loc) (ls : Array Slot), K + 1 - i = n1 → (i ≤ K + 1) → lv_has ls 6 [(0, .ref h), (1, .int (nI nn)), (2, .int (nI K)), (3, .int (nI i))] → va_P g.1 vwCl [oc_o h 11 [.int (nI 0), .ref m_tape, .int (nI 0), .ref m_words, .int (nI 0), .int (nI 0), .int (nI 0), .ref m_mixed, .ref m_signs, .int (nI rr), .int (nI cc), .ref m_places, .int (nI 0), .int (nI 0), .int (nI 0), .int (nI 0), .ref m_row, .ref m_lost, .ref m_powers, .ref m_sums, .ref m_counted, .ref m_gone, .ref m_above, .ref m_below, .ref m_old, .ref m_now, .ref m_work, .ref m_isWrong, .ref m_out, .int (nI 0), .ref m_digits, .int (nI 0)], oc_i g m_row 928 f1, oc_i g m_powers 929 f4, oc_i g m_gone 1860 f2, oc_i g m_work 1860 f3] H → va_D A [oc_o h 11 [.int (nI 0), .ref m_tape, .int (nI 0), .ref m_words, .int (nI 0), .int (nI 0), .int (nI 0), .ref m_mixed, .ref m_signs, .int (nI rr), .int (nI cc), .ref m_places, .int (nI 0), .int (nI 0), .int (nI 0), .int (nI 0), .ref m_row, .ref m_lost, .ref m_powers, .ref m_sums, .ref m_counted, .ref m_gone, .ref m_above, .ref m_below, .ref m_old, .ref m_now, .ref m_work, .ref m_isWrong, .ref m_out, .int (nI 0), .ref m_digits, .int (nI 0)], oc_i g m_row 928 f1, oc_i g m_powers 929 f4, oc_i g m_gone 1860 f2, oc_i g m_work 1860 f3] → va_S A s.heap H locs → W p l e { frames := 0, cells := 0, slots := 0, locals := 0 } s m args below meth c H locs 0 0 Q (F0 m 2 ls []) := by
    intro n1
    induction n1 using Nat.strongRecOn with
    | _ n1 ih1 =>
    intro i f1 f2 f3 H locs ls hmn1 qi hl hP hD hS
    refine lv_iload_n hx hb dd_MO_makeChecks_2 rfl (lv_at hl 3 rfl) ?_
    refine lv_iload_n hx hb dd_MO_makeChecks_3 rfl (lv_at hl 2 rfl) ?_
    refine xb_gt (tgt := 28) hx hb (by omega) (by omega) dd_MO_makeChecks_4 rfl (fun h_2 => ?_) (fun h_2 => ?_)
    · refine lv_iconst (v := nI 1) hx hb dd_MO_makeChecks_28 (by decide) ?_
      refine lv_istore_n (lv' := [(3, .int (nI 1)), (0, .ref h), (1, .int (nI nn)), (2, .int (nI K))]) hx hb dd_MO_makeChecks_29 rfl hl (by decide) rfl (fun ls hl => ?_)
      have lp_3 : ∀ (n3 : Nat) (i : Nat) (f1 : Nat → Int32) (f2 : Nat → Int32) (f3 : Nat → Int32) (H : Heap) (locs : List Loc) (ls : Array Slot), K + 1 - i = n3 → (1 ≤ i) → (i ≤ K + 1) → lv_has ls 6 [(0, .ref h), (1, .int (nI nn)), (2, .int (nI K)), (3, .int (nI i))] → va_P g.1 vwCl [oc_o h 11 [.int (nI 0), .ref m_tape, .int (nI 0), .ref m_words, .int (nI 0), .int (nI 0), .int (nI 0), .ref m_mixed, .ref m_signs, .int (nI rr), .int (nI cc), .ref m_places, .int (nI 0), .int (nI 0), .int (nI 0), .int (nI 0), .ref m_row, .ref m_lost, .ref m_powers, .ref m_sums, .ref m_counted, .ref m_gone, .ref m_above, .ref m_below, .ref m_old, .ref m_now, .ref m_work, .ref m_isWrong, .ref m_out, .int (nI 0), .ref m_digits, .int (nI 0)], oc_i g m_row 928 f1, oc_i g m_powers 929 f4, oc_i g m_gone 1860 f2, oc_i g m_work 1860 f3] H → va_D A [oc_o h 11 [.int (nI 0), .ref m_tape, .int (nI 0), .ref m_words, .int (nI 0), .int (nI 0), .int (nI 0), .ref m_mixed, .ref m_signs, .int (nI rr), .int (nI cc), .ref m_places, .int (nI 0), .int (nI 0), .int (nI 0), .int (nI 0), .ref m_row, .ref m_lost, .ref m_powers, .ref m_sums, .ref m_counted, .ref m_gone, .ref m_above, .ref m_below, .ref m_old, .ref m_now, .ref m_work, .ref m_isWrong, .ref m_out, .int (nI 0), .ref m_digits, .int (nI 0)], oc_i g m_row 928 f1, oc_i g m_powers 929 f4, oc_i g m_gone 1860 f2, oc_i g m_work 1860 f3] → va_S A s.heap H locs → W p l e { frames := 0, cells := 0, slots := 0, locals := 0 } s m args below meth c H locs 0 0 Q (F0 m 30 ls []) := by
        intro n3
        induction n3 using Nat.strongRecOn with
        | _ n3 ih3 =>
        intro i f1 f2 f3 H locs ls hmn3 qi qi2 hl hP hD hS
        refine lv_iload_n hx hb dd_MO_makeChecks_30 rfl (lv_at hl 3 rfl) ?_
        refine lv_iload_n hx hb dd_MO_makeChecks_31 rfl (lv_at hl 2 rfl) ?_
        refine xb_gt (tgt := 107) hx hb (by omega) (by omega) dd_MO_makeChecks_32 rfl (fun h_4 => ?_) (fun h_4 => ?_)
        · refine lv_iload_n hx hb dd_MO_makeChecks_107 rfl (lv_at hl 1 rfl) ?_
          refine lv_iload_n hx hb dd_MO_makeChecks_108 rfl (lv_at hl 2 rfl) ?_
          refine xi_isub hx hb (by omega) dd_MO_makeChecks_109 ?_
          refine lv_istore_n (lv' := [(3, .int (nI (nn - K))), (0, .ref h), (1, .int (nI nn)), (2, .int (nI K))]) hx hb dd_MO_makeChecks_110 rfl hl (by decide) rfl (fun ls hl => ?_)
          have lp_5 : ∀ (n5 : Nat) (i : Nat) (f1 : Nat → Int32) (f2 : Nat → Int32) (f3 : Nat → Int32) (H : Heap) (locs : List Loc) (ls : Array Slot), nn - i = n5 → (i ≤ nn) → lv_has ls 6 [(0, .ref h), (1, .int (nI nn)), (2, .int (nI K)), (3, .int (nI i))] → va_P g.1 vwCl [oc_o h 11 [.int (nI 0), .ref m_tape, .int (nI 0), .ref m_words, .int (nI 0), .int (nI 0), .int (nI 0), .ref m_mixed, .ref m_signs, .int (nI rr), .int (nI cc), .ref m_places, .int (nI 0), .int (nI 0), .int (nI 0), .int (nI 0), .ref m_row, .ref m_lost, .ref m_powers, .ref m_sums, .ref m_counted, .ref m_gone, .ref m_above, .ref m_below, .ref m_old, .ref m_now, .ref m_work, .ref m_isWrong, .ref m_out, .int (nI 0), .ref m_digits, .int (nI 0)], oc_i g m_row 928 f1, oc_i g m_powers 929 f4, oc_i g m_gone 1860 f2, oc_i g m_work 1860 f3] H → va_D A [oc_o h 11 [.int (nI 0), .ref m_tape, .int (nI 0), .ref m_words, .int (nI 0), .int (nI 0), .int (nI 0), .ref m_mixed, .ref m_signs, .int (nI rr), .int (nI cc), .ref m_places, .int (nI 0), .int (nI 0), .int (nI 0), .int (nI 0), .ref m_row, .ref m_lost, .ref m_powers, .ref m_sums, .ref m_counted, .ref m_gone, .ref m_above, .ref m_below, .ref m_old, .ref m_now, .ref m_work, .ref m_isWrong, .ref m_out, .int (nI 0), .ref m_digits, .int (nI 0)], oc_i g m_row 928 f1, oc_i g m_powers 929 f4, oc_i g m_gone 1860 f2, oc_i g m_work 1860 f3] → va_S A s.heap H locs → W p l e { frames := 0, cells := 0, slots := 0, locals := 0 } s m args below meth c H locs 0 0 Q (F0 m 111 ls []) := by
            intro n5
            induction n5 using Nat.strongRecOn with
            | _ n5 ih5 =>
            intro i f1 f2 f3 H locs ls hmn5 qi hl hP hD hS
            refine lv_iload_n hx hb dd_MO_makeChecks_111 rfl (lv_at hl 3 rfl) ?_
            refine lv_iload_n hx hb dd_MO_makeChecks_112 rfl (lv_at hl 1 rfl) ?_
            refine xb_ge (tgt := 129) hx hb (by omega) (by omega) dd_MO_makeChecks_113 rfl (fun h_6 => ?_) (fun h_6 => ?_)
            · refine lv_iconst (v := nI 0) hx hb dd_MO_makeChecks_129 (by decide) ?_
              refine lv_istore_n (lv' := [(3, .int (nI 0)), (0, .ref h), (1, .int (nI nn)), (2, .int (nI K))]) hx hb dd_MO_makeChecks_130 rfl hl (by decide) rfl (fun ls hl => ?_)
              have lp_7 : ∀ (n7 : Nat) (i : Nat) (f1 : Nat → Int32) (f2 : Nat → Int32) (f3 : Nat → Int32) (H : Heap) (locs : List Loc) (ls : Array Slot), nn - i = n7 → (i ≤ nn) → lv_has ls 6 [(0, .ref h), (1, .int (nI nn)), (2, .int (nI K)), (3, .int (nI i))] → va_P g.1 vwCl [oc_o h 11 [.int (nI 0), .ref m_tape, .int (nI 0), .ref m_words, .int (nI 0), .int (nI 0), .int (nI 0), .ref m_mixed, .ref m_signs, .int (nI rr), .int (nI cc), .ref m_places, .int (nI 0), .int (nI 0), .int (nI 0), .int (nI 0), .ref m_row, .ref m_lost, .ref m_powers, .ref m_sums, .ref m_counted, .ref m_gone, .ref m_above, .ref m_below, .ref m_old, .ref m_now, .ref m_work, .ref m_isWrong, .ref m_out, .int (nI 0), .ref m_digits, .int (nI 0)], oc_i g m_row 928 f1, oc_i g m_powers 929 f4, oc_i g m_gone 1860 f2, oc_i g m_work 1860 f3] H → va_D A [oc_o h 11 [.int (nI 0), .ref m_tape, .int (nI 0), .ref m_words, .int (nI 0), .int (nI 0), .int (nI 0), .ref m_mixed, .ref m_signs, .int (nI rr), .int (nI cc), .ref m_places, .int (nI 0), .int (nI 0), .int (nI 0), .int (nI 0), .ref m_row, .ref m_lost, .ref m_powers, .ref m_sums, .ref m_counted, .ref m_gone, .ref m_above, .ref m_below, .ref m_old, .ref m_now, .ref m_work, .ref m_isWrong, .ref m_out, .int (nI 0), .ref m_digits, .int (nI 0)], oc_i g m_row 928 f1, oc_i g m_powers 929 f4, oc_i g m_gone 1860 f2, oc_i g m_work 1860 f3] → va_S A s.heap H locs → W p l e { frames := 0, cells := 0, slots := 0, locals := 0 } s m args below meth c H locs 0 0 Q (F0 m 131 ls []) := by
                intro n7
                induction n7 using Nat.strongRecOn with
                | _ n7 ih7 =>
                intro i f1 f2 f3 H locs ls hmn7 qi hl hP hD hS
                refine lv_iload_n hx hb dd_MO_makeChecks_131 rfl (lv_at hl 3 rfl) ?_
                refine lv_iload_n hx hb dd_MO_makeChecks_132 rfl (lv_at hl 1 rfl) ?_
                refine xb_ge (tgt := 154) hx hb (by omega) (by omega) dd_MO_makeChecks_133 rfl (fun h_8 => ?_) (fun h_8 => ?_)
                · refine lv_iconst (v := nI 0) hx hb dd_MO_makeChecks_154 (by decide) ?_
                  refine lv_istore_n (lv' := [(3, .int (nI 0)), (0, .ref h), (1, .int (nI nn)), (2, .int (nI K))]) hx hb dd_MO_makeChecks_155 rfl hl (by decide) rfl (fun ls hl => ?_)
                  have lp_9 : ∀ (n9 : Nat) (i : Nat) (f1 : Nat → Int32) (f2 : Nat → Int32) (f3 : Nat → Int32) (H : Heap) (locs : List Loc) (ls : Array Slot), nn - K - i = n9 → (i ≤ nn - K) → lv_has ls 6 [(0, .ref h), (1, .int (nI nn)), (2, .int (nI K)), (3, .int (nI i))] → va_P g.1 vwCl [oc_o h 11 [.int (nI 0), .ref m_tape, .int (nI 0), .ref m_words, .int (nI 0), .int (nI 0), .int (nI 0), .ref m_mixed, .ref m_signs, .int (nI rr), .int (nI cc), .ref m_places, .int (nI 0), .int (nI 0), .int (nI 0), .int (nI 0), .ref m_row, .ref m_lost, .ref m_powers, .ref m_sums, .ref m_counted, .ref m_gone, .ref m_above, .ref m_below, .ref m_old, .ref m_now, .ref m_work, .ref m_isWrong, .ref m_out, .int (nI 0), .ref m_digits, .int (nI 0)], oc_i g m_row 928 f1, oc_i g m_powers 929 f4, oc_i g m_gone 1860 f2, oc_i g m_work 1860 f3] H → va_D A [oc_o h 11 [.int (nI 0), .ref m_tape, .int (nI 0), .ref m_words, .int (nI 0), .int (nI 0), .int (nI 0), .ref m_mixed, .ref m_signs, .int (nI rr), .int (nI cc), .ref m_places, .int (nI 0), .int (nI 0), .int (nI 0), .int (nI 0), .ref m_row, .ref m_lost, .ref m_powers, .ref m_sums, .ref m_counted, .ref m_gone, .ref m_above, .ref m_below, .ref m_old, .ref m_now, .ref m_work, .ref m_isWrong, .ref m_out, .int (nI 0), .ref m_digits, .int (nI 0)], oc_i g m_row 928 f1, oc_i g m_powers 929 f4, oc_i g m_gone 1860 f2, oc_i g m_work 1860 f3] → va_S A s.heap H locs → W p l e { frames := 0, cells := 0, slots := 0, locals := 0 } s m args below meth c H locs 0 0 Q (F0 m 156 ls []) := by
                    intro n9
                    induction n9 using Nat.strongRecOn with
                    | _ n9 ih9 =>
                    intro i f1 f2 f3 H locs ls hmn9 qi hl hP hD hS
                    refine lv_iload_n hx hb dd_MO_makeChecks_156 rfl (lv_at hl 3 rfl) ?_
                    refine lv_iload_n hx hb dd_MO_makeChecks_157 rfl (lv_at hl 1 rfl) ?_
                    refine lv_iload_n hx hb dd_MO_makeChecks_158 rfl (lv_at hl 2 rfl) ?_
                    refine xi_isub hx hb (by omega) dd_MO_makeChecks_159 ?_
                    refine xb_ge (tgt := 231) hx hb (by omega) (by omega) dd_MO_makeChecks_160 rfl (fun h_10 => ?_) (fun h_10 => ?_)
                    · refine lv_iload_n hx hb dd_MO_makeChecks_231 rfl (lv_at hl 1 rfl) ?_
                      refine lv_iload_n hx hb dd_MO_makeChecks_232 rfl (lv_at hl 2 rfl) ?_
                      refine xi_isub hx hb (by omega) dd_MO_makeChecks_233 ?_
                      refine lv_istore_n (lv' := [(3, .int (nI (nn - K))), (0, .ref h), (1, .int (nI nn)), (2, .int (nI K))]) hx hb dd_MO_makeChecks_234 rfl hl (by decide) rfl (fun ls hl => ?_)
                      have lp_11 : ∀ (n11 : Nat) (i : Nat) (f1 : Nat → Int32) (f2 : Nat → Int32) (f3 : Nat → Int32) (H : Heap) (locs : List Loc) (ls : Array Slot), nn - i = n11 → (i ≤ nn) → lv_has ls 6 [(0, .ref h), (1, .int (nI nn)), (2, .int (nI K)), (3, .int (nI i))] → va_P g.1 vwCl [oc_o h 11 [.int (nI 0), .ref m_tape, .int (nI 0), .ref m_words, .int (nI 0), .int (nI 0), .int (nI 0), .ref m_mixed, .ref m_signs, .int (nI rr), .int (nI cc), .ref m_places, .int (nI 0), .int (nI 0), .int (nI 0), .int (nI 0), .ref m_row, .ref m_lost, .ref m_powers, .ref m_sums, .ref m_counted, .ref m_gone, .ref m_above, .ref m_below, .ref m_old, .ref m_now, .ref m_work, .ref m_isWrong, .ref m_out, .int (nI 0), .ref m_digits, .int (nI 0)], oc_i g m_row 928 f1, oc_i g m_powers 929 f4, oc_i g m_gone 1860 f2, oc_i g m_work 1860 f3] H → va_D A [oc_o h 11 [.int (nI 0), .ref m_tape, .int (nI 0), .ref m_words, .int (nI 0), .int (nI 0), .int (nI 0), .ref m_mixed, .ref m_signs, .int (nI rr), .int (nI cc), .ref m_places, .int (nI 0), .int (nI 0), .int (nI 0), .int (nI 0), .ref m_row, .ref m_lost, .ref m_powers, .ref m_sums, .ref m_counted, .ref m_gone, .ref m_above, .ref m_below, .ref m_old, .ref m_now, .ref m_work, .ref m_isWrong, .ref m_out, .int (nI 0), .ref m_digits, .int (nI 0)], oc_i g m_row 928 f1, oc_i g m_powers 929 f4, oc_i g m_gone 1860 f2, oc_i g m_work 1860 f3] → va_S A s.heap H locs → W p l e { frames := 0, cells := 0, slots := 0, locals := 0 } s m args below meth c H locs 0 0 Q (F0 m 235 ls []) := by
                        intro n11
                        induction n11 using Nat.strongRecOn with
                        | _ n11 ih11 =>
                        intro i f1 f2 f3 H locs ls hmn11 qi hl hP hD hS
                        refine lv_iload_n hx hb dd_MO_makeChecks_235 rfl (lv_at hl 3 rfl) ?_
                        refine lv_iload_n hx hb dd_MO_makeChecks_236 rfl (lv_at hl 1 rfl) ?_
                        refine xb_ge (tgt := 266) hx hb (by omega) (by omega) dd_MO_makeChecks_237 rfl (fun h_12 => ?_) (fun h_12 => ?_)
                        · exact xr_v hx hb hr hlk hQ hP hD hS (f1, f2, f3) trivial [0, 1, 2, 3, 4] (by decide) rfl (Nat.le_of_ble_eq_true rfl) (Nat.le_of_ble_eq_true rfl) dd_MO_makeChecks_266
                        · refine lv_aload_n hx hb dd_MO_makeChecks_240 rfl (lv_at hl 0 rfl) ?_
                          refine gf_MO_25 hx hb hts hown hK hP 0 rfl rfl dd_MO_makeChecks_241 ?_
                          refine lv_iload_n hx hb dd_MO_makeChecks_244 rfl (lv_at hl 3 rfl) ?_
                          refine lv_sipush (v := nI 929) hx hb dd_MO_makeChecks_245 (by decide) ?_
                          refine lv_aload_n hx hb dd_MO_makeChecks_248 rfl (lv_at hl 0 rfl) ?_
                          refine gf_MO_56 hx hb hts hown hK hP 0 rfl rfl dd_MO_makeChecks_249 ?_
                          refine lv_iload_n hx hb dd_MO_makeChecks_252 rfl (lv_at hl 3 rfl) ?_
                          refine xa_ld hx hb hK hP 4 rfl (j := i) (by omega) (by omega) dd_MO_makeChecks_253 ?_
                          refine lv_isub hx hb dd_MO_makeChecks_254 (lv_topi (fun x_13 _ => ?_))
                          refine lv_sipush (v := nI 929) hx hb dd_MO_makeChecks_255 (by decide) ?_
                          refine xi_remR hx hb (by decide) dd_MO_makeChecks_258 (fun x_14 => ?_)
                          refine xa_st hx hb hK hP hD hS 1 rfl (j := i) (by omega) (by omega) dd_MO_makeChecks_259 (fun f_15 H locs hP hD hS => ?_)
                          have hP : va_P g.1 vwCl [oc_o h 11 [.int (nI 0), .ref m_tape, .int (nI 0), .ref m_words, .int (nI 0), .int (nI 0), .int (nI 0), .ref m_mixed, .ref m_signs, .int (nI rr), .int (nI cc), .ref m_places, .int (nI 0), .int (nI 0), .int (nI 0), .int (nI 0), .ref m_row, .ref m_lost, .ref m_powers, .ref m_sums, .ref m_counted, .ref m_gone, .ref m_above, .ref m_below, .ref m_old, .ref m_now, .ref m_work, .ref m_isWrong, .ref m_out, .int (nI 0), .ref m_digits, .int (nI 0)], oc_i g m_row 928 f_15, oc_i g m_powers 929 f4, oc_i g m_gone 1860 f2, oc_i g m_work 1860 f3] H := hP
                          have hD : va_D A [oc_o h 11 [.int (nI 0), .ref m_tape, .int (nI 0), .ref m_words, .int (nI 0), .int (nI 0), .int (nI 0), .ref m_mixed, .ref m_signs, .int (nI rr), .int (nI cc), .ref m_places, .int (nI 0), .int (nI 0), .int (nI 0), .int (nI 0), .ref m_row, .ref m_lost, .ref m_powers, .ref m_sums, .ref m_counted, .ref m_gone, .ref m_above, .ref m_below, .ref m_old, .ref m_now, .ref m_work, .ref m_isWrong, .ref m_out, .int (nI 0), .ref m_digits, .int (nI 0)], oc_i g m_row 928 f_15, oc_i g m_powers 929 f4, oc_i g m_gone 1860 f2, oc_i g m_work 1860 f3] := hD
                          refine lv_iinc (k := 3) (lv' := [(3, .int (nI (i + 1))), (0, .ref h), (1, .int (nI nn)), (2, .int (nI K))]) hx hb dd_MO_makeChecks_260 hl rfl (xi_inc _) (by decide) rfl (fun ls hl => ?_)
                          refine lv_goto (tgt := 235) hx hb dd_MO_makeChecks_263 rfl ?_
                          exact ih11 _ (by omega) (i + 1) f_15 f2 f3 H locs ls rfl (by omega) (lv_sub hl [1, 2, 3, 0] rfl) (hP.sub [0, 1, 2, 3, 4] rfl) (hD.sub [0, 1, 2, 3, 4] (by decide) rfl) hS
                      exact lp_11 _ (nn - K) f1 f2 f3 H locs ls rfl (by omega) (lv_sub hl [1, 2, 3, 0] rfl) (hP.sub [0, 1, 2, 3, 4] rfl) (hD.sub [0, 1, 2, 3, 4] (by decide) rfl) hS
                    · refine lv_aload_n hx hb dd_MO_makeChecks_163 rfl (lv_at hl 0 rfl) ?_
                      refine gf_MO_56 hx hb hts hown hK hP 0 rfl rfl dd_MO_makeChecks_164 ?_
                      refine lv_iload_n hx hb dd_MO_makeChecks_167 rfl (lv_at hl 3 rfl) ?_
                      refine xa_ld hx hb hK hP 4 rfl (j := i) (by omega) (by omega) dd_MO_makeChecks_168 ?_
                      refine lv_topi (fun x_16 _ => ?_)
                      refine lv_istore (lv' := [(4, .int x_16), (0, .ref h), (1, .int (nI nn)), (2, .int (nI K)), (3, .int (nI i))]) hx hb dd_MO_makeChecks_169 hl (by decide) rfl (fun ls hl => ?_)
                      refine lv_iconst (v := nI 0) hx hb dd_MO_makeChecks_171 (by decide) ?_
                      refine lv_istore (lv' := [(5, .int (nI 0)), (4, .int x_16), (0, .ref h), (1, .int (nI nn)), (2, .int (nI K)), (3, .int (nI i))]) hx hb dd_MO_makeChecks_172 hl (by decide) rfl (fun ls hl => ?_)
                      have lp_17 : ∀ (n17 : Nat) (j : Nat) (f1 : Nat → Int32) (f2 : Nat → Int32) (f3 : Nat → Int32) (H : Heap) (locs : List Loc) (ls : Array Slot), K + 1 - j = n17 → (j ≤ K + 1) → lv_has ls 6 [(0, .ref h), (1, .int (nI nn)), (2, .int (nI K)), (3, .int (nI i)), (4, .int x_16), (5, .int (nI j))] → va_P g.1 vwCl [oc_o h 11 [.int (nI 0), .ref m_tape, .int (nI 0), .ref m_words, .int (nI 0), .int (nI 0), .int (nI 0), .ref m_mixed, .ref m_signs, .int (nI rr), .int (nI cc), .ref m_places, .int (nI 0), .int (nI 0), .int (nI 0), .int (nI 0), .ref m_row, .ref m_lost, .ref m_powers, .ref m_sums, .ref m_counted, .ref m_gone, .ref m_above, .ref m_below, .ref m_old, .ref m_now, .ref m_work, .ref m_isWrong, .ref m_out, .int (nI 0), .ref m_digits, .int (nI 0)], oc_i g m_row 928 f1, oc_i g m_powers 929 f4, oc_i g m_gone 1860 f2, oc_i g m_work 1860 f3] H → va_D A [oc_o h 11 [.int (nI 0), .ref m_tape, .int (nI 0), .ref m_words, .int (nI 0), .int (nI 0), .int (nI 0), .ref m_mixed, .ref m_signs, .int (nI rr), .int (nI cc), .ref m_places, .int (nI 0), .int (nI 0), .int (nI 0), .int (nI 0), .ref m_row, .ref m_lost, .ref m_powers, .ref m_sums, .ref m_counted, .ref m_gone, .ref m_above, .ref m_below, .ref m_old, .ref m_now, .ref m_work, .ref m_isWrong, .ref m_out, .int (nI 0), .ref m_digits, .int (nI 0)], oc_i g m_row 928 f1, oc_i g m_powers 929 f4, oc_i g m_gone 1860 f2, oc_i g m_work 1860 f3] → va_S A s.heap H locs → W p l e { frames := 0, cells := 0, slots := 0, locals := 0 } s m args below meth c H locs 0 0 Q (F0 m 174 ls []) := by
                        intro n17
                        induction n17 using Nat.strongRecOn with
                        | _ n17 ih17 =>
                        intro j f1 f2 f3 H locs ls hmn17 qj hl hP hD hS
                        refine lv_iload hx hb dd_MO_makeChecks_174 (lv_at hl 5 rfl) ?_
                        refine lv_iload_n hx hb dd_MO_makeChecks_176 rfl (lv_at hl 2 rfl) ?_
                        refine xb_gt (tgt := 225) hx hb (by omega) (by omega) dd_MO_makeChecks_177 rfl (fun h_18 => ?_) (fun h_18 => ?_)
                        · refine lv_iinc (k := 3) (lv' := [(3, .int (nI (i + 1))), (0, .ref h), (1, .int (nI nn)), (2, .int (nI K)), (4, .int x_16), (5, .int (nI j))]) hx hb dd_MO_makeChecks_225 hl rfl (xi_inc _) (by decide) rfl (fun ls hl => ?_)
                          refine lv_goto (tgt := 156) hx hb dd_MO_makeChecks_228 rfl ?_
                          exact ih9 _ (by omega) (i + 1) f1 f2 f3 H locs ls rfl (by omega) (lv_sub hl [1, 2, 3, 0] rfl) (hP.sub [0, 1, 2, 3, 4] rfl) (hD.sub [0, 1, 2, 3, 4] (by decide) rfl) hS
                        · refine lv_aload_n hx hb dd_MO_makeChecks_180 rfl (lv_at hl 0 rfl) ?_
                          refine gf_MO_56 hx hb hts hown hK hP 0 rfl rfl dd_MO_makeChecks_181 ?_
                          refine lv_iload_n hx hb dd_MO_makeChecks_184 rfl (lv_at hl 3 rfl) ?_
                          refine lv_iload hx hb dd_MO_makeChecks_185 (lv_at hl 5 rfl) ?_
                          refine xi_iadd hx hb dd_MO_makeChecks_187 ?_
                          refine lv_aload_n hx hb dd_MO_makeChecks_188 rfl (lv_at hl 0 rfl) ?_
                          refine gf_MO_56 hx hb hts hown hK hP 0 rfl rfl dd_MO_makeChecks_189 ?_
                          refine lv_iload_n hx hb dd_MO_makeChecks_192 rfl (lv_at hl 3 rfl) ?_
                          refine lv_iload hx hb dd_MO_makeChecks_193 (lv_at hl 5 rfl) ?_
                          refine xi_iadd hx hb dd_MO_makeChecks_195 ?_
                          refine xa_ld hx hb hK hP 4 rfl (j := i + j) (by omega) (by omega) dd_MO_makeChecks_196 ?_
                          refine lv_sipush (v := nI 929) hx hb dd_MO_makeChecks_197 (by decide) ?_
                          refine lv_iload hx hb dd_MO_makeChecks_200 (lv_at hl 4 rfl) ?_
                          refine lv_isub hx hb dd_MO_makeChecks_202 (lv_topi (fun x_19 _ => ?_))
                          refine lv_aload_n hx hb dd_MO_makeChecks_203 rfl (lv_at hl 0 rfl) ?_
                          refine gf_MO_41 hx hb hts hown hK hP 0 rfl rfl dd_MO_makeChecks_204 ?_
                          refine lv_iload_n hx hb dd_MO_makeChecks_207 rfl (lv_at hl 2 rfl) ?_
                          refine lv_iload hx hb dd_MO_makeChecks_208 (lv_at hl 5 rfl) ?_
                          refine xi_isub hx hb (by omega) dd_MO_makeChecks_210 ?_
                          refine xa_ld hx hb hK hP 3 rfl (j := K - j) (by omega) (by omega) dd_MO_makeChecks_211 ?_
                          refine lv_imul hx hb dd_MO_makeChecks_212 (lv_topi (fun x_20 _ => ?_))
                          refine lv_iadd hx hb dd_MO_makeChecks_213 (lv_topi (fun x_21 _ => ?_))
                          refine lv_sipush (v := nI 929) hx hb dd_MO_makeChecks_214 (by decide) ?_
                          refine xi_remR hx hb (by decide) dd_MO_makeChecks_217 (fun x_22 => ?_)
                          refine xa_st hx hb hK hP hD hS 4 rfl (j := i + j) (by omega) (by omega) dd_MO_makeChecks_218 (fun f_23 H locs hP hD hS => ?_)
                          have hP : va_P g.1 vwCl [oc_o h 11 [.int (nI 0), .ref m_tape, .int (nI 0), .ref m_words, .int (nI 0), .int (nI 0), .int (nI 0), .ref m_mixed, .ref m_signs, .int (nI rr), .int (nI cc), .ref m_places, .int (nI 0), .int (nI 0), .int (nI 0), .int (nI 0), .ref m_row, .ref m_lost, .ref m_powers, .ref m_sums, .ref m_counted, .ref m_gone, .ref m_above, .ref m_below, .ref m_old, .ref m_now, .ref m_work, .ref m_isWrong, .ref m_out, .int (nI 0), .ref m_digits, .int (nI 0)], oc_i g m_row 928 f1, oc_i g m_powers 929 f4, oc_i g m_gone 1860 f2, oc_i g m_work 1860 f_23] H := hP
                          have hD : va_D A [oc_o h 11 [.int (nI 0), .ref m_tape, .int (nI 0), .ref m_words, .int (nI 0), .int (nI 0), .int (nI 0), .ref m_mixed, .ref m_signs, .int (nI rr), .int (nI cc), .ref m_places, .int (nI 0), .int (nI 0), .int (nI 0), .int (nI 0), .ref m_row, .ref m_lost, .ref m_powers, .ref m_sums, .ref m_counted, .ref m_gone, .ref m_above, .ref m_below, .ref m_old, .ref m_now, .ref m_work, .ref m_isWrong, .ref m_out, .int (nI 0), .ref m_digits, .int (nI 0)], oc_i g m_row 928 f1, oc_i g m_powers 929 f4, oc_i g m_gone 1860 f2, oc_i g m_work 1860 f_23] := hD
                          refine lv_iinc (k := 5) (lv' := [(5, .int (nI (j + 1))), (0, .ref h), (1, .int (nI nn)), (2, .int (nI K)), (3, .int (nI i)), (4, .int x_16)]) hx hb dd_MO_makeChecks_219 hl rfl (xi_inc _) (by decide) rfl (fun ls hl => ?_)
                          refine lv_goto (tgt := 174) hx hb dd_MO_makeChecks_222 rfl ?_
                          exact ih17 _ (by omega) (j + 1) f1 f2 f_23 H locs ls rfl (by omega) (lv_sub hl [1, 2, 3, 4, 5, 0] rfl) (hP.sub [0, 1, 2, 3, 4] rfl) (hD.sub [0, 1, 2, 3, 4] (by decide) rfl) hS
                      exact lp_17 _ 0 f1 f2 f3 H locs ls rfl (by omega) (lv_sub hl [2, 3, 4, 5, 1, 0] rfl) (hP.sub [0, 1, 2, 3, 4] rfl) (hD.sub [0, 1, 2, 3, 4] (by decide) rfl) hS
                  exact lp_9 _ 0 f1 f2 f3 H locs ls rfl (by omega) (lv_sub hl [1, 2, 3, 0] rfl) (hP.sub [0, 1, 2, 3, 4] rfl) (hD.sub [0, 1, 2, 3, 4] (by decide) rfl) hS
                · refine lv_aload_n hx hb dd_MO_makeChecks_136 rfl (lv_at hl 0 rfl) ?_
                  refine gf_MO_56 hx hb hts hown hK hP 0 rfl rfl dd_MO_makeChecks_137 ?_
                  refine lv_iload_n hx hb dd_MO_makeChecks_140 rfl (lv_at hl 3 rfl) ?_
                  refine lv_aload_n hx hb dd_MO_makeChecks_141 rfl (lv_at hl 0 rfl) ?_
                  refine gf_MO_25 hx hb hts hown hK hP 0 rfl rfl dd_MO_makeChecks_142 ?_
                  refine lv_iload_n hx hb dd_MO_makeChecks_145 rfl (lv_at hl 3 rfl) ?_
                  refine xa_ld hx hb hK hP 1 rfl (j := i) (by omega) (by omega) dd_MO_makeChecks_146 ?_
                  refine xa_st hx hb hK hP hD hS 4 rfl (j := i) (by omega) (by omega) dd_MO_makeChecks_147 (fun f_24 H locs hP hD hS => ?_)
                  have hP : va_P g.1 vwCl [oc_o h 11 [.int (nI 0), .ref m_tape, .int (nI 0), .ref m_words, .int (nI 0), .int (nI 0), .int (nI 0), .ref m_mixed, .ref m_signs, .int (nI rr), .int (nI cc), .ref m_places, .int (nI 0), .int (nI 0), .int (nI 0), .int (nI 0), .ref m_row, .ref m_lost, .ref m_powers, .ref m_sums, .ref m_counted, .ref m_gone, .ref m_above, .ref m_below, .ref m_old, .ref m_now, .ref m_work, .ref m_isWrong, .ref m_out, .int (nI 0), .ref m_digits, .int (nI 0)], oc_i g m_row 928 f1, oc_i g m_powers 929 f4, oc_i g m_gone 1860 f2, oc_i g m_work 1860 f_24] H := hP
                  have hD : va_D A [oc_o h 11 [.int (nI 0), .ref m_tape, .int (nI 0), .ref m_words, .int (nI 0), .int (nI 0), .int (nI 0), .ref m_mixed, .ref m_signs, .int (nI rr), .int (nI cc), .ref m_places, .int (nI 0), .int (nI 0), .int (nI 0), .int (nI 0), .ref m_row, .ref m_lost, .ref m_powers, .ref m_sums, .ref m_counted, .ref m_gone, .ref m_above, .ref m_below, .ref m_old, .ref m_now, .ref m_work, .ref m_isWrong, .ref m_out, .int (nI 0), .ref m_digits, .int (nI 0)], oc_i g m_row 928 f1, oc_i g m_powers 929 f4, oc_i g m_gone 1860 f2, oc_i g m_work 1860 f_24] := hD
                  refine lv_iinc (k := 3) (lv' := [(3, .int (nI (i + 1))), (0, .ref h), (1, .int (nI nn)), (2, .int (nI K))]) hx hb dd_MO_makeChecks_148 hl rfl (xi_inc _) (by decide) rfl (fun ls hl => ?_)
                  refine lv_goto (tgt := 131) hx hb dd_MO_makeChecks_151 rfl ?_
                  exact ih7 _ (by omega) (i + 1) f1 f2 f_24 H locs ls rfl (by omega) (lv_sub hl [1, 2, 3, 0] rfl) (hP.sub [0, 1, 2, 3, 4] rfl) (hD.sub [0, 1, 2, 3, 4] (by decide) rfl) hS
              exact lp_7 _ 0 f1 f2 f3 H locs ls rfl (by omega) (lv_sub hl [1, 2, 3, 0] rfl) (hP.sub [0, 1, 2, 3, 4] rfl) (hD.sub [0, 1, 2, 3, 4] (by decide) rfl) hS
            · refine lv_aload_n hx hb dd_MO_makeChecks_116 rfl (lv_at hl 0 rfl) ?_
              refine gf_MO_25 hx hb hts hown hK hP 0 rfl rfl dd_MO_makeChecks_117 ?_
              refine lv_iload_n hx hb dd_MO_makeChecks_120 rfl (lv_at hl 3 rfl) ?_
              refine lv_iconst (v := nI 0) hx hb dd_MO_makeChecks_121 (by decide) ?_
              refine xa_st hx hb hK hP hD hS 1 rfl (j := i) (by omega) (by omega) dd_MO_makeChecks_122 (fun f_25 H locs hP hD hS => ?_)
              have hP : va_P g.1 vwCl [oc_o h 11 [.int (nI 0), .ref m_tape, .int (nI 0), .ref m_words, .int (nI 0), .int (nI 0), .int (nI 0), .ref m_mixed, .ref m_signs, .int (nI rr), .int (nI cc), .ref m_places, .int (nI 0), .int (nI 0), .int (nI 0), .int (nI 0), .ref m_row, .ref m_lost, .ref m_powers, .ref m_sums, .ref m_counted, .ref m_gone, .ref m_above, .ref m_below, .ref m_old, .ref m_now, .ref m_work, .ref m_isWrong, .ref m_out, .int (nI 0), .ref m_digits, .int (nI 0)], oc_i g m_row 928 f_25, oc_i g m_powers 929 f4, oc_i g m_gone 1860 f2, oc_i g m_work 1860 f3] H := hP
              have hD : va_D A [oc_o h 11 [.int (nI 0), .ref m_tape, .int (nI 0), .ref m_words, .int (nI 0), .int (nI 0), .int (nI 0), .ref m_mixed, .ref m_signs, .int (nI rr), .int (nI cc), .ref m_places, .int (nI 0), .int (nI 0), .int (nI 0), .int (nI 0), .ref m_row, .ref m_lost, .ref m_powers, .ref m_sums, .ref m_counted, .ref m_gone, .ref m_above, .ref m_below, .ref m_old, .ref m_now, .ref m_work, .ref m_isWrong, .ref m_out, .int (nI 0), .ref m_digits, .int (nI 0)], oc_i g m_row 928 f_25, oc_i g m_powers 929 f4, oc_i g m_gone 1860 f2, oc_i g m_work 1860 f3] := hD
              refine lv_iinc (k := 3) (lv' := [(3, .int (nI (i + 1))), (0, .ref h), (1, .int (nI nn)), (2, .int (nI K))]) hx hb dd_MO_makeChecks_123 hl rfl (xi_inc _) (by decide) rfl (fun ls hl => ?_)
              refine lv_goto (tgt := 111) hx hb dd_MO_makeChecks_126 rfl ?_
              exact ih5 _ (by omega) (i + 1) f_25 f2 f3 H locs ls rfl (by omega) (lv_sub hl [1, 2, 3, 0] rfl) (hP.sub [0, 1, 2, 3, 4] rfl) (hD.sub [0, 1, 2, 3, 4] (by decide) rfl) hS
          exact lp_5 _ (nn - K) f1 f2 f3 H locs ls rfl (by omega) (lv_sub hl [1, 2, 3, 0] rfl) (hP.sub [0, 1, 2, 3, 4] rfl) (hD.sub [0, 1, 2, 3, 4] (by decide) rfl) hS
        · refine lv_iload_n hx hb dd_MO_makeChecks_35 rfl (lv_at hl 3 rfl) ?_
          refine lv_istore (lv' := [(4, .int (nI i)), (0, .ref h), (1, .int (nI nn)), (2, .int (nI K)), (3, .int (nI i))]) hx hb dd_MO_makeChecks_36 hl (by decide) rfl (fun ls hl => ?_)
          have lp_26 : ∀ (n26 : Nat) (j : Nat) (f1 : Nat → Int32) (f2 : Nat → Int32) (f3 : Nat → Int32) (H : Heap) (locs : List Loc) (ls : Array Slot), j = n26 → (j ≤ i) → lv_has ls 6 [(0, .ref h), (1, .int (nI nn)), (2, .int (nI K)), (3, .int (nI i)), (4, .int (nI j))] → va_P g.1 vwCl [oc_o h 11 [.int (nI 0), .ref m_tape, .int (nI 0), .ref m_words, .int (nI 0), .int (nI 0), .int (nI 0), .ref m_mixed, .ref m_signs, .int (nI rr), .int (nI cc), .ref m_places, .int (nI 0), .int (nI 0), .int (nI 0), .int (nI 0), .ref m_row, .ref m_lost, .ref m_powers, .ref m_sums, .ref m_counted, .ref m_gone, .ref m_above, .ref m_below, .ref m_old, .ref m_now, .ref m_work, .ref m_isWrong, .ref m_out, .int (nI 0), .ref m_digits, .int (nI 0)], oc_i g m_row 928 f1, oc_i g m_powers 929 f4, oc_i g m_gone 1860 f2, oc_i g m_work 1860 f3] H → va_D A [oc_o h 11 [.int (nI 0), .ref m_tape, .int (nI 0), .ref m_words, .int (nI 0), .int (nI 0), .int (nI 0), .ref m_mixed, .ref m_signs, .int (nI rr), .int (nI cc), .ref m_places, .int (nI 0), .int (nI 0), .int (nI 0), .int (nI 0), .ref m_row, .ref m_lost, .ref m_powers, .ref m_sums, .ref m_counted, .ref m_gone, .ref m_above, .ref m_below, .ref m_old, .ref m_now, .ref m_work, .ref m_isWrong, .ref m_out, .int (nI 0), .ref m_digits, .int (nI 0)], oc_i g m_row 928 f1, oc_i g m_powers 929 f4, oc_i g m_gone 1860 f2, oc_i g m_work 1860 f3] → va_S A s.heap H locs → W p l e { frames := 0, cells := 0, slots := 0, locals := 0 } s m args below meth c H locs 0 0 Q (F0 m 38 ls []) := by
            intro n26
            induction n26 using Nat.strongRecOn with
            | _ n26 ih26 =>
            intro j f1 f2 f3 H locs ls hmn26 qj hl hP hD hS
            refine lv_iload hx hb dd_MO_makeChecks_38 (lv_at hl 4 rfl) ?_
            refine xb_zlt (tgt := 101) hx hb (by omega) dd_MO_makeChecks_40 rfl ?_
            refine lv_iload hx hb dd_MO_makeChecks_43 (lv_at hl 4 rfl) ?_
            refine xb_zle (tgt := 60) hx hb (by omega) dd_MO_makeChecks_45 rfl (fun qj0 => ?_) (fun qj0 => ?_)
            · subst qj0
              refine lv_iconst (v := nI 0) hx hb dd_MO_makeChecks_60 (by decide) ?_
              refine lv_istore (lv' := [(5, .int (nI 0)), (0, .ref h), (1, .int (nI nn)), (2, .int (nI K)), (3, .int (nI i)), (4, .int (nI 0))]) hx hb dd_MO_makeChecks_61 hl (by decide) rfl (fun ls hl => ?_)
              refine lv_aload_n hx hb dd_MO_makeChecks_63 rfl (lv_at hl 1 rfl) ?_
              refine gf_MO_41 hx hb hts hown hK hP 0 rfl rfl dd_MO_makeChecks_64 ?_
              refine lv_iload hx hb dd_MO_makeChecks_67 (lv_at hl 5 rfl) ?_
              refine lv_iload hx hb dd_MO_makeChecks_69 (lv_at hl 0 rfl) ?_
              refine lv_sipush (v := nI 929) hx hb dd_MO_makeChecks_71 (by decide) ?_
              refine lv_aload_n hx hb dd_MO_makeChecks_74 rfl (lv_at hl 1 rfl) ?_
              refine gf_MO_32 hx hb hts hown hK hP 0 rfl rfl dd_MO_makeChecks_75 ?_
              refine lv_iload_n hx hb dd_MO_makeChecks_78 rfl (lv_at hl 4 rfl) ?_
              refine xa_ld hx hb hK hP 2 rfl (j := i) (by omega) (by omega) dd_MO_makeChecks_79 ?_
              refine lv_isub hx hb dd_MO_makeChecks_80 (lv_topi (fun x_27 _ => ?_))
              refine lv_aload_n hx hb dd_MO_makeChecks_81 rfl (lv_at hl 1 rfl) ?_
              refine gf_MO_41 hx hb hts hown hK hP 0 rfl rfl dd_MO_makeChecks_82 ?_
              refine lv_iload hx hb dd_MO_makeChecks_85 (lv_at hl 5 rfl) ?_
              refine xa_ld hx hb hK hP 3 rfl (j := 0) (by omega) (by omega) dd_MO_makeChecks_87 ?_
              refine lv_imul hx hb dd_MO_makeChecks_88 (lv_topi (fun x_28 _ => ?_))
              refine lv_iadd hx hb dd_MO_makeChecks_89 (lv_topi (fun x_29 _ => ?_))
              refine lv_sipush (v := nI 929) hx hb dd_MO_makeChecks_90 (by decide) ?_
              refine xi_remR hx hb (by decide) dd_MO_makeChecks_93 (fun x_30 => ?_)
              refine xa_st hx hb hK hP hD hS 3 rfl (j := 0) (by omega) (by omega) dd_MO_makeChecks_94 (fun f_31 H locs hP hD hS => ?_)
              have hP : va_P g.1 vwCl [oc_o h 11 [.int (nI 0), .ref m_tape, .int (nI 0), .ref m_words, .int (nI 0), .int (nI 0), .int (nI 0), .ref m_mixed, .ref m_signs, .int (nI rr), .int (nI cc), .ref m_places, .int (nI 0), .int (nI 0), .int (nI 0), .int (nI 0), .ref m_row, .ref m_lost, .ref m_powers, .ref m_sums, .ref m_counted, .ref m_gone, .ref m_above, .ref m_below, .ref m_old, .ref m_now, .ref m_work, .ref m_isWrong, .ref m_out, .int (nI 0), .ref m_digits, .int (nI 0)], oc_i g m_row 928 f1, oc_i g m_powers 929 f4, oc_i g m_gone 1860 f_31, oc_i g m_work 1860 f3] H := hP
              have hD : va_D A [oc_o h 11 [.int (nI 0), .ref m_tape, .int (nI 0), .ref m_words, .int (nI 0), .int (nI 0), .int (nI 0), .ref m_mixed, .ref m_signs, .int (nI rr), .int (nI cc), .ref m_places, .int (nI 0), .int (nI 0), .int (nI 0), .int (nI 0), .ref m_row, .ref m_lost, .ref m_powers, .ref m_sums, .ref m_counted, .ref m_gone, .ref m_above, .ref m_below, .ref m_old, .ref m_now, .ref m_work, .ref m_isWrong, .ref m_out, .int (nI 0), .ref m_digits, .int (nI 0)], oc_i g m_row 928 f1, oc_i g m_powers 929 f4, oc_i g m_gone 1860 f_31, oc_i g m_work 1860 f3] := hD
              refine lv_iinc (k := 5) (lv' := [(4, .int (-1)), (5, .int (nI 0)), (0, .ref h), (1, .int (nI nn)), (2, .int (nI K)), (3, .int (nI i))]) hx hb dd_MO_makeChecks_95 hl rfl (by decide) (by decide) rfl (fun ls hl => ?_)
              refine lv_goto (tgt := 38) hx hb dd_MO_makeChecks_98 rfl ?_
              refine lv_iload hx hb dd_MO_makeChecks_38 (lv_at hl 0 rfl) ?_
              refine lv_if_lt (tgt := 101) hx hb dd_MO_makeChecks_40 rfl (fun _ => ?_) (fun h_32 => absurd (by decide) h_32)
              refine lv_iinc (k := 5) (lv' := [(3, .int (nI (i + 1))), (4, .int (-1)), (5, .int (nI 0)), (0, .ref h), (1, .int (nI nn)), (2, .int (nI K))]) hx hb dd_MO_makeChecks_101 hl rfl (xi_inc _) (by decide) rfl (fun ls hl => ?_)
              refine lv_goto (tgt := 30) hx hb dd_MO_makeChecks_104 rfl ?_
              exact ih3 _ (by omega) (i + 1) f1 f_31 f3 H locs ls rfl (by omega) (by omega) (lv_sub hl [3, 4, 5, 0] rfl) (hP.sub [0, 1, 2, 3, 4] rfl) (hD.sub [0, 1, 2, 3, 4] (by decide) rfl) hS
            · refine lv_aload_n hx hb dd_MO_makeChecks_48 rfl (lv_at hl 0 rfl) ?_
              refine gf_MO_41 hx hb hts hown hK hP 0 rfl rfl dd_MO_makeChecks_49 ?_
              refine lv_iload hx hb dd_MO_makeChecks_52 (lv_at hl 4 rfl) ?_
              refine lv_iconst (v := nI 1) hx hb dd_MO_makeChecks_54 (by decide) ?_
              refine xi_isub hx hb (by omega) dd_MO_makeChecks_55 ?_
              refine xa_ld hx hb hK hP 3 rfl (j := j - 1) (by omega) (by omega) dd_MO_makeChecks_56 ?_
              refine lv_goto (tgt := 61) hx hb dd_MO_makeChecks_57 rfl ?_
              refine lv_istore (lv' := [(5, .int (f2 (j - 1))), (0, .ref h), (1, .int (nI nn)), (2, .int (nI K)), (3, .int (nI i)), (4, .int (nI j))]) hx hb dd_MO_makeChecks_61 hl (by decide) rfl (fun ls hl => ?_)
              refine lv_aload_n hx hb dd_MO_makeChecks_63 rfl (lv_at hl 1 rfl) ?_
              refine gf_MO_41 hx hb hts hown hK hP 0 rfl rfl dd_MO_makeChecks_64 ?_
              refine lv_iload hx hb dd_MO_makeChecks_67 (lv_at hl 5 rfl) ?_
              refine lv_iload hx hb dd_MO_makeChecks_69 (lv_at hl 0 rfl) ?_
              refine lv_sipush (v := nI 929) hx hb dd_MO_makeChecks_71 (by decide) ?_
              refine lv_aload_n hx hb dd_MO_makeChecks_74 rfl (lv_at hl 1 rfl) ?_
              refine gf_MO_32 hx hb hts hown hK hP 0 rfl rfl dd_MO_makeChecks_75 ?_
              refine lv_iload_n hx hb dd_MO_makeChecks_78 rfl (lv_at hl 4 rfl) ?_
              refine xa_ld hx hb hK hP 2 rfl (j := i) (by omega) (by omega) dd_MO_makeChecks_79 ?_
              refine lv_isub hx hb dd_MO_makeChecks_80 (lv_topi (fun x_33 _ => ?_))
              refine lv_aload_n hx hb dd_MO_makeChecks_81 rfl (lv_at hl 1 rfl) ?_
              refine gf_MO_41 hx hb hts hown hK hP 0 rfl rfl dd_MO_makeChecks_82 ?_
              refine lv_iload hx hb dd_MO_makeChecks_85 (lv_at hl 5 rfl) ?_
              refine xa_ld hx hb hK hP 3 rfl (j := j) (by omega) (by omega) dd_MO_makeChecks_87 ?_
              refine lv_imul hx hb dd_MO_makeChecks_88 (lv_topi (fun x_34 _ => ?_))
              refine lv_iadd hx hb dd_MO_makeChecks_89 (lv_topi (fun x_35 _ => ?_))
              refine lv_sipush (v := nI 929) hx hb dd_MO_makeChecks_90 (by decide) ?_
              refine xi_remR hx hb (by decide) dd_MO_makeChecks_93 (fun x_36 => ?_)
              refine xa_st hx hb hK hP hD hS 3 rfl (j := j) (by omega) (by omega) dd_MO_makeChecks_94 (fun f_37 H locs hP hD hS => ?_)
              have hP : va_P g.1 vwCl [oc_o h 11 [.int (nI 0), .ref m_tape, .int (nI 0), .ref m_words, .int (nI 0), .int (nI 0), .int (nI 0), .ref m_mixed, .ref m_signs, .int (nI rr), .int (nI cc), .ref m_places, .int (nI 0), .int (nI 0), .int (nI 0), .int (nI 0), .ref m_row, .ref m_lost, .ref m_powers, .ref m_sums, .ref m_counted, .ref m_gone, .ref m_above, .ref m_below, .ref m_old, .ref m_now, .ref m_work, .ref m_isWrong, .ref m_out, .int (nI 0), .ref m_digits, .int (nI 0)], oc_i g m_row 928 f1, oc_i g m_powers 929 f4, oc_i g m_gone 1860 f_37, oc_i g m_work 1860 f3] H := hP
              have hD : va_D A [oc_o h 11 [.int (nI 0), .ref m_tape, .int (nI 0), .ref m_words, .int (nI 0), .int (nI 0), .int (nI 0), .ref m_mixed, .ref m_signs, .int (nI rr), .int (nI cc), .ref m_places, .int (nI 0), .int (nI 0), .int (nI 0), .int (nI 0), .ref m_row, .ref m_lost, .ref m_powers, .ref m_sums, .ref m_counted, .ref m_gone, .ref m_above, .ref m_below, .ref m_old, .ref m_now, .ref m_work, .ref m_isWrong, .ref m_out, .int (nI 0), .ref m_digits, .int (nI 0)], oc_i g m_row 928 f1, oc_i g m_powers 929 f4, oc_i g m_gone 1860 f_37, oc_i g m_work 1860 f3] := hD
              refine lv_iinc (k := 5) (lv' := [(4, .int (nI (j - 1))), (5, .int (f2 (j - 1))), (0, .ref h), (1, .int (nI nn)), (2, .int (nI K)), (3, .int (nI i))]) hx hb dd_MO_makeChecks_95 hl rfl (xi_dec (by omega)) (by decide) rfl (fun ls hl => ?_)
              refine lv_goto (tgt := 38) hx hb dd_MO_makeChecks_98 rfl ?_
              exact ih26 _ (by omega) (j - 1) f1 f_37 f3 H locs ls rfl (by omega) (lv_sub hl [2, 3, 4, 5, 0] rfl) (hP.sub [0, 1, 2, 3, 4] rfl) (hD.sub [0, 1, 2, 3, 4] (by decide) rfl) hS
          exact lp_26 _ i f1 f2 f3 H locs ls rfl (by omega) (lv_sub hl [1, 2, 3, 4, 0] rfl) (hP.sub [0, 1, 2, 3, 4] rfl) (hD.sub [0, 1, 2, 3, 4] (by decide) rfl) hS
      exact lp_3 _ 1 f1 f2 f3 H locs ls rfl (by omega) (by omega) (lv_sub hl [1, 2, 3, 0] rfl) (hP.sub [0, 1, 2, 3, 4] rfl) (hD.sub [0, 1, 2, 3, 4] (by decide) rfl) hS
    · refine lv_aload_n hx hb dd_MO_makeChecks_7 rfl (lv_at hl 0 rfl) ?_
      refine gf_MO_41 hx hb hts hown hK hP 0 rfl rfl dd_MO_makeChecks_8 ?_
      refine lv_iload_n hx hb dd_MO_makeChecks_11 rfl (lv_at hl 3 rfl) ?_
      refine lv_iload_n hx hb dd_MO_makeChecks_12 rfl (lv_at hl 3 rfl) ?_
      refine xb_zne (tgt := 20) hx hb (by omega) dd_MO_makeChecks_13 rfl (fun h_38 => ?_) (fun h_38 => ?_)
      · refine lv_iconst (v := nI 0) hx hb dd_MO_makeChecks_20 (by decide) ?_
        refine xa_st hx hb hK hP hD hS 3 rfl (j := i) (by omega) (by omega) dd_MO_makeChecks_21 (fun f_39 H locs hP hD hS => ?_)
        have hP : va_P g.1 vwCl [oc_o h 11 [.int (nI 0), .ref m_tape, .int (nI 0), .ref m_words, .int (nI 0), .int (nI 0), .int (nI 0), .ref m_mixed, .ref m_signs, .int (nI rr), .int (nI cc), .ref m_places, .int (nI 0), .int (nI 0), .int (nI 0), .int (nI 0), .ref m_row, .ref m_lost, .ref m_powers, .ref m_sums, .ref m_counted, .ref m_gone, .ref m_above, .ref m_below, .ref m_old, .ref m_now, .ref m_work, .ref m_isWrong, .ref m_out, .int (nI 0), .ref m_digits, .int (nI 0)], oc_i g m_row 928 f1, oc_i g m_powers 929 f4, oc_i g m_gone 1860 f_39, oc_i g m_work 1860 f3] H := hP
        have hD : va_D A [oc_o h 11 [.int (nI 0), .ref m_tape, .int (nI 0), .ref m_words, .int (nI 0), .int (nI 0), .int (nI 0), .ref m_mixed, .ref m_signs, .int (nI rr), .int (nI cc), .ref m_places, .int (nI 0), .int (nI 0), .int (nI 0), .int (nI 0), .ref m_row, .ref m_lost, .ref m_powers, .ref m_sums, .ref m_counted, .ref m_gone, .ref m_above, .ref m_below, .ref m_old, .ref m_now, .ref m_work, .ref m_isWrong, .ref m_out, .int (nI 0), .ref m_digits, .int (nI 0)], oc_i g m_row 928 f1, oc_i g m_powers 929 f4, oc_i g m_gone 1860 f_39, oc_i g m_work 1860 f3] := hD
        refine lv_iinc (k := 3) (lv' := [(3, .int (nI (i + 1))), (0, .ref h), (1, .int (nI nn)), (2, .int (nI K))]) hx hb dd_MO_makeChecks_22 hl rfl (xi_inc _) (by decide) rfl (fun ls hl => ?_)
        refine lv_goto (tgt := 2) hx hb dd_MO_makeChecks_25 rfl ?_
        exact ih1 _ (by omega) (i + 1) f1 f_39 f3 H locs ls rfl (by omega) (lv_sub hl [1, 2, 3, 0] rfl) (hP.sub [0, 1, 2, 3, 4] rfl) (hD.sub [0, 1, 2, 3, 4] (by decide) rfl) hS
      · refine lv_iconst (v := nI 1) hx hb dd_MO_makeChecks_16 (by decide) ?_
        refine lv_goto (tgt := 21) hx hb dd_MO_makeChecks_17 rfl ?_
        refine xa_st hx hb hK hP hD hS 3 rfl (j := i) (by omega) (by omega) dd_MO_makeChecks_21 (fun f_40 H locs hP hD hS => ?_)
        have hP : va_P g.1 vwCl [oc_o h 11 [.int (nI 0), .ref m_tape, .int (nI 0), .ref m_words, .int (nI 0), .int (nI 0), .int (nI 0), .ref m_mixed, .ref m_signs, .int (nI rr), .int (nI cc), .ref m_places, .int (nI 0), .int (nI 0), .int (nI 0), .int (nI 0), .ref m_row, .ref m_lost, .ref m_powers, .ref m_sums, .ref m_counted, .ref m_gone, .ref m_above, .ref m_below, .ref m_old, .ref m_now, .ref m_work, .ref m_isWrong, .ref m_out, .int (nI 0), .ref m_digits, .int (nI 0)], oc_i g m_row 928 f1, oc_i g m_powers 929 f4, oc_i g m_gone 1860 f_40, oc_i g m_work 1860 f3] H := hP
        have hD : va_D A [oc_o h 11 [.int (nI 0), .ref m_tape, .int (nI 0), .ref m_words, .int (nI 0), .int (nI 0), .int (nI 0), .ref m_mixed, .ref m_signs, .int (nI rr), .int (nI cc), .ref m_places, .int (nI 0), .int (nI 0), .int (nI 0), .int (nI 0), .ref m_row, .ref m_lost, .ref m_powers, .ref m_sums, .ref m_counted, .ref m_gone, .ref m_above, .ref m_below, .ref m_old, .ref m_now, .ref m_work, .ref m_isWrong, .ref m_out, .int (nI 0), .ref m_digits, .int (nI 0)], oc_i g m_row 928 f1, oc_i g m_powers 929 f4, oc_i g m_gone 1860 f_40, oc_i g m_work 1860 f3] := hD
        refine lv_iinc (k := 3) (lv' := [(3, .int (nI (i + 1))), (0, .ref h), (1, .int (nI nn)), (2, .int (nI K))]) hx hb dd_MO_makeChecks_22 hl rfl (xi_inc _) (by decide) rfl (fun ls hl => ?_)
        refine lv_goto (tgt := 2) hx hb dd_MO_makeChecks_25 rfl ?_
        exact ih1 _ (by omega) (i + 1) f1 f_40 f3 H locs ls rfl (by omega) (lv_sub hl [1, 2, 3, 0] rfl) (hP.sub [0, 1, 2, 3, 4] rfl) (hD.sub [0, 1, 2, 3, 4] (by decide) rfl) hS
  exact lp_1 _ 0 f1 f2 f3 H locs ls rfl (by omega) (lv_sub hl [1, 2, 3, 0] rfl) (hP.sub [0, 1, 2, 3, 4] rfl) (hD.sub [0, 1, 2, 3, 4] (by decide) rfl) hS

set_option maxHeartbeats 4000000 in
set_option maxRecDepth 100000 in
theorem cm_make (l : Launch) (g : xg_G) (h : Nat) (m_tape : Nat) (m_words : Nat) (m_mixed : Nat) (m_signs : Nat) (m_places : Nat) (m_row : Nat) (m_lost : Nat) (m_powers : Nat) (m_sums : Nat) (m_counted : Nat) (m_gone : Nat) (m_above : Nat) (m_below : Nat) (m_old : Nat) (m_now : Nat) (m_work : Nat) (m_isWrong : Nat) (m_out : Nat) (m_digits : Nat) (L : Nat) (cc : Nat) (K : Nat) (rr : Nat) (f1 : Nat → Int32) (f2 : Nat → Int32) (f3 : Nat → Int32) (f4 : Nat → Int32) (f5 : Nat → Int32) (qL : L ≤ 8) (qK : K = 2 ^ (L + 1)) (qK2 : 2 ≤ K ∧ K ≤ 512) (qc : 1 ≤ cc) (qc2 : cc ≤ 30) (qr : rr = xr_hh (1 + K) cc) (qr2 : 3 ≤ rr ∧ rr ≤ 90) (qn : rr * cc ≤ 928) (qn2 : K + 1 ≤ rr * cc) : kc_I l yy_MO_make cd_MO_make 7 .int { frames := 2, cells := 0, slots := 0, locals := 43 } g [.ref h, .int (nI L), .int (nI cc)] [oc_o h 11 [.int (nI 0), .ref m_tape, .int (nI 0), .ref m_words, .int (nI 0), .int (nI 0), .int (nI 0), .ref m_mixed, .ref m_signs, .int (nI 0), .int (nI 0), .ref m_places, .int (nI 0), .int (nI 0), .int (nI 0), .int (nI 0), .ref m_row, .ref m_lost, .ref m_powers, .ref m_sums, .ref m_counted, .ref m_gone, .ref m_above, .ref m_below, .ref m_old, .ref m_now, .ref m_work, .ref m_isWrong, .ref m_out, .int (nI 0), .ref m_digits, .int (nI 0)], oc_i g m_places 2900 f1, oc_i g m_row 928 f2, oc_i g m_powers 929 f5, oc_i g m_gone 1860 f3, oc_i g m_work 1860 f4] (S := Unit) (fun r0 _ => r0 = nI rr) (fun _ => [oc_o h 11 [.int (nI 0), .ref m_tape, .int (nI 0), .ref m_words, .int (nI 0), .int (nI 0), .int (nI 0), .ref m_mixed, .ref m_signs, .int (nI rr), .int (nI cc), .ref m_places, .int (nI 0), .int (nI 0), .int (nI 0), .int (nI 0), .ref m_row, .ref m_lost, .ref m_powers, .ref m_sums, .ref m_counted, .ref m_gone, .ref m_above, .ref m_below, .ref m_old, .ref m_now, .ref m_work, .ref m_isWrong, .ref m_out, .int (nI 0), .ref m_digits, .int (nI 0)]]) := by
  refine kc_Iof (by decide) (Nat.le_of_ble_eq_true rfl) ?_
  intro p e s m args below meth c A ls Q H locs hQ hB hP hS
  obtain ⟨hx, hb, hr, hlk, hin, hml, hown, hts, hA, hK, hD, hE, hl⟩ := hB
  have hF : xf_F g p m c cd_MO_make 7 s args "StackedRowsModel" A := ⟨⟨hx, hb, hml, hown, hts⟩, hE, hK, hA⟩
  have hl : lv_has ls 7 [(0, .ref h), (1, .int (nI L)), (2, .int (nI cc))] := hl
  have hown : s.vm.findClass "StackedRowsModel" = some m.cls := hown
  refine lv_aload_n hx hb dd_MO_make_0 rfl (lv_at hl 0 rfl) ?_
  refine lv_iload_n hx hb dd_MO_make_1 rfl (lv_at hl 1 rfl) ?_
  refine xb_zlt (tgt := 26) hx hb (by omega) dd_MO_make_2 rfl ?_
  refine lv_iload_n hx hb dd_MO_make_5 rfl (lv_at hl 1 rfl) ?_
  refine lv_bipush (v := nI 8) hx hb dd_MO_make_6 (by decide) ?_
  refine xb_gt (tgt := 26) hx hb (by omega) (by omega) dd_MO_make_8 rfl (fun h_1 => False.elim (by omega)) (fun h_1 => ?_)
  refine lv_iload_n hx hb dd_MO_make_11 rfl (lv_at hl 2 rfl) ?_
  refine lv_iconst (v := nI 1) hx hb dd_MO_make_12 (by decide) ?_
  refine xb_lt (tgt := 26) hx hb (by omega) (by omega) dd_MO_make_13 rfl (fun h_2 => False.elim (by omega)) (fun h_2 => ?_)
  refine lv_iload_n hx hb dd_MO_make_16 rfl (lv_at hl 2 rfl) ?_
  refine lv_bipush (v := nI 30) hx hb dd_MO_make_17 (by decide) ?_
  refine xb_gt (tgt := 26) hx hb (by omega) (by omega) dd_MO_make_19 rfl (fun h_3 => False.elim (by omega)) (fun h_3 => ?_)
  refine lv_iconst (v := nI 0) hx hb dd_MO_make_22 (by decide) ?_
  refine lv_goto (tgt := 27) hx hb dd_MO_make_23 rfl ?_
  refine pf_MO_68 hx hb hts hown hK hP hD hS 0 rfl rfl rfl (Nat.le_of_ble_eq_true rfl) dd_MO_make_27 (fun H locs hP hD hS => ?_)
  have hP : va_P g.1 vwCl [oc_o h 11 [.int (nI 0), .ref m_tape, .int (nI 0), .ref m_words, .int (nI 0), .int (nI 0), .int (nI 0), .ref m_mixed, .ref m_signs, .int (nI 0), .int (nI 0), .ref m_places, .int (nI 0), .int (nI 0), .int (nI 0), .int (nI 0), .ref m_row, .ref m_lost, .ref m_powers, .ref m_sums, .ref m_counted, .ref m_gone, .ref m_above, .ref m_below, .ref m_old, .ref m_now, .ref m_work, .ref m_isWrong, .ref m_out, .int (nI 0), .ref m_digits, .int (nI 0)], oc_i g m_places 2900 f1, oc_i g m_row 928 f2, oc_i g m_powers 929 f5, oc_i g m_gone 1860 f3, oc_i g m_work 1860 f4] H := hP
  have hD : va_D A [oc_o h 11 [.int (nI 0), .ref m_tape, .int (nI 0), .ref m_words, .int (nI 0), .int (nI 0), .int (nI 0), .ref m_mixed, .ref m_signs, .int (nI 0), .int (nI 0), .ref m_places, .int (nI 0), .int (nI 0), .int (nI 0), .int (nI 0), .ref m_row, .ref m_lost, .ref m_powers, .ref m_sums, .ref m_counted, .ref m_gone, .ref m_above, .ref m_below, .ref m_old, .ref m_now, .ref m_work, .ref m_isWrong, .ref m_out, .int (nI 0), .ref m_digits, .int (nI 0)], oc_i g m_places 2900 f1, oc_i g m_row 928 f2, oc_i g m_powers 929 f5, oc_i g m_gone 1860 f3, oc_i g m_work 1860 f4] := hD
  refine lv_aload_n hx hb dd_MO_make_30 rfl (lv_at hl 0 rfl) ?_
  refine gf_MO_68 hx hb hts hown hK hP 0 rfl rfl dd_MO_make_31 ?_
  refine lv_if_le (tgt := 39) hx hb dd_MO_make_34 rfl (fun _ => ?_) (fun h_4 => absurd (by decide) h_4)
  refine lv_aload_n hx hb dd_MO_make_39 rfl (lv_at hl 0 rfl) ?_
  refine xc_Vv (wr := [oc_i g m_places 2900 f1, oc_i g m_row 928 f2, oc_i g m_powers 929 f5, oc_i g m_gone 1860 f3, oc_i g m_work 1860 f4]) (k1 := 0) (k2 := 0) (As := []) (rest := []) (k := 0) hF hP hD hS (cm_writeAll l g h m_tape m_words m_mixed m_signs m_places m_row m_lost m_powers m_sums m_counted m_gone m_above m_below m_old m_now m_work m_isWrong m_out m_digits) (xt_V ml_MO_131 wi_MO_writeAll wx_MO_writeAll wn_MO wc_MO_writeAll) (by decide) 0 rfl rfl rfl [0] [1, 2, 3, 4, 5] ⟨rfl, rfl, by decide, by decide, by decide⟩ ⟨⟨Nat.le_of_ble_eq_true rfl, Nat.le_of_ble_eq_true rfl⟩, rfl, rfl, Nat.le_of_ble_eq_true rfl, Nat.le_of_ble_eq_true rfl⟩ rfl hl.1 rfl (Nat.le_of_ble_eq_true rfl) dd_MO_make_40 (fun u H locs hp hP hD hS => ?_)
  have hP : va_P g.1 vwCl [oc_i g m_places 2900 f1, oc_i g m_row 928 f2, oc_i g m_powers 929 f5, oc_i g m_gone 1860 f3, oc_i g m_work 1860 f4, oc_o h 11 [.int (nI 0), .ref m_tape, .int (nI 0), .ref m_words, .int (nI 0), .int (nI 0), .int (nI 0), .ref m_mixed, .ref m_signs, .int (nI 0), .int (nI 0), .ref m_places, .int (nI 0), .int (nI 0), .int (nI 0), .int (nI 0), .ref m_row, .ref m_lost, .ref m_powers, .ref m_sums, .ref m_counted, .ref m_gone, .ref m_above, .ref m_below, .ref m_old, .ref m_now, .ref m_work, .ref m_isWrong, .ref m_out, .int (nI 0), .ref m_digits, .int (nI 0)]] H := hP
  have hD : va_D A [oc_i g m_places 2900 f1, oc_i g m_row 928 f2, oc_i g m_powers 929 f5, oc_i g m_gone 1860 f3, oc_i g m_work 1860 f4, oc_o h 11 [.int (nI 0), .ref m_tape, .int (nI 0), .ref m_words, .int (nI 0), .int (nI 0), .int (nI 0), .ref m_mixed, .ref m_signs, .int (nI 0), .int (nI 0), .ref m_places, .int (nI 0), .int (nI 0), .int (nI 0), .int (nI 0), .ref m_row, .ref m_lost, .ref m_powers, .ref m_sums, .ref m_counted, .ref m_gone, .ref m_above, .ref m_below, .ref m_old, .ref m_now, .ref m_work, .ref m_isWrong, .ref m_out, .int (nI 0), .ref m_digits, .int (nI 0)]] := hD
  refine lv_iconst (v := nI 2) hx hb dd_MO_make_43 (by decide) ?_
  refine lv_iload_n hx hb dd_MO_make_44 rfl (lv_at hl 1 rfl) ?_
  refine lv_ishl hx hb dd_MO_make_45 (xi_eq (v := nI K) (xr_shl qL qK) ?_)
  refine lv_istore_n (lv' := [(3, .int (nI K)), (0, .ref h), (1, .int (nI L)), (2, .int (nI cc))]) hx hb dd_MO_make_46 rfl hl (by decide) rfl (fun ls hl => ?_)
  refine lv_iconst (v := nI 1) hx hb dd_MO_make_47 (by decide) ?_
  refine lv_aload_n hx hb dd_MO_make_48 rfl (lv_at hl 1 rfl) ?_
  refine gf_MO_89 hx hb hts hown hK hP 5 rfl rfl dd_MO_make_49 ?_
  refine xi_iadd hx hb dd_MO_make_52 ?_
  refine lv_iload_n hx hb dd_MO_make_53 rfl (lv_at hl 0 rfl) ?_
  refine xi_iadd hx hb dd_MO_make_54 ?_
  refine lv_iload_n hx hb dd_MO_make_55 rfl (lv_at hl 3 rfl) ?_
  refine xi_iadd hx hb dd_MO_make_56 ?_
  refine lv_iconst (v := nI 1) hx hb dd_MO_make_57 (by decide) ?_
  refine xi_isub hx hb (by omega) dd_MO_make_58 ?_
  refine lv_iload_n hx hb dd_MO_make_59 rfl (lv_at hl 3 rfl) ?_
  refine xi_idiv hx hb (by omega) (by omega) (by omega) dd_MO_make_60 ?_
  refine lv_istore (lv' := [(4, .int (nI (((1 + K + cc) - 1) / cc))), (3, .int (nI K)), (0, .ref h), (1, .int (nI L)), (2, .int (nI cc))]) hx hb dd_MO_make_61 hl (by decide) rfl (fun ls hl => ?_)
  refine lv_iload hx hb dd_MO_make_63 (lv_at hl 0 rfl) ?_
  refine lv_iconst (v := nI 3) hx hb dd_MO_make_65 (by decide) ?_
  have qd9 : (1 + K + cc - 1) / cc ≤ 600 := Nat.le_trans (Nat.div_le_self _ _) (by omega)
  refine xb_ge (tgt := 73) hx hb (by omega) (by omega) dd_MO_make_66 rfl (fun qh9 => ?_) (fun qh9 => ?_)
  · refine lv_iload hx hb dd_MO_make_73 (lv_at hl 0 rfl) ?_
    refine xi_eq (v := nI rr) (congrArg nI (by first | exact xr_a qr qh9 | exact xr_b qr qh9)) ?_
    refine lv_istore (lv' := [(4, .int (nI rr)), (3, .int (nI K)), (0, .ref h), (1, .int (nI L)), (2, .int (nI cc))]) hx hb dd_MO_make_75 hl (by decide) rfl (fun ls hl => ?_)
    refine lv_aload_n hx hb dd_MO_make_77 rfl (lv_at hl 2 rfl) ?_
    refine lv_iload hx hb dd_MO_make_78 (lv_at hl 0 rfl) ?_
    refine lv_bipush (v := nI 90) hx hb dd_MO_make_80 (by decide) ?_
    refine xb_gt (tgt := 95) hx hb (by omega) (by omega) dd_MO_make_82 rfl (fun h_6 => False.elim (by omega)) (fun h_6 => ?_)
    refine lv_iload hx hb dd_MO_make_85 (lv_at hl 0 rfl) ?_
    refine lv_iload_n hx hb dd_MO_make_87 rfl (lv_at hl 4 rfl) ?_
    refine xi_imul hx hb dd_MO_make_88 ?_
    refine lv_sipush (v := nI 928) hx hb dd_MO_make_89 (by decide) ?_
    refine xb_le (tgt := 99) hx hb (by omega) (by omega) dd_MO_make_92 rfl (fun h_7 => ?_) (fun h_7 => False.elim (by omega))
    refine lv_iconst (v := nI 0) hx hb dd_MO_make_99 (by decide) ?_
    refine pf_MO_68 hx hb hts hown hK hP hD hS 5 rfl rfl rfl (Nat.le_of_ble_eq_true rfl) dd_MO_make_100 (fun H locs hP hD hS => ?_)
    have hP : va_P g.1 vwCl [oc_i g m_places 2900 f1, oc_i g m_row 928 f2, oc_i g m_powers 929 f5, oc_i g m_gone 1860 f3, oc_i g m_work 1860 f4, oc_o h 11 [.int (nI 0), .ref m_tape, .int (nI 0), .ref m_words, .int (nI 0), .int (nI 0), .int (nI 0), .ref m_mixed, .ref m_signs, .int (nI 0), .int (nI 0), .ref m_places, .int (nI 0), .int (nI 0), .int (nI 0), .int (nI 0), .ref m_row, .ref m_lost, .ref m_powers, .ref m_sums, .ref m_counted, .ref m_gone, .ref m_above, .ref m_below, .ref m_old, .ref m_now, .ref m_work, .ref m_isWrong, .ref m_out, .int (nI 0), .ref m_digits, .int (nI 0)]] H := hP
    have hD : va_D A [oc_i g m_places 2900 f1, oc_i g m_row 928 f2, oc_i g m_powers 929 f5, oc_i g m_gone 1860 f3, oc_i g m_work 1860 f4, oc_o h 11 [.int (nI 0), .ref m_tape, .int (nI 0), .ref m_words, .int (nI 0), .int (nI 0), .int (nI 0), .ref m_mixed, .ref m_signs, .int (nI 0), .int (nI 0), .ref m_places, .int (nI 0), .int (nI 0), .int (nI 0), .int (nI 0), .ref m_row, .ref m_lost, .ref m_powers, .ref m_sums, .ref m_counted, .ref m_gone, .ref m_above, .ref m_below, .ref m_old, .ref m_now, .ref m_work, .ref m_isWrong, .ref m_out, .int (nI 0), .ref m_digits, .int (nI 0)]] := hD
    refine lv_aload_n hx hb dd_MO_make_103 rfl (lv_at hl 2 rfl) ?_
    refine gf_MO_68 hx hb hts hown hK hP 5 rfl rfl dd_MO_make_104 ?_
    refine lv_if_le (tgt := 112) hx hb dd_MO_make_107 rfl (fun _ => ?_) (fun h_8 => absurd (by decide) h_8)
    refine lv_aload_n hx hb dd_MO_make_112 rfl (lv_at hl 2 rfl) ?_
    refine lv_iload hx hb dd_MO_make_113 (lv_at hl 0 rfl) ?_
    refine pf_MO_134 hx hb hts hown hK hP hD hS 5 rfl rfl rfl (Nat.le_of_ble_eq_true rfl) dd_MO_make_115 (fun H locs hP hD hS => ?_)
    have hP : va_P g.1 vwCl [oc_i g m_places 2900 f1, oc_i g m_row 928 f2, oc_i g m_powers 929 f5, oc_i g m_gone 1860 f3, oc_i g m_work 1860 f4, oc_o h 11 [.int (nI 0), .ref m_tape, .int (nI 0), .ref m_words, .int (nI 0), .int (nI 0), .int (nI 0), .ref m_mixed, .ref m_signs, .int (nI rr), .int (nI 0), .ref m_places, .int (nI 0), .int (nI 0), .int (nI 0), .int (nI 0), .ref m_row, .ref m_lost, .ref m_powers, .ref m_sums, .ref m_counted, .ref m_gone, .ref m_above, .ref m_below, .ref m_old, .ref m_now, .ref m_work, .ref m_isWrong, .ref m_out, .int (nI 0), .ref m_digits, .int (nI 0)]] H := hP
    have hD : va_D A [oc_i g m_places 2900 f1, oc_i g m_row 928 f2, oc_i g m_powers 929 f5, oc_i g m_gone 1860 f3, oc_i g m_work 1860 f4, oc_o h 11 [.int (nI 0), .ref m_tape, .int (nI 0), .ref m_words, .int (nI 0), .int (nI 0), .int (nI 0), .ref m_mixed, .ref m_signs, .int (nI rr), .int (nI 0), .ref m_places, .int (nI 0), .int (nI 0), .int (nI 0), .int (nI 0), .ref m_row, .ref m_lost, .ref m_powers, .ref m_sums, .ref m_counted, .ref m_gone, .ref m_above, .ref m_below, .ref m_old, .ref m_now, .ref m_work, .ref m_isWrong, .ref m_out, .int (nI 0), .ref m_digits, .int (nI 0)]] := hD
    refine lv_aload_n hx hb dd_MO_make_118 rfl (lv_at hl 2 rfl) ?_
    refine lv_iload_n hx hb dd_MO_make_119 rfl (lv_at hl 4 rfl) ?_
    refine pf_MO_137 hx hb hts hown hK hP hD hS 5 rfl rfl rfl (Nat.le_of_ble_eq_true rfl) dd_MO_make_120 (fun H locs hP hD hS => ?_)
    have hP : va_P g.1 vwCl [oc_i g m_places 2900 f1, oc_i g m_row 928 f2, oc_i g m_powers 929 f5, oc_i g m_gone 1860 f3, oc_i g m_work 1860 f4, oc_o h 11 [.int (nI 0), .ref m_tape, .int (nI 0), .ref m_words, .int (nI 0), .int (nI 0), .int (nI 0), .ref m_mixed, .ref m_signs, .int (nI rr), .int (nI cc), .ref m_places, .int (nI 0), .int (nI 0), .int (nI 0), .int (nI 0), .ref m_row, .ref m_lost, .ref m_powers, .ref m_sums, .ref m_counted, .ref m_gone, .ref m_above, .ref m_below, .ref m_old, .ref m_now, .ref m_work, .ref m_isWrong, .ref m_out, .int (nI 0), .ref m_digits, .int (nI 0)]] H := hP
    have hD : va_D A [oc_i g m_places 2900 f1, oc_i g m_row 928 f2, oc_i g m_powers 929 f5, oc_i g m_gone 1860 f3, oc_i g m_work 1860 f4, oc_o h 11 [.int (nI 0), .ref m_tape, .int (nI 0), .ref m_words, .int (nI 0), .int (nI 0), .int (nI 0), .ref m_mixed, .ref m_signs, .int (nI rr), .int (nI cc), .ref m_places, .int (nI 0), .int (nI 0), .int (nI 0), .int (nI 0), .ref m_row, .ref m_lost, .ref m_powers, .ref m_sums, .ref m_counted, .ref m_gone, .ref m_above, .ref m_below, .ref m_old, .ref m_now, .ref m_work, .ref m_isWrong, .ref m_out, .int (nI 0), .ref m_digits, .int (nI 0)]] := hD
    refine lv_aload_n hx hb dd_MO_make_123 rfl (lv_at hl 2 rfl) ?_
    refine gf_MO_134 hx hb hts hown hK hP 5 rfl rfl dd_MO_make_124 ?_
    refine lv_aload_n hx hb dd_MO_make_127 rfl (lv_at hl 2 rfl) ?_
    refine gf_MO_137 hx hb hts hown hK hP 5 rfl rfl dd_MO_make_128 ?_
    refine xi_imul hx hb dd_MO_make_131 ?_
    refine lv_istore (lv' := [(5, .int (nI (rr * cc))), (4, .int (nI rr)), (3, .int (nI K)), (0, .ref h), (1, .int (nI L)), (2, .int (nI cc))]) hx hb dd_MO_make_132 hl (by decide) rfl (fun ls hl => ?_)
    refine lv_iconst (v := nI 0) hx hb dd_MO_make_134 (by decide) ?_
    refine lv_istore (lv' := [(6, .int (nI 0)), (5, .int (nI (rr * cc))), (4, .int (nI rr)), (3, .int (nI K)), (0, .ref h), (1, .int (nI L)), (2, .int (nI cc))]) hx hb dd_MO_make_135 hl (by decide) rfl (fun ls hl => ?_)
    have lp_9 : ∀ (n9 : Nat) (i : Nat) (f1 : Nat → Int32) (f2 : Nat → Int32) (f3 : Nat → Int32) (f4 : Nat → Int32) (H : Heap) (locs : List Loc) (ls : Array Slot), rr * cc - K - i = n9 → (i ≤ rr * cc - K) → lv_has ls 7 [(0, .ref h), (1, .int (nI L)), (2, .int (nI cc)), (3, .int (nI K)), (4, .int (nI rr)), (5, .int (nI (rr * cc))), (6, .int (nI i))] → va_P g.1 vwCl [oc_o h 11 [.int (nI 0), .ref m_tape, .int (nI 0), .ref m_words, .int (nI 0), .int (nI 0), .int (nI 0), .ref m_mixed, .ref m_signs, .int (nI rr), .int (nI cc), .ref m_places, .int (nI 0), .int (nI 0), .int (nI 0), .int (nI 0), .ref m_row, .ref m_lost, .ref m_powers, .ref m_sums, .ref m_counted, .ref m_gone, .ref m_above, .ref m_below, .ref m_old, .ref m_now, .ref m_work, .ref m_isWrong, .ref m_out, .int (nI 0), .ref m_digits, .int (nI 0)], oc_i g m_places 2900 f1, oc_i g m_row 928 f2, oc_i g m_powers 929 f5, oc_i g m_gone 1860 f3, oc_i g m_work 1860 f4] H → va_D A [oc_o h 11 [.int (nI 0), .ref m_tape, .int (nI 0), .ref m_words, .int (nI 0), .int (nI 0), .int (nI 0), .ref m_mixed, .ref m_signs, .int (nI rr), .int (nI cc), .ref m_places, .int (nI 0), .int (nI 0), .int (nI 0), .int (nI 0), .ref m_row, .ref m_lost, .ref m_powers, .ref m_sums, .ref m_counted, .ref m_gone, .ref m_above, .ref m_below, .ref m_old, .ref m_now, .ref m_work, .ref m_isWrong, .ref m_out, .int (nI 0), .ref m_digits, .int (nI 0)], oc_i g m_places 2900 f1, oc_i g m_row 928 f2, oc_i g m_powers 929 f5, oc_i g m_gone 1860 f3, oc_i g m_work 1860 f4] → va_S A s.heap H locs → W p l e { frames := 2, cells := 0, slots := 0, locals := 43 } s m args below meth c H locs 0 0 Q (F0 m 137 ls []) := by
      intro n9
      induction n9 using Nat.strongRecOn with
      | _ n9 ih9 =>
      intro i f1 f2 f3 f4 H locs ls hmn9 qi hl hP hD hS
      refine lv_iload hx hb dd_MO_make_137 (lv_at hl 6 rfl) ?_
      refine lv_iload hx hb dd_MO_make_139 (lv_at hl 5 rfl) ?_
      refine lv_iload_n hx hb dd_MO_make_141 rfl (lv_at hl 3 rfl) ?_
      refine xi_isub hx hb (by omega) dd_MO_make_142 ?_
      refine xb_ge (tgt := 195) hx hb (by omega) (by omega) dd_MO_make_143 rfl (fun h_10 => ?_) (fun h_10 => ?_)
      · refine lv_aload_n hx hb dd_MO_make_195 rfl (lv_at hl 0 rfl) ?_
        refine lv_iload hx hb dd_MO_make_196 (lv_at hl 5 rfl) ?_
        refine lv_iload_n hx hb dd_MO_make_198 rfl (lv_at hl 3 rfl) ?_
        refine xc_Vv (wr := [oc_i g m_places 2900 f1]) (k1 := 0) (k2 := 0) (As := [.int (nI (rr * cc)), .int (nI K)]) (rest := []) (k := 2) hF hP hD hS (cm_checks l g h m_tape m_words m_mixed m_signs m_places m_row m_lost m_powers m_sums m_counted m_gone m_above m_below m_old m_now m_work m_isWrong m_out m_digits rr cc (rr * cc) K f2 f3 f4 f5 (by omega) (by omega) (by omega)) (xt_V ml_MO_143 wi_MO_makeChecks wx_MO_makeChecks wn_MO wc_MO_makeChecks) (by decide) 0 rfl rfl rfl [0, 2, 3, 4, 5] [1] ⟨rfl, rfl, by decide, by decide, by decide⟩ ⟨⟨Nat.le_of_ble_eq_true rfl, Nat.le_of_ble_eq_true rfl⟩, rfl, rfl, Nat.le_of_ble_eq_true rfl, Nat.le_of_ble_eq_true rfl⟩ rfl hl.1 rfl (Nat.le_of_ble_eq_true rfl) dd_MO_make_199 (fun u H locs hp hP hD hS => ?_)
        obtain ⟨f_11, f_12, f_13⟩ := u
        have hP : va_P g.1 vwCl [oc_i g m_places 2900 f1, oc_o h 11 [.int (nI 0), .ref m_tape, .int (nI 0), .ref m_words, .int (nI 0), .int (nI 0), .int (nI 0), .ref m_mixed, .ref m_signs, .int (nI rr), .int (nI cc), .ref m_places, .int (nI 0), .int (nI 0), .int (nI 0), .int (nI 0), .ref m_row, .ref m_lost, .ref m_powers, .ref m_sums, .ref m_counted, .ref m_gone, .ref m_above, .ref m_below, .ref m_old, .ref m_now, .ref m_work, .ref m_isWrong, .ref m_out, .int (nI 0), .ref m_digits, .int (nI 0)], oc_i g m_row 928 f_11, oc_i g m_powers 929 f5, oc_i g m_gone 1860 f_12, oc_i g m_work 1860 f_13] H := hP
        have hD : va_D A [oc_i g m_places 2900 f1, oc_o h 11 [.int (nI 0), .ref m_tape, .int (nI 0), .ref m_words, .int (nI 0), .int (nI 0), .int (nI 0), .ref m_mixed, .ref m_signs, .int (nI rr), .int (nI cc), .ref m_places, .int (nI 0), .int (nI 0), .int (nI 0), .int (nI 0), .ref m_row, .ref m_lost, .ref m_powers, .ref m_sums, .ref m_counted, .ref m_gone, .ref m_above, .ref m_below, .ref m_old, .ref m_now, .ref m_work, .ref m_isWrong, .ref m_out, .int (nI 0), .ref m_digits, .int (nI 0)], oc_i g m_row 928 f_11, oc_i g m_powers 929 f5, oc_i g m_gone 1860 f_12, oc_i g m_work 1860 f_13] := hD
        refine lv_iconst (v := nI 0) hx hb dd_MO_make_202 (by decide) ?_
        refine lv_istore (lv' := [(6, .int (nI 0)), (0, .ref h), (1, .int (nI L)), (2, .int (nI cc)), (3, .int (nI K)), (4, .int (nI rr)), (5, .int (nI (rr * cc)))]) hx hb dd_MO_make_203 hl (by decide) rfl (fun ls hl => ?_)
        have lp_15 : ∀ (n15 : Nat) (i : Nat) (f1 : Nat → Int32) (f2 : Nat → Int32) (f3 : Nat → Int32) (f4 : Nat → Int32) (H : Heap) (locs : List Loc) (ls : Array Slot), rr * cc - i = n15 → (i ≤ rr * cc) → lv_has ls 7 [(0, .ref h), (1, .int (nI L)), (2, .int (nI cc)), (3, .int (nI K)), (4, .int (nI rr)), (5, .int (nI (rr * cc))), (6, .int (nI i))] → va_P g.1 vwCl [oc_o h 11 [.int (nI 0), .ref m_tape, .int (nI 0), .ref m_words, .int (nI 0), .int (nI 0), .int (nI 0), .ref m_mixed, .ref m_signs, .int (nI rr), .int (nI cc), .ref m_places, .int (nI 0), .int (nI 0), .int (nI 0), .int (nI 0), .ref m_row, .ref m_lost, .ref m_powers, .ref m_sums, .ref m_counted, .ref m_gone, .ref m_above, .ref m_below, .ref m_old, .ref m_now, .ref m_work, .ref m_isWrong, .ref m_out, .int (nI 0), .ref m_digits, .int (nI 0)], oc_i g m_places 2900 f1, oc_i g m_row 928 f2, oc_i g m_powers 929 f5, oc_i g m_gone 1860 f3, oc_i g m_work 1860 f4] H → va_D A [oc_o h 11 [.int (nI 0), .ref m_tape, .int (nI 0), .ref m_words, .int (nI 0), .int (nI 0), .int (nI 0), .ref m_mixed, .ref m_signs, .int (nI rr), .int (nI cc), .ref m_places, .int (nI 0), .int (nI 0), .int (nI 0), .int (nI 0), .ref m_row, .ref m_lost, .ref m_powers, .ref m_sums, .ref m_counted, .ref m_gone, .ref m_above, .ref m_below, .ref m_old, .ref m_now, .ref m_work, .ref m_isWrong, .ref m_out, .int (nI 0), .ref m_digits, .int (nI 0)], oc_i g m_places 2900 f1, oc_i g m_row 928 f2, oc_i g m_powers 929 f5, oc_i g m_gone 1860 f3, oc_i g m_work 1860 f4] → va_S A s.heap H locs → W p l e { frames := 2, cells := 0, slots := 0, locals := 43 } s m args below meth c H locs 0 0 Q (F0 m 205 ls []) := by
          intro n15
          induction n15 using Nat.strongRecOn with
          | _ n15 ih15 =>
          intro i f1 f2 f3 f4 H locs ls hmn15 qi hl hP hD hS
          refine lv_iload hx hb dd_MO_make_205 (lv_at hl 6 rfl) ?_
          refine lv_iload hx hb dd_MO_make_207 (lv_at hl 5 rfl) ?_
          refine xb_ge (tgt := 236) hx hb (by omega) (by omega) dd_MO_make_209 rfl (fun qi9 => ?_) (fun qi9 => ?_)
          · refine lv_iconst (v := nI 0) hx hb dd_MO_make_236 (by decide) ?_
            refine lv_istore (lv' := [(6, .int (nI 0)), (0, .ref h), (1, .int (nI L)), (2, .int (nI cc)), (3, .int (nI K)), (4, .int (nI rr)), (5, .int (nI (rr * cc)))]) hx hb dd_MO_make_237 hl (by decide) rfl (fun ls hl => ?_)
            have lp_16 : ∀ (n16 : Nat) (i : Nat) (f1 : Nat → Int32) (f2 : Nat → Int32) (f3 : Nat → Int32) (f4 : Nat → Int32) (H : Heap) (locs : List Loc) (ls : Array Slot), rr - i = n16 → (i ≤ rr) → lv_has ls 7 [(0, .ref h), (1, .int (nI L)), (2, .int (nI cc)), (3, .int (nI K)), (4, .int (nI rr)), (5, .int (nI (rr * cc))), (6, .int (nI i))] → va_P g.1 vwCl [oc_o h 11 [.int (nI 0), .ref m_tape, .int (nI 0), .ref m_words, .int (nI 0), .int (nI 0), .int (nI 0), .ref m_mixed, .ref m_signs, .int (nI rr), .int (nI cc), .ref m_places, .int (nI 0), .int (nI 0), .int (nI 0), .int (nI 0), .ref m_row, .ref m_lost, .ref m_powers, .ref m_sums, .ref m_counted, .ref m_gone, .ref m_above, .ref m_below, .ref m_old, .ref m_now, .ref m_work, .ref m_isWrong, .ref m_out, .int (nI 0), .ref m_digits, .int (nI 0)], oc_i g m_places 2900 f1, oc_i g m_row 928 f2, oc_i g m_powers 929 f5, oc_i g m_gone 1860 f3, oc_i g m_work 1860 f4] H → va_D A [oc_o h 11 [.int (nI 0), .ref m_tape, .int (nI 0), .ref m_words, .int (nI 0), .int (nI 0), .int (nI 0), .ref m_mixed, .ref m_signs, .int (nI rr), .int (nI cc), .ref m_places, .int (nI 0), .int (nI 0), .int (nI 0), .int (nI 0), .ref m_row, .ref m_lost, .ref m_powers, .ref m_sums, .ref m_counted, .ref m_gone, .ref m_above, .ref m_below, .ref m_old, .ref m_now, .ref m_work, .ref m_isWrong, .ref m_out, .int (nI 0), .ref m_digits, .int (nI 0)], oc_i g m_places 2900 f1, oc_i g m_row 928 f2, oc_i g m_powers 929 f5, oc_i g m_gone 1860 f3, oc_i g m_work 1860 f4] → va_S A s.heap H locs → W p l e { frames := 2, cells := 0, slots := 0, locals := 43 } s m args below meth c H locs 0 0 Q (F0 m 239 ls []) := by
              intro n16
              induction n16 using Nat.strongRecOn with
              | _ n16 ih16 =>
              intro i f1 f2 f3 f4 H locs ls hmn16 qi hl hP hD hS
              refine lv_iload hx hb dd_MO_make_239 (lv_at hl 6 rfl) ?_
              refine lv_aload_n hx hb dd_MO_make_241 rfl (lv_at hl 0 rfl) ?_
              refine gf_MO_134 hx hb hts hown hK hP 0 rfl rfl dd_MO_make_242 ?_
              refine xb_ge (tgt := 299) hx hb (by omega) (by omega) dd_MO_make_245 rfl (fun qi9 => ?_) (fun qi9 => ?_)
              · refine lv_aload_n hx hb dd_MO_make_299 rfl (lv_at hl 0 rfl) ?_
                refine gf_MO_134 hx hb hts hown hK hP 0 rfl rfl dd_MO_make_300 ?_
                exact xr_i hx hb hr hlk hQ hP hD hS () (by first | rfl | exact congrArg nI (by omega)) [0] (by decide) rfl rfl (Nat.le_of_ble_eq_true rfl) (Nat.le_of_ble_eq_true rfl) dd_MO_make_303
              · refine lv_aload_n hx hb dd_MO_make_248 rfl (lv_at hl 0 rfl) ?_
                refine gf_MO_22 hx hb hts hown hK hP 0 rfl rfl dd_MO_make_249 ?_
                refine lv_aload_n hx hb dd_MO_make_252 rfl (lv_at hl 0 rfl) ?_
                refine lv_iload hx hb dd_MO_make_253 (lv_at hl 6 rfl) ?_
                refine lv_iconst (v := nI 0) hx hb dd_MO_make_255 (by decide) ?_
                refine xc_Vi (wr := [oc_i g m_places 2900 f1, oc_i g m_row 928 f2, oc_i g m_powers 929 f5, oc_i g m_gone 1860 f3, oc_i g m_work 1860 f4]) (k1 := 0) (k2 := 0) (As := [.int (nI i), .int (nI 0)]) (rest := [.ref m_places]) (k := 2) hF hP hD hS (cm_at l g h m_tape m_words m_mixed m_signs m_places m_row m_lost m_powers m_sums m_counted m_gone m_above m_below m_old m_now m_work m_isWrong m_out m_digits rr cc i 0) (xt_V ml_MO_140 wi_MO_at wx_MO_at wn_MO wc_MO_at) (by decide) 0 rfl rfl rfl [0] [1, 2, 3, 4, 5] ⟨rfl, rfl, by decide, by decide, by decide⟩ ⟨⟨Nat.le_of_ble_eq_true rfl, Nat.le_of_ble_eq_true rfl⟩, rfl, rfl, Nat.le_of_ble_eq_true rfl, Nat.le_of_ble_eq_true rfl⟩ rfl hl.1 rfl (Nat.le_of_ble_eq_true rfl) dd_MO_make_256 (fun r_17 u H locs hp hP hD hS => ?_)
                obtain rfl := hp
                have hP : va_P g.1 vwCl [oc_i g m_places 2900 f1, oc_i g m_row 928 f2, oc_i g m_powers 929 f5, oc_i g m_gone 1860 f3, oc_i g m_work 1860 f4, oc_o h 11 [.int (nI 0), .ref m_tape, .int (nI 0), .ref m_words, .int (nI 0), .int (nI 0), .int (nI 0), .ref m_mixed, .ref m_signs, .int (nI rr), .int (nI cc), .ref m_places, .int (nI 0), .int (nI 0), .int (nI 0), .int (nI 0), .ref m_row, .ref m_lost, .ref m_powers, .ref m_sums, .ref m_counted, .ref m_gone, .ref m_above, .ref m_below, .ref m_old, .ref m_now, .ref m_work, .ref m_isWrong, .ref m_out, .int (nI 0), .ref m_digits, .int (nI 0)]] H := hP
                have hD : va_D A [oc_i g m_places 2900 f1, oc_i g m_row 928 f2, oc_i g m_powers 929 f5, oc_i g m_gone 1860 f3, oc_i g m_work 1860 f4, oc_o h 11 [.int (nI 0), .ref m_tape, .int (nI 0), .ref m_words, .int (nI 0), .int (nI 0), .int (nI 0), .ref m_mixed, .ref m_signs, .int (nI rr), .int (nI cc), .ref m_places, .int (nI 0), .int (nI 0), .int (nI 0), .int (nI 0), .ref m_row, .ref m_lost, .ref m_powers, .ref m_sums, .ref m_counted, .ref m_gone, .ref m_above, .ref m_below, .ref m_old, .ref m_now, .ref m_work, .ref m_isWrong, .ref m_out, .int (nI 0), .ref m_digits, .int (nI 0)]] := hD
                refine lv_aload_n hx hb dd_MO_make_259 rfl (lv_at hl 0 rfl) ?_
                refine lv_iload hx hb dd_MO_make_260 (lv_at hl 6 rfl) ?_
                refine lv_iconst (v := nI 0) hx hb dd_MO_make_262 (by decide) ?_
                refine lv_iload_n hx hb dd_MO_make_263 rfl (lv_at hl 1 rfl) ?_
                refine xc_Vi (wr := [oc_i g m_places 2900 f1, oc_i g m_row 928 f2, oc_i g m_powers 929 f5, oc_i g m_gone 1860 f3, oc_i g m_work 1860 f4]) (k1 := 0) (k2 := 0) (As := [.int (nI i), .int (nI 0), .int (nI L)]) (rest := [.int (nI (i * (cc + 2) + 0)), .ref m_places]) (k := 3) hF hP hD hS (cm_ind0 l g h m_tape m_words m_mixed m_signs m_places m_row m_lost m_powers m_sums m_counted m_gone m_above m_below m_old m_now m_work m_isWrong m_out m_digits rr cc i L (by omega) (by omega) (by omega) (by omega) (by omega) (by omega)) (xt_V ml_MO_149 wi_MO_indicator wx_MO_indicator wn_MO wc_MO_indicator) (by decide) 5 rfl rfl rfl [5] [0, 1, 2, 3, 4] ⟨rfl, rfl, by decide, by decide, by decide⟩ ⟨⟨Nat.le_of_ble_eq_true rfl, Nat.le_of_ble_eq_true rfl⟩, rfl, rfl, Nat.le_of_ble_eq_true rfl, Nat.le_of_ble_eq_true rfl⟩ rfl hl.1 rfl (Nat.le_of_ble_eq_true rfl) dd_MO_make_264 (fun r_18 u H locs hp hP hD hS => ?_)
                have hP : va_P g.1 vwCl [oc_i g m_places 2900 f1, oc_i g m_row 928 f2, oc_i g m_powers 929 f5, oc_i g m_gone 1860 f3, oc_i g m_work 1860 f4, oc_o h 11 [.int (nI 0), .ref m_tape, .int (nI 0), .ref m_words, .int (nI 0), .int (nI 0), .int (nI 0), .ref m_mixed, .ref m_signs, .int (nI rr), .int (nI cc), .ref m_places, .int (nI 0), .int (nI 0), .int (nI 0), .int (nI 0), .ref m_row, .ref m_lost, .ref m_powers, .ref m_sums, .ref m_counted, .ref m_gone, .ref m_above, .ref m_below, .ref m_old, .ref m_now, .ref m_work, .ref m_isWrong, .ref m_out, .int (nI 0), .ref m_digits, .int (nI 0)]] H := hP
                have hD : va_D A [oc_i g m_places 2900 f1, oc_i g m_row 928 f2, oc_i g m_powers 929 f5, oc_i g m_gone 1860 f3, oc_i g m_work 1860 f4, oc_o h 11 [.int (nI 0), .ref m_tape, .int (nI 0), .ref m_words, .int (nI 0), .int (nI 0), .int (nI 0), .ref m_mixed, .ref m_signs, .int (nI rr), .int (nI cc), .ref m_places, .int (nI 0), .int (nI 0), .int (nI 0), .int (nI 0), .ref m_row, .ref m_lost, .ref m_powers, .ref m_sums, .ref m_counted, .ref m_gone, .ref m_above, .ref m_below, .ref m_old, .ref m_now, .ref m_work, .ref m_isWrong, .ref m_out, .int (nI 0), .ref m_digits, .int (nI 0)]] := hD
                have qix := xr_ix (j := 0) qi9 (by omega) qr2.2 qn
                refine xa_st hx hb hK hP hD hS 0 rfl (j := i * (cc + 2) + 0) (by omega) (by omega) dd_MO_make_267 (fun f_19 H locs hP hD hS => ?_)
                have hP : va_P g.1 vwCl [oc_i g m_places 2900 f_19, oc_i g m_row 928 f2, oc_i g m_powers 929 f5, oc_i g m_gone 1860 f3, oc_i g m_work 1860 f4, oc_o h 11 [.int (nI 0), .ref m_tape, .int (nI 0), .ref m_words, .int (nI 0), .int (nI 0), .int (nI 0), .ref m_mixed, .ref m_signs, .int (nI rr), .int (nI cc), .ref m_places, .int (nI 0), .int (nI 0), .int (nI 0), .int (nI 0), .ref m_row, .ref m_lost, .ref m_powers, .ref m_sums, .ref m_counted, .ref m_gone, .ref m_above, .ref m_below, .ref m_old, .ref m_now, .ref m_work, .ref m_isWrong, .ref m_out, .int (nI 0), .ref m_digits, .int (nI 0)]] H := hP
                have hD : va_D A [oc_i g m_places 2900 f_19, oc_i g m_row 928 f2, oc_i g m_powers 929 f5, oc_i g m_gone 1860 f3, oc_i g m_work 1860 f4, oc_o h 11 [.int (nI 0), .ref m_tape, .int (nI 0), .ref m_words, .int (nI 0), .int (nI 0), .int (nI 0), .ref m_mixed, .ref m_signs, .int (nI rr), .int (nI cc), .ref m_places, .int (nI 0), .int (nI 0), .int (nI 0), .int (nI 0), .ref m_row, .ref m_lost, .ref m_powers, .ref m_sums, .ref m_counted, .ref m_gone, .ref m_above, .ref m_below, .ref m_old, .ref m_now, .ref m_work, .ref m_isWrong, .ref m_out, .int (nI 0), .ref m_digits, .int (nI 0)]] := hD
                refine lv_aload_n hx hb dd_MO_make_268 rfl (lv_at hl 0 rfl) ?_
                refine gf_MO_22 hx hb hts hown hK hP 5 rfl rfl dd_MO_make_269 ?_
                refine lv_aload_n hx hb dd_MO_make_272 rfl (lv_at hl 0 rfl) ?_
                refine lv_iload hx hb dd_MO_make_273 (lv_at hl 6 rfl) ?_
                refine lv_aload_n hx hb dd_MO_make_275 rfl (lv_at hl 0 rfl) ?_
                refine gf_MO_137 hx hb hts hown hK hP 5 rfl rfl dd_MO_make_276 ?_
                refine lv_iconst (v := nI 1) hx hb dd_MO_make_279 (by decide) ?_
                refine xi_iadd hx hb dd_MO_make_280 ?_
                refine xc_Vi (wr := [oc_i g m_places 2900 f_19, oc_i g m_row 928 f2, oc_i g m_powers 929 f5, oc_i g m_gone 1860 f3, oc_i g m_work 1860 f4]) (k1 := 0) (k2 := 0) (As := [.int (nI i), .int (nI (cc + 1))]) (rest := [.ref m_places]) (k := 2) hF hP hD hS (cm_at l g h m_tape m_words m_mixed m_signs m_places m_row m_lost m_powers m_sums m_counted m_gone m_above m_below m_old m_now m_work m_isWrong m_out m_digits rr cc i (cc + 1)) (xt_V ml_MO_140 wi_MO_at wx_MO_at wn_MO wc_MO_at) (by decide) 5 rfl rfl rfl [5] [0, 1, 2, 3, 4] ⟨rfl, rfl, by decide, by decide, by decide⟩ ⟨⟨Nat.le_of_ble_eq_true rfl, Nat.le_of_ble_eq_true rfl⟩, rfl, rfl, Nat.le_of_ble_eq_true rfl, Nat.le_of_ble_eq_true rfl⟩ rfl hl.1 rfl (Nat.le_of_ble_eq_true rfl) dd_MO_make_281 (fun r_20 u H locs hp hP hD hS => ?_)
                obtain rfl := hp
                have hP : va_P g.1 vwCl [oc_i g m_places 2900 f_19, oc_i g m_row 928 f2, oc_i g m_powers 929 f5, oc_i g m_gone 1860 f3, oc_i g m_work 1860 f4, oc_o h 11 [.int (nI 0), .ref m_tape, .int (nI 0), .ref m_words, .int (nI 0), .int (nI 0), .int (nI 0), .ref m_mixed, .ref m_signs, .int (nI rr), .int (nI cc), .ref m_places, .int (nI 0), .int (nI 0), .int (nI 0), .int (nI 0), .ref m_row, .ref m_lost, .ref m_powers, .ref m_sums, .ref m_counted, .ref m_gone, .ref m_above, .ref m_below, .ref m_old, .ref m_now, .ref m_work, .ref m_isWrong, .ref m_out, .int (nI 0), .ref m_digits, .int (nI 0)]] H := hP
                have hD : va_D A [oc_i g m_places 2900 f_19, oc_i g m_row 928 f2, oc_i g m_powers 929 f5, oc_i g m_gone 1860 f3, oc_i g m_work 1860 f4, oc_o h 11 [.int (nI 0), .ref m_tape, .int (nI 0), .ref m_words, .int (nI 0), .int (nI 0), .int (nI 0), .ref m_mixed, .ref m_signs, .int (nI rr), .int (nI cc), .ref m_places, .int (nI 0), .int (nI 0), .int (nI 0), .int (nI 0), .ref m_row, .ref m_lost, .ref m_powers, .ref m_sums, .ref m_counted, .ref m_gone, .ref m_above, .ref m_below, .ref m_old, .ref m_now, .ref m_work, .ref m_isWrong, .ref m_out, .int (nI 0), .ref m_digits, .int (nI 0)]] := hD
                refine lv_aload_n hx hb dd_MO_make_284 rfl (lv_at hl 0 rfl) ?_
                refine lv_iload hx hb dd_MO_make_285 (lv_at hl 6 rfl) ?_
                refine lv_iconst (v := nI 1) hx hb dd_MO_make_287 (by decide) ?_
                refine lv_iload_n hx hb dd_MO_make_288 rfl (lv_at hl 1 rfl) ?_
                refine xc_Vi (wr := [oc_i g m_places 2900 f_19, oc_i g m_row 928 f2, oc_i g m_powers 929 f5, oc_i g m_gone 1860 f3, oc_i g m_work 1860 f4]) (k1 := 0) (k2 := 0) (As := [.int (nI i), .int (nI 1), .int (nI L)]) (rest := [.int (nI (i * (cc + 2) + (cc + 1))), .ref m_places]) (k := 3) hF hP hD hS (cm_ind1 l g h m_tape m_words m_mixed m_signs m_places m_row m_lost m_powers m_sums m_counted m_gone m_above m_below m_old m_now m_work m_isWrong m_out m_digits rr cc i L (by omega) (by omega) (by omega) (by omega) (by omega) (by omega)) (xt_V ml_MO_149 wi_MO_indicator wx_MO_indicator wn_MO wc_MO_indicator) (by decide) 5 rfl rfl rfl [5] [0, 1, 2, 3, 4] ⟨rfl, rfl, by decide, by decide, by decide⟩ ⟨⟨Nat.le_of_ble_eq_true rfl, Nat.le_of_ble_eq_true rfl⟩, rfl, rfl, Nat.le_of_ble_eq_true rfl, Nat.le_of_ble_eq_true rfl⟩ rfl hl.1 rfl (Nat.le_of_ble_eq_true rfl) dd_MO_make_289 (fun r_21 u H locs hp hP hD hS => ?_)
                have hP : va_P g.1 vwCl [oc_i g m_places 2900 f_19, oc_i g m_row 928 f2, oc_i g m_powers 929 f5, oc_i g m_gone 1860 f3, oc_i g m_work 1860 f4, oc_o h 11 [.int (nI 0), .ref m_tape, .int (nI 0), .ref m_words, .int (nI 0), .int (nI 0), .int (nI 0), .ref m_mixed, .ref m_signs, .int (nI rr), .int (nI cc), .ref m_places, .int (nI 0), .int (nI 0), .int (nI 0), .int (nI 0), .ref m_row, .ref m_lost, .ref m_powers, .ref m_sums, .ref m_counted, .ref m_gone, .ref m_above, .ref m_below, .ref m_old, .ref m_now, .ref m_work, .ref m_isWrong, .ref m_out, .int (nI 0), .ref m_digits, .int (nI 0)]] H := hP
                have hD : va_D A [oc_i g m_places 2900 f_19, oc_i g m_row 928 f2, oc_i g m_powers 929 f5, oc_i g m_gone 1860 f3, oc_i g m_work 1860 f4, oc_o h 11 [.int (nI 0), .ref m_tape, .int (nI 0), .ref m_words, .int (nI 0), .int (nI 0), .int (nI 0), .ref m_mixed, .ref m_signs, .int (nI rr), .int (nI cc), .ref m_places, .int (nI 0), .int (nI 0), .int (nI 0), .int (nI 0), .ref m_row, .ref m_lost, .ref m_powers, .ref m_sums, .ref m_counted, .ref m_gone, .ref m_above, .ref m_below, .ref m_old, .ref m_now, .ref m_work, .ref m_isWrong, .ref m_out, .int (nI 0), .ref m_digits, .int (nI 0)]] := hD
                have qix := xr_ix (j := cc + 1) qi9 (by omega) qr2.2 qn
                refine xa_st hx hb hK hP hD hS 0 rfl (j := i * (cc + 2) + (cc + 1)) (by omega) (by omega) dd_MO_make_292 (fun f_22 H locs hP hD hS => ?_)
                have hP : va_P g.1 vwCl [oc_i g m_places 2900 f_22, oc_i g m_row 928 f2, oc_i g m_powers 929 f5, oc_i g m_gone 1860 f3, oc_i g m_work 1860 f4, oc_o h 11 [.int (nI 0), .ref m_tape, .int (nI 0), .ref m_words, .int (nI 0), .int (nI 0), .int (nI 0), .ref m_mixed, .ref m_signs, .int (nI rr), .int (nI cc), .ref m_places, .int (nI 0), .int (nI 0), .int (nI 0), .int (nI 0), .ref m_row, .ref m_lost, .ref m_powers, .ref m_sums, .ref m_counted, .ref m_gone, .ref m_above, .ref m_below, .ref m_old, .ref m_now, .ref m_work, .ref m_isWrong, .ref m_out, .int (nI 0), .ref m_digits, .int (nI 0)]] H := hP
                have hD : va_D A [oc_i g m_places 2900 f_22, oc_i g m_row 928 f2, oc_i g m_powers 929 f5, oc_i g m_gone 1860 f3, oc_i g m_work 1860 f4, oc_o h 11 [.int (nI 0), .ref m_tape, .int (nI 0), .ref m_words, .int (nI 0), .int (nI 0), .int (nI 0), .ref m_mixed, .ref m_signs, .int (nI rr), .int (nI cc), .ref m_places, .int (nI 0), .int (nI 0), .int (nI 0), .int (nI 0), .ref m_row, .ref m_lost, .ref m_powers, .ref m_sums, .ref m_counted, .ref m_gone, .ref m_above, .ref m_below, .ref m_old, .ref m_now, .ref m_work, .ref m_isWrong, .ref m_out, .int (nI 0), .ref m_digits, .int (nI 0)]] := hD
                refine lv_iinc (k := 6) (lv' := [(6, .int (nI (i + 1))), (0, .ref h), (1, .int (nI L)), (2, .int (nI cc)), (3, .int (nI K)), (4, .int (nI rr)), (5, .int (nI (rr * cc)))]) hx hb dd_MO_make_293 hl rfl (xi_inc _) (by decide) rfl (fun ls hl => ?_)
                refine lv_goto (tgt := 239) hx hb dd_MO_make_296 rfl ?_
                exact ih16 _ (by omega) (i + 1) f_22 f2 f3 f4 H locs ls rfl (by omega) (lv_sub hl [1, 2, 3, 4, 5, 6, 0] rfl) (hP.sub [5, 0, 1, 2, 3, 4] rfl) (hD.sub [5, 0, 1, 2, 3, 4] (by decide) rfl) hS
            exact lp_16 _ 0 f1 f2 f3 f4 H locs ls rfl (by omega) (lv_sub hl [1, 2, 3, 4, 5, 6, 0] rfl) (hP.sub [0, 1, 2, 3, 4, 5] rfl) (hD.sub [0, 1, 2, 3, 4, 5] (by decide) rfl) hS
          · refine lv_aload_n hx hb dd_MO_make_212 rfl (lv_at hl 0 rfl) ?_
            refine gf_MO_22 hx hb hts hown hK hP 0 rfl rfl dd_MO_make_213 ?_
            refine lv_aload_n hx hb dd_MO_make_216 rfl (lv_at hl 0 rfl) ?_
            refine lv_iload hx hb dd_MO_make_217 (lv_at hl 6 rfl) ?_
            refine xc_Vi (wr := [oc_i g m_places 2900 f1, oc_i g m_row 928 f2, oc_i g m_powers 929 f5, oc_i g m_gone 1860 f3, oc_i g m_work 1860 f4]) (k1 := 0) (k2 := 0) (As := [.int (nI i)]) (rest := [.ref m_places]) (k := 1) hF hP hD hS (cm_placeOf l g h m_tape m_words m_mixed m_signs m_places m_row m_lost m_powers m_sums m_counted m_gone m_above m_below m_old m_now m_work m_isWrong m_out m_digits rr cc i (by omega) (by omega) (by omega)) (xt_V ml_MO_146 wi_MO_placeOf wx_MO_placeOf wn_MO wc_MO_placeOf) (by decide) 0 rfl rfl rfl [0] [1, 2, 3, 4, 5] ⟨rfl, rfl, by decide, by decide, by decide⟩ ⟨⟨Nat.le_of_ble_eq_true rfl, Nat.le_of_ble_eq_true rfl⟩, rfl, rfl, Nat.le_of_ble_eq_true rfl, Nat.le_of_ble_eq_true rfl⟩ rfl hl.1 rfl (Nat.le_of_ble_eq_true rfl) dd_MO_make_219 (fun r_23 u H locs hp hP hD hS => ?_)
            obtain rfl := hp
            have hP : va_P g.1 vwCl [oc_i g m_places 2900 f1, oc_i g m_row 928 f2, oc_i g m_powers 929 f5, oc_i g m_gone 1860 f3, oc_i g m_work 1860 f4, oc_o h 11 [.int (nI 0), .ref m_tape, .int (nI 0), .ref m_words, .int (nI 0), .int (nI 0), .int (nI 0), .ref m_mixed, .ref m_signs, .int (nI rr), .int (nI cc), .ref m_places, .int (nI 0), .int (nI 0), .int (nI 0), .int (nI 0), .ref m_row, .ref m_lost, .ref m_powers, .ref m_sums, .ref m_counted, .ref m_gone, .ref m_above, .ref m_below, .ref m_old, .ref m_now, .ref m_work, .ref m_isWrong, .ref m_out, .int (nI 0), .ref m_digits, .int (nI 0)]] H := hP
            have hD : va_D A [oc_i g m_places 2900 f1, oc_i g m_row 928 f2, oc_i g m_powers 929 f5, oc_i g m_gone 1860 f3, oc_i g m_work 1860 f4, oc_o h 11 [.int (nI 0), .ref m_tape, .int (nI 0), .ref m_words, .int (nI 0), .int (nI 0), .int (nI 0), .ref m_mixed, .ref m_signs, .int (nI rr), .int (nI cc), .ref m_places, .int (nI 0), .int (nI 0), .int (nI 0), .int (nI 0), .ref m_row, .ref m_lost, .ref m_powers, .ref m_sums, .ref m_counted, .ref m_gone, .ref m_above, .ref m_below, .ref m_old, .ref m_now, .ref m_work, .ref m_isWrong, .ref m_out, .int (nI 0), .ref m_digits, .int (nI 0)]] := hD
            refine lv_aload_n hx hb dd_MO_make_222 rfl (lv_at hl 0 rfl) ?_
            refine gf_MO_25 hx hb hts hown hK hP 5 rfl rfl dd_MO_make_223 ?_
            refine lv_iload hx hb dd_MO_make_226 (lv_at hl 6 rfl) ?_
            refine xa_ld hx hb hK hP 1 rfl (j := i) (by omega) (by omega) dd_MO_make_228 ?_
            have qiz := xr_iz qc qi9 qr2.2 qn
            refine xa_st hx hb hK hP hD hS 0 rfl (j := i / cc * (cc + 2) + (1 + i % cc)) (by omega) (by omega) dd_MO_make_229 (fun f_24 H locs hP hD hS => ?_)
            have hP : va_P g.1 vwCl [oc_i g m_places 2900 f_24, oc_i g m_row 928 f2, oc_i g m_powers 929 f5, oc_i g m_gone 1860 f3, oc_i g m_work 1860 f4, oc_o h 11 [.int (nI 0), .ref m_tape, .int (nI 0), .ref m_words, .int (nI 0), .int (nI 0), .int (nI 0), .ref m_mixed, .ref m_signs, .int (nI rr), .int (nI cc), .ref m_places, .int (nI 0), .int (nI 0), .int (nI 0), .int (nI 0), .ref m_row, .ref m_lost, .ref m_powers, .ref m_sums, .ref m_counted, .ref m_gone, .ref m_above, .ref m_below, .ref m_old, .ref m_now, .ref m_work, .ref m_isWrong, .ref m_out, .int (nI 0), .ref m_digits, .int (nI 0)]] H := hP
            have hD : va_D A [oc_i g m_places 2900 f_24, oc_i g m_row 928 f2, oc_i g m_powers 929 f5, oc_i g m_gone 1860 f3, oc_i g m_work 1860 f4, oc_o h 11 [.int (nI 0), .ref m_tape, .int (nI 0), .ref m_words, .int (nI 0), .int (nI 0), .int (nI 0), .ref m_mixed, .ref m_signs, .int (nI rr), .int (nI cc), .ref m_places, .int (nI 0), .int (nI 0), .int (nI 0), .int (nI 0), .ref m_row, .ref m_lost, .ref m_powers, .ref m_sums, .ref m_counted, .ref m_gone, .ref m_above, .ref m_below, .ref m_old, .ref m_now, .ref m_work, .ref m_isWrong, .ref m_out, .int (nI 0), .ref m_digits, .int (nI 0)]] := hD
            refine lv_iinc (k := 6) (lv' := [(6, .int (nI (i + 1))), (0, .ref h), (1, .int (nI L)), (2, .int (nI cc)), (3, .int (nI K)), (4, .int (nI rr)), (5, .int (nI (rr * cc)))]) hx hb dd_MO_make_230 hl rfl (xi_inc _) (by decide) rfl (fun ls hl => ?_)
            refine lv_goto (tgt := 205) hx hb dd_MO_make_233 rfl ?_
            exact ih15 _ (by omega) (i + 1) f_24 f2 f3 f4 H locs ls rfl (by omega) (lv_sub hl [1, 2, 3, 4, 5, 6, 0] rfl) (hP.sub [5, 0, 1, 2, 3, 4] rfl) (hD.sub [5, 0, 1, 2, 3, 4] (by decide) rfl) hS
        exact lp_15 _ 0 f1 f_11 f_12 f_13 H locs ls rfl (by omega) (lv_sub hl [1, 2, 3, 4, 5, 6, 0] rfl) (hP.sub [1, 0, 2, 3, 4, 5] rfl) (hD.sub [1, 0, 2, 3, 4, 5] (by decide) rfl) hS
      · refine lv_aload_n hx hb dd_MO_make_146 rfl (lv_at hl 0 rfl) ?_
        refine gf_MO_25 hx hb hts hown hK hP 0 rfl rfl dd_MO_make_147 ?_
        refine lv_iload hx hb dd_MO_make_150 (lv_at hl 6 rfl) ?_
        refine lv_iload hx hb dd_MO_make_152 (lv_at hl 6 rfl) ?_
        refine xb_zne (tgt := 164) hx hb (by omega) dd_MO_make_154 rfl (fun qz9 => ?_) (fun qz9 => ?_)
        · refine lv_iload hx hb dd_MO_make_164 (lv_at hl 6 rfl) ?_
          refine lv_aload_n hx hb dd_MO_make_166 rfl (lv_at hl 0 rfl) ?_
          refine gf_MO_89 hx hb hts hown hK hP 0 rfl rfl dd_MO_make_167 ?_
          refine xb_gt (tgt := 185) hx hb (by omega) (by omega) dd_MO_make_170 rfl (fun h_25 => ?_) (fun h_25 => False.elim (by omega))
          refine lv_sipush (v := nI 900) hx hb dd_MO_make_185 (by decide) ?_
          refine xa_st hx hb hK hP hD hS 2 rfl (j := i) (by omega) (by omega) dd_MO_make_188 (fun f_26 H locs hP hD hS => ?_)
          have hP : va_P g.1 vwCl [oc_o h 11 [.int (nI 0), .ref m_tape, .int (nI 0), .ref m_words, .int (nI 0), .int (nI 0), .int (nI 0), .ref m_mixed, .ref m_signs, .int (nI rr), .int (nI cc), .ref m_places, .int (nI 0), .int (nI 0), .int (nI 0), .int (nI 0), .ref m_row, .ref m_lost, .ref m_powers, .ref m_sums, .ref m_counted, .ref m_gone, .ref m_above, .ref m_below, .ref m_old, .ref m_now, .ref m_work, .ref m_isWrong, .ref m_out, .int (nI 0), .ref m_digits, .int (nI 0)], oc_i g m_places 2900 f1, oc_i g m_row 928 f_26, oc_i g m_powers 929 f5, oc_i g m_gone 1860 f3, oc_i g m_work 1860 f4] H := hP
          have hD : va_D A [oc_o h 11 [.int (nI 0), .ref m_tape, .int (nI 0), .ref m_words, .int (nI 0), .int (nI 0), .int (nI 0), .ref m_mixed, .ref m_signs, .int (nI rr), .int (nI cc), .ref m_places, .int (nI 0), .int (nI 0), .int (nI 0), .int (nI 0), .ref m_row, .ref m_lost, .ref m_powers, .ref m_sums, .ref m_counted, .ref m_gone, .ref m_above, .ref m_below, .ref m_old, .ref m_now, .ref m_work, .ref m_isWrong, .ref m_out, .int (nI 0), .ref m_digits, .int (nI 0)], oc_i g m_places 2900 f1, oc_i g m_row 928 f_26, oc_i g m_powers 929 f5, oc_i g m_gone 1860 f3, oc_i g m_work 1860 f4] := hD
          refine lv_iinc (k := 6) (lv' := [(6, .int (nI (i + 1))), (0, .ref h), (1, .int (nI L)), (2, .int (nI cc)), (3, .int (nI K)), (4, .int (nI rr)), (5, .int (nI (rr * cc)))]) hx hb dd_MO_make_189 hl rfl (xi_inc _) (by decide) rfl (fun ls hl => ?_)
          refine lv_goto (tgt := 137) hx hb dd_MO_make_192 rfl ?_
          exact ih9 _ (by omega) (i + 1) f1 f_26 f3 f4 H locs ls rfl (by omega) (lv_sub hl [1, 2, 3, 4, 5, 6, 0] rfl) (hP.sub [0, 1, 2, 3, 4, 5] rfl) (hD.sub [0, 1, 2, 3, 4, 5] (by decide) rfl) hS
        · refine lv_iload hx hb dd_MO_make_157 (lv_at hl 5 rfl) ?_
          refine lv_iload_n hx hb dd_MO_make_159 rfl (lv_at hl 3 rfl) ?_
          refine xi_isub hx hb (by omega) dd_MO_make_160 ?_
          refine lv_goto (tgt := 188) hx hb dd_MO_make_161 rfl ?_
          refine xa_st hx hb hK hP hD hS 2 rfl (j := i) (by omega) (by omega) dd_MO_make_188 (fun f_27 H locs hP hD hS => ?_)
          have hP : va_P g.1 vwCl [oc_o h 11 [.int (nI 0), .ref m_tape, .int (nI 0), .ref m_words, .int (nI 0), .int (nI 0), .int (nI 0), .ref m_mixed, .ref m_signs, .int (nI rr), .int (nI cc), .ref m_places, .int (nI 0), .int (nI 0), .int (nI 0), .int (nI 0), .ref m_row, .ref m_lost, .ref m_powers, .ref m_sums, .ref m_counted, .ref m_gone, .ref m_above, .ref m_below, .ref m_old, .ref m_now, .ref m_work, .ref m_isWrong, .ref m_out, .int (nI 0), .ref m_digits, .int (nI 0)], oc_i g m_places 2900 f1, oc_i g m_row 928 f_27, oc_i g m_powers 929 f5, oc_i g m_gone 1860 f3, oc_i g m_work 1860 f4] H := hP
          have hD : va_D A [oc_o h 11 [.int (nI 0), .ref m_tape, .int (nI 0), .ref m_words, .int (nI 0), .int (nI 0), .int (nI 0), .ref m_mixed, .ref m_signs, .int (nI rr), .int (nI cc), .ref m_places, .int (nI 0), .int (nI 0), .int (nI 0), .int (nI 0), .ref m_row, .ref m_lost, .ref m_powers, .ref m_sums, .ref m_counted, .ref m_gone, .ref m_above, .ref m_below, .ref m_old, .ref m_now, .ref m_work, .ref m_isWrong, .ref m_out, .int (nI 0), .ref m_digits, .int (nI 0)], oc_i g m_places 2900 f1, oc_i g m_row 928 f_27, oc_i g m_powers 929 f5, oc_i g m_gone 1860 f3, oc_i g m_work 1860 f4] := hD
          refine lv_iinc (k := 6) (lv' := [(6, .int (nI (i + 1))), (0, .ref h), (1, .int (nI L)), (2, .int (nI cc)), (3, .int (nI K)), (4, .int (nI rr)), (5, .int (nI (rr * cc)))]) hx hb dd_MO_make_189 hl rfl (xi_inc _) (by decide) rfl (fun ls hl => ?_)
          refine lv_goto (tgt := 137) hx hb dd_MO_make_192 rfl ?_
          exact ih9 _ (by omega) (i + 1) f1 f_27 f3 f4 H locs ls rfl (by omega) (lv_sub hl [1, 2, 3, 4, 5, 6, 0] rfl) (hP.sub [0, 1, 2, 3, 4, 5] rfl) (hD.sub [0, 1, 2, 3, 4, 5] (by decide) rfl) hS
    exact lp_9 _ 0 f1 f2 f3 f4 H locs ls rfl (by omega) (lv_sub hl [4, 5, 6, 3, 2, 1, 0] rfl) (hP.sub [5, 0, 1, 2, 3, 4] rfl) (hD.sub [5, 0, 1, 2, 3, 4] (by decide) rfl) hS
  · refine lv_iconst (v := nI 3) hx hb dd_MO_make_69 (by decide) ?_
    refine lv_goto (tgt := 75) hx hb dd_MO_make_70 rfl ?_
    refine xi_eq (v := nI rr) (congrArg nI (by first | exact xr_a qr qh9 | exact xr_b qr qh9)) ?_
    refine lv_istore (lv' := [(4, .int (nI rr)), (3, .int (nI K)), (0, .ref h), (1, .int (nI L)), (2, .int (nI cc))]) hx hb dd_MO_make_75 hl (by decide) rfl (fun ls hl => ?_)
    refine lv_aload_n hx hb dd_MO_make_77 rfl (lv_at hl 2 rfl) ?_
    refine lv_iload hx hb dd_MO_make_78 (lv_at hl 0 rfl) ?_
    refine lv_bipush (v := nI 90) hx hb dd_MO_make_80 (by decide) ?_
    refine xb_gt (tgt := 95) hx hb (by omega) (by omega) dd_MO_make_82 rfl (fun h_28 => False.elim (by omega)) (fun h_28 => ?_)
    refine lv_iload hx hb dd_MO_make_85 (lv_at hl 0 rfl) ?_
    refine lv_iload_n hx hb dd_MO_make_87 rfl (lv_at hl 4 rfl) ?_
    refine xi_imul hx hb dd_MO_make_88 ?_
    refine lv_sipush (v := nI 928) hx hb dd_MO_make_89 (by decide) ?_
    refine xb_le (tgt := 99) hx hb (by omega) (by omega) dd_MO_make_92 rfl (fun h_29 => ?_) (fun h_29 => False.elim (by omega))
    refine lv_iconst (v := nI 0) hx hb dd_MO_make_99 (by decide) ?_
    refine pf_MO_68 hx hb hts hown hK hP hD hS 5 rfl rfl rfl (Nat.le_of_ble_eq_true rfl) dd_MO_make_100 (fun H locs hP hD hS => ?_)
    have hP : va_P g.1 vwCl [oc_i g m_places 2900 f1, oc_i g m_row 928 f2, oc_i g m_powers 929 f5, oc_i g m_gone 1860 f3, oc_i g m_work 1860 f4, oc_o h 11 [.int (nI 0), .ref m_tape, .int (nI 0), .ref m_words, .int (nI 0), .int (nI 0), .int (nI 0), .ref m_mixed, .ref m_signs, .int (nI 0), .int (nI 0), .ref m_places, .int (nI 0), .int (nI 0), .int (nI 0), .int (nI 0), .ref m_row, .ref m_lost, .ref m_powers, .ref m_sums, .ref m_counted, .ref m_gone, .ref m_above, .ref m_below, .ref m_old, .ref m_now, .ref m_work, .ref m_isWrong, .ref m_out, .int (nI 0), .ref m_digits, .int (nI 0)]] H := hP
    have hD : va_D A [oc_i g m_places 2900 f1, oc_i g m_row 928 f2, oc_i g m_powers 929 f5, oc_i g m_gone 1860 f3, oc_i g m_work 1860 f4, oc_o h 11 [.int (nI 0), .ref m_tape, .int (nI 0), .ref m_words, .int (nI 0), .int (nI 0), .int (nI 0), .ref m_mixed, .ref m_signs, .int (nI 0), .int (nI 0), .ref m_places, .int (nI 0), .int (nI 0), .int (nI 0), .int (nI 0), .ref m_row, .ref m_lost, .ref m_powers, .ref m_sums, .ref m_counted, .ref m_gone, .ref m_above, .ref m_below, .ref m_old, .ref m_now, .ref m_work, .ref m_isWrong, .ref m_out, .int (nI 0), .ref m_digits, .int (nI 0)]] := hD
    refine lv_aload_n hx hb dd_MO_make_103 rfl (lv_at hl 2 rfl) ?_
    refine gf_MO_68 hx hb hts hown hK hP 5 rfl rfl dd_MO_make_104 ?_
    refine lv_if_le (tgt := 112) hx hb dd_MO_make_107 rfl (fun _ => ?_) (fun h_30 => absurd (by decide) h_30)
    refine lv_aload_n hx hb dd_MO_make_112 rfl (lv_at hl 2 rfl) ?_
    refine lv_iload hx hb dd_MO_make_113 (lv_at hl 0 rfl) ?_
    refine pf_MO_134 hx hb hts hown hK hP hD hS 5 rfl rfl rfl (Nat.le_of_ble_eq_true rfl) dd_MO_make_115 (fun H locs hP hD hS => ?_)
    have hP : va_P g.1 vwCl [oc_i g m_places 2900 f1, oc_i g m_row 928 f2, oc_i g m_powers 929 f5, oc_i g m_gone 1860 f3, oc_i g m_work 1860 f4, oc_o h 11 [.int (nI 0), .ref m_tape, .int (nI 0), .ref m_words, .int (nI 0), .int (nI 0), .int (nI 0), .ref m_mixed, .ref m_signs, .int (nI rr), .int (nI 0), .ref m_places, .int (nI 0), .int (nI 0), .int (nI 0), .int (nI 0), .ref m_row, .ref m_lost, .ref m_powers, .ref m_sums, .ref m_counted, .ref m_gone, .ref m_above, .ref m_below, .ref m_old, .ref m_now, .ref m_work, .ref m_isWrong, .ref m_out, .int (nI 0), .ref m_digits, .int (nI 0)]] H := hP
    have hD : va_D A [oc_i g m_places 2900 f1, oc_i g m_row 928 f2, oc_i g m_powers 929 f5, oc_i g m_gone 1860 f3, oc_i g m_work 1860 f4, oc_o h 11 [.int (nI 0), .ref m_tape, .int (nI 0), .ref m_words, .int (nI 0), .int (nI 0), .int (nI 0), .ref m_mixed, .ref m_signs, .int (nI rr), .int (nI 0), .ref m_places, .int (nI 0), .int (nI 0), .int (nI 0), .int (nI 0), .ref m_row, .ref m_lost, .ref m_powers, .ref m_sums, .ref m_counted, .ref m_gone, .ref m_above, .ref m_below, .ref m_old, .ref m_now, .ref m_work, .ref m_isWrong, .ref m_out, .int (nI 0), .ref m_digits, .int (nI 0)]] := hD
    refine lv_aload_n hx hb dd_MO_make_118 rfl (lv_at hl 2 rfl) ?_
    refine lv_iload_n hx hb dd_MO_make_119 rfl (lv_at hl 4 rfl) ?_
    refine pf_MO_137 hx hb hts hown hK hP hD hS 5 rfl rfl rfl (Nat.le_of_ble_eq_true rfl) dd_MO_make_120 (fun H locs hP hD hS => ?_)
    have hP : va_P g.1 vwCl [oc_i g m_places 2900 f1, oc_i g m_row 928 f2, oc_i g m_powers 929 f5, oc_i g m_gone 1860 f3, oc_i g m_work 1860 f4, oc_o h 11 [.int (nI 0), .ref m_tape, .int (nI 0), .ref m_words, .int (nI 0), .int (nI 0), .int (nI 0), .ref m_mixed, .ref m_signs, .int (nI rr), .int (nI cc), .ref m_places, .int (nI 0), .int (nI 0), .int (nI 0), .int (nI 0), .ref m_row, .ref m_lost, .ref m_powers, .ref m_sums, .ref m_counted, .ref m_gone, .ref m_above, .ref m_below, .ref m_old, .ref m_now, .ref m_work, .ref m_isWrong, .ref m_out, .int (nI 0), .ref m_digits, .int (nI 0)]] H := hP
    have hD : va_D A [oc_i g m_places 2900 f1, oc_i g m_row 928 f2, oc_i g m_powers 929 f5, oc_i g m_gone 1860 f3, oc_i g m_work 1860 f4, oc_o h 11 [.int (nI 0), .ref m_tape, .int (nI 0), .ref m_words, .int (nI 0), .int (nI 0), .int (nI 0), .ref m_mixed, .ref m_signs, .int (nI rr), .int (nI cc), .ref m_places, .int (nI 0), .int (nI 0), .int (nI 0), .int (nI 0), .ref m_row, .ref m_lost, .ref m_powers, .ref m_sums, .ref m_counted, .ref m_gone, .ref m_above, .ref m_below, .ref m_old, .ref m_now, .ref m_work, .ref m_isWrong, .ref m_out, .int (nI 0), .ref m_digits, .int (nI 0)]] := hD
    refine lv_aload_n hx hb dd_MO_make_123 rfl (lv_at hl 2 rfl) ?_
    refine gf_MO_134 hx hb hts hown hK hP 5 rfl rfl dd_MO_make_124 ?_
    refine lv_aload_n hx hb dd_MO_make_127 rfl (lv_at hl 2 rfl) ?_
    refine gf_MO_137 hx hb hts hown hK hP 5 rfl rfl dd_MO_make_128 ?_
    refine xi_imul hx hb dd_MO_make_131 ?_
    refine lv_istore (lv' := [(5, .int (nI (rr * cc))), (4, .int (nI rr)), (3, .int (nI K)), (0, .ref h), (1, .int (nI L)), (2, .int (nI cc))]) hx hb dd_MO_make_132 hl (by decide) rfl (fun ls hl => ?_)
    refine lv_iconst (v := nI 0) hx hb dd_MO_make_134 (by decide) ?_
    refine lv_istore (lv' := [(6, .int (nI 0)), (5, .int (nI (rr * cc))), (4, .int (nI rr)), (3, .int (nI K)), (0, .ref h), (1, .int (nI L)), (2, .int (nI cc))]) hx hb dd_MO_make_135 hl (by decide) rfl (fun ls hl => ?_)
    have lp_31 : ∀ (n31 : Nat) (i : Nat) (f1 : Nat → Int32) (f2 : Nat → Int32) (f3 : Nat → Int32) (f4 : Nat → Int32) (H : Heap) (locs : List Loc) (ls : Array Slot), rr * cc - K - i = n31 → (i ≤ rr * cc - K) → lv_has ls 7 [(0, .ref h), (1, .int (nI L)), (2, .int (nI cc)), (3, .int (nI K)), (4, .int (nI rr)), (5, .int (nI (rr * cc))), (6, .int (nI i))] → va_P g.1 vwCl [oc_o h 11 [.int (nI 0), .ref m_tape, .int (nI 0), .ref m_words, .int (nI 0), .int (nI 0), .int (nI 0), .ref m_mixed, .ref m_signs, .int (nI rr), .int (nI cc), .ref m_places, .int (nI 0), .int (nI 0), .int (nI 0), .int (nI 0), .ref m_row, .ref m_lost, .ref m_powers, .ref m_sums, .ref m_counted, .ref m_gone, .ref m_above, .ref m_below, .ref m_old, .ref m_now, .ref m_work, .ref m_isWrong, .ref m_out, .int (nI 0), .ref m_digits, .int (nI 0)], oc_i g m_places 2900 f1, oc_i g m_row 928 f2, oc_i g m_powers 929 f5, oc_i g m_gone 1860 f3, oc_i g m_work 1860 f4] H → va_D A [oc_o h 11 [.int (nI 0), .ref m_tape, .int (nI 0), .ref m_words, .int (nI 0), .int (nI 0), .int (nI 0), .ref m_mixed, .ref m_signs, .int (nI rr), .int (nI cc), .ref m_places, .int (nI 0), .int (nI 0), .int (nI 0), .int (nI 0), .ref m_row, .ref m_lost, .ref m_powers, .ref m_sums, .ref m_counted, .ref m_gone, .ref m_above, .ref m_below, .ref m_old, .ref m_now, .ref m_work, .ref m_isWrong, .ref m_out, .int (nI 0), .ref m_digits, .int (nI 0)], oc_i g m_places 2900 f1, oc_i g m_row 928 f2, oc_i g m_powers 929 f5, oc_i g m_gone 1860 f3, oc_i g m_work 1860 f4] → va_S A s.heap H locs → W p l e { frames := 2, cells := 0, slots := 0, locals := 43 } s m args below meth c H locs 0 0 Q (F0 m 137 ls []) := by
      intro n31
      induction n31 using Nat.strongRecOn with
      | _ n31 ih31 =>
      intro i f1 f2 f3 f4 H locs ls hmn31 qi hl hP hD hS
      refine lv_iload hx hb dd_MO_make_137 (lv_at hl 6 rfl) ?_
      refine lv_iload hx hb dd_MO_make_139 (lv_at hl 5 rfl) ?_
      refine lv_iload_n hx hb dd_MO_make_141 rfl (lv_at hl 3 rfl) ?_
      refine xi_isub hx hb (by omega) dd_MO_make_142 ?_
      refine xb_ge (tgt := 195) hx hb (by omega) (by omega) dd_MO_make_143 rfl (fun h_32 => ?_) (fun h_32 => ?_)
      · refine lv_aload_n hx hb dd_MO_make_195 rfl (lv_at hl 0 rfl) ?_
        refine lv_iload hx hb dd_MO_make_196 (lv_at hl 5 rfl) ?_
        refine lv_iload_n hx hb dd_MO_make_198 rfl (lv_at hl 3 rfl) ?_
        refine xc_Vv (wr := [oc_i g m_places 2900 f1]) (k1 := 0) (k2 := 0) (As := [.int (nI (rr * cc)), .int (nI K)]) (rest := []) (k := 2) hF hP hD hS (cm_checks l g h m_tape m_words m_mixed m_signs m_places m_row m_lost m_powers m_sums m_counted m_gone m_above m_below m_old m_now m_work m_isWrong m_out m_digits rr cc (rr * cc) K f2 f3 f4 f5 (by omega) (by omega) (by omega)) (xt_V ml_MO_143 wi_MO_makeChecks wx_MO_makeChecks wn_MO wc_MO_makeChecks) (by decide) 0 rfl rfl rfl [0, 2, 3, 4, 5] [1] ⟨rfl, rfl, by decide, by decide, by decide⟩ ⟨⟨Nat.le_of_ble_eq_true rfl, Nat.le_of_ble_eq_true rfl⟩, rfl, rfl, Nat.le_of_ble_eq_true rfl, Nat.le_of_ble_eq_true rfl⟩ rfl hl.1 rfl (Nat.le_of_ble_eq_true rfl) dd_MO_make_199 (fun u H locs hp hP hD hS => ?_)
        obtain ⟨f_33, f_34, f_35⟩ := u
        have hP : va_P g.1 vwCl [oc_i g m_places 2900 f1, oc_o h 11 [.int (nI 0), .ref m_tape, .int (nI 0), .ref m_words, .int (nI 0), .int (nI 0), .int (nI 0), .ref m_mixed, .ref m_signs, .int (nI rr), .int (nI cc), .ref m_places, .int (nI 0), .int (nI 0), .int (nI 0), .int (nI 0), .ref m_row, .ref m_lost, .ref m_powers, .ref m_sums, .ref m_counted, .ref m_gone, .ref m_above, .ref m_below, .ref m_old, .ref m_now, .ref m_work, .ref m_isWrong, .ref m_out, .int (nI 0), .ref m_digits, .int (nI 0)], oc_i g m_row 928 f_33, oc_i g m_powers 929 f5, oc_i g m_gone 1860 f_34, oc_i g m_work 1860 f_35] H := hP
        have hD : va_D A [oc_i g m_places 2900 f1, oc_o h 11 [.int (nI 0), .ref m_tape, .int (nI 0), .ref m_words, .int (nI 0), .int (nI 0), .int (nI 0), .ref m_mixed, .ref m_signs, .int (nI rr), .int (nI cc), .ref m_places, .int (nI 0), .int (nI 0), .int (nI 0), .int (nI 0), .ref m_row, .ref m_lost, .ref m_powers, .ref m_sums, .ref m_counted, .ref m_gone, .ref m_above, .ref m_below, .ref m_old, .ref m_now, .ref m_work, .ref m_isWrong, .ref m_out, .int (nI 0), .ref m_digits, .int (nI 0)], oc_i g m_row 928 f_33, oc_i g m_powers 929 f5, oc_i g m_gone 1860 f_34, oc_i g m_work 1860 f_35] := hD
        refine lv_iconst (v := nI 0) hx hb dd_MO_make_202 (by decide) ?_
        refine lv_istore (lv' := [(6, .int (nI 0)), (0, .ref h), (1, .int (nI L)), (2, .int (nI cc)), (3, .int (nI K)), (4, .int (nI rr)), (5, .int (nI (rr * cc)))]) hx hb dd_MO_make_203 hl (by decide) rfl (fun ls hl => ?_)
        have lp_37 : ∀ (n37 : Nat) (i : Nat) (f1 : Nat → Int32) (f2 : Nat → Int32) (f3 : Nat → Int32) (f4 : Nat → Int32) (H : Heap) (locs : List Loc) (ls : Array Slot), rr * cc - i = n37 → (i ≤ rr * cc) → lv_has ls 7 [(0, .ref h), (1, .int (nI L)), (2, .int (nI cc)), (3, .int (nI K)), (4, .int (nI rr)), (5, .int (nI (rr * cc))), (6, .int (nI i))] → va_P g.1 vwCl [oc_o h 11 [.int (nI 0), .ref m_tape, .int (nI 0), .ref m_words, .int (nI 0), .int (nI 0), .int (nI 0), .ref m_mixed, .ref m_signs, .int (nI rr), .int (nI cc), .ref m_places, .int (nI 0), .int (nI 0), .int (nI 0), .int (nI 0), .ref m_row, .ref m_lost, .ref m_powers, .ref m_sums, .ref m_counted, .ref m_gone, .ref m_above, .ref m_below, .ref m_old, .ref m_now, .ref m_work, .ref m_isWrong, .ref m_out, .int (nI 0), .ref m_digits, .int (nI 0)], oc_i g m_places 2900 f1, oc_i g m_row 928 f2, oc_i g m_powers 929 f5, oc_i g m_gone 1860 f3, oc_i g m_work 1860 f4] H → va_D A [oc_o h 11 [.int (nI 0), .ref m_tape, .int (nI 0), .ref m_words, .int (nI 0), .int (nI 0), .int (nI 0), .ref m_mixed, .ref m_signs, .int (nI rr), .int (nI cc), .ref m_places, .int (nI 0), .int (nI 0), .int (nI 0), .int (nI 0), .ref m_row, .ref m_lost, .ref m_powers, .ref m_sums, .ref m_counted, .ref m_gone, .ref m_above, .ref m_below, .ref m_old, .ref m_now, .ref m_work, .ref m_isWrong, .ref m_out, .int (nI 0), .ref m_digits, .int (nI 0)], oc_i g m_places 2900 f1, oc_i g m_row 928 f2, oc_i g m_powers 929 f5, oc_i g m_gone 1860 f3, oc_i g m_work 1860 f4] → va_S A s.heap H locs → W p l e { frames := 2, cells := 0, slots := 0, locals := 43 } s m args below meth c H locs 0 0 Q (F0 m 205 ls []) := by
          intro n37
          induction n37 using Nat.strongRecOn with
          | _ n37 ih37 =>
          intro i f1 f2 f3 f4 H locs ls hmn37 qi hl hP hD hS
          refine lv_iload hx hb dd_MO_make_205 (lv_at hl 6 rfl) ?_
          refine lv_iload hx hb dd_MO_make_207 (lv_at hl 5 rfl) ?_
          refine xb_ge (tgt := 236) hx hb (by omega) (by omega) dd_MO_make_209 rfl (fun qi9 => ?_) (fun qi9 => ?_)
          · refine lv_iconst (v := nI 0) hx hb dd_MO_make_236 (by decide) ?_
            refine lv_istore (lv' := [(6, .int (nI 0)), (0, .ref h), (1, .int (nI L)), (2, .int (nI cc)), (3, .int (nI K)), (4, .int (nI rr)), (5, .int (nI (rr * cc)))]) hx hb dd_MO_make_237 hl (by decide) rfl (fun ls hl => ?_)
            have lp_38 : ∀ (n38 : Nat) (i : Nat) (f1 : Nat → Int32) (f2 : Nat → Int32) (f3 : Nat → Int32) (f4 : Nat → Int32) (H : Heap) (locs : List Loc) (ls : Array Slot), rr - i = n38 → (i ≤ rr) → lv_has ls 7 [(0, .ref h), (1, .int (nI L)), (2, .int (nI cc)), (3, .int (nI K)), (4, .int (nI rr)), (5, .int (nI (rr * cc))), (6, .int (nI i))] → va_P g.1 vwCl [oc_o h 11 [.int (nI 0), .ref m_tape, .int (nI 0), .ref m_words, .int (nI 0), .int (nI 0), .int (nI 0), .ref m_mixed, .ref m_signs, .int (nI rr), .int (nI cc), .ref m_places, .int (nI 0), .int (nI 0), .int (nI 0), .int (nI 0), .ref m_row, .ref m_lost, .ref m_powers, .ref m_sums, .ref m_counted, .ref m_gone, .ref m_above, .ref m_below, .ref m_old, .ref m_now, .ref m_work, .ref m_isWrong, .ref m_out, .int (nI 0), .ref m_digits, .int (nI 0)], oc_i g m_places 2900 f1, oc_i g m_row 928 f2, oc_i g m_powers 929 f5, oc_i g m_gone 1860 f3, oc_i g m_work 1860 f4] H → va_D A [oc_o h 11 [.int (nI 0), .ref m_tape, .int (nI 0), .ref m_words, .int (nI 0), .int (nI 0), .int (nI 0), .ref m_mixed, .ref m_signs, .int (nI rr), .int (nI cc), .ref m_places, .int (nI 0), .int (nI 0), .int (nI 0), .int (nI 0), .ref m_row, .ref m_lost, .ref m_powers, .ref m_sums, .ref m_counted, .ref m_gone, .ref m_above, .ref m_below, .ref m_old, .ref m_now, .ref m_work, .ref m_isWrong, .ref m_out, .int (nI 0), .ref m_digits, .int (nI 0)], oc_i g m_places 2900 f1, oc_i g m_row 928 f2, oc_i g m_powers 929 f5, oc_i g m_gone 1860 f3, oc_i g m_work 1860 f4] → va_S A s.heap H locs → W p l e { frames := 2, cells := 0, slots := 0, locals := 43 } s m args below meth c H locs 0 0 Q (F0 m 239 ls []) := by
              intro n38
              induction n38 using Nat.strongRecOn with
              | _ n38 ih38 =>
              intro i f1 f2 f3 f4 H locs ls hmn38 qi hl hP hD hS
              refine lv_iload hx hb dd_MO_make_239 (lv_at hl 6 rfl) ?_
              refine lv_aload_n hx hb dd_MO_make_241 rfl (lv_at hl 0 rfl) ?_
              refine gf_MO_134 hx hb hts hown hK hP 0 rfl rfl dd_MO_make_242 ?_
              refine xb_ge (tgt := 299) hx hb (by omega) (by omega) dd_MO_make_245 rfl (fun qi9 => ?_) (fun qi9 => ?_)
              · refine lv_aload_n hx hb dd_MO_make_299 rfl (lv_at hl 0 rfl) ?_
                refine gf_MO_134 hx hb hts hown hK hP 0 rfl rfl dd_MO_make_300 ?_
                exact xr_i hx hb hr hlk hQ hP hD hS () (by first | rfl | exact congrArg nI (by omega)) [0] (by decide) rfl rfl (Nat.le_of_ble_eq_true rfl) (Nat.le_of_ble_eq_true rfl) dd_MO_make_303
              · refine lv_aload_n hx hb dd_MO_make_248 rfl (lv_at hl 0 rfl) ?_
                refine gf_MO_22 hx hb hts hown hK hP 0 rfl rfl dd_MO_make_249 ?_
                refine lv_aload_n hx hb dd_MO_make_252 rfl (lv_at hl 0 rfl) ?_
                refine lv_iload hx hb dd_MO_make_253 (lv_at hl 6 rfl) ?_
                refine lv_iconst (v := nI 0) hx hb dd_MO_make_255 (by decide) ?_
                refine xc_Vi (wr := [oc_i g m_places 2900 f1, oc_i g m_row 928 f2, oc_i g m_powers 929 f5, oc_i g m_gone 1860 f3, oc_i g m_work 1860 f4]) (k1 := 0) (k2 := 0) (As := [.int (nI i), .int (nI 0)]) (rest := [.ref m_places]) (k := 2) hF hP hD hS (cm_at l g h m_tape m_words m_mixed m_signs m_places m_row m_lost m_powers m_sums m_counted m_gone m_above m_below m_old m_now m_work m_isWrong m_out m_digits rr cc i 0) (xt_V ml_MO_140 wi_MO_at wx_MO_at wn_MO wc_MO_at) (by decide) 0 rfl rfl rfl [0] [1, 2, 3, 4, 5] ⟨rfl, rfl, by decide, by decide, by decide⟩ ⟨⟨Nat.le_of_ble_eq_true rfl, Nat.le_of_ble_eq_true rfl⟩, rfl, rfl, Nat.le_of_ble_eq_true rfl, Nat.le_of_ble_eq_true rfl⟩ rfl hl.1 rfl (Nat.le_of_ble_eq_true rfl) dd_MO_make_256 (fun r_39 u H locs hp hP hD hS => ?_)
                obtain rfl := hp
                have hP : va_P g.1 vwCl [oc_i g m_places 2900 f1, oc_i g m_row 928 f2, oc_i g m_powers 929 f5, oc_i g m_gone 1860 f3, oc_i g m_work 1860 f4, oc_o h 11 [.int (nI 0), .ref m_tape, .int (nI 0), .ref m_words, .int (nI 0), .int (nI 0), .int (nI 0), .ref m_mixed, .ref m_signs, .int (nI rr), .int (nI cc), .ref m_places, .int (nI 0), .int (nI 0), .int (nI 0), .int (nI 0), .ref m_row, .ref m_lost, .ref m_powers, .ref m_sums, .ref m_counted, .ref m_gone, .ref m_above, .ref m_below, .ref m_old, .ref m_now, .ref m_work, .ref m_isWrong, .ref m_out, .int (nI 0), .ref m_digits, .int (nI 0)]] H := hP
                have hD : va_D A [oc_i g m_places 2900 f1, oc_i g m_row 928 f2, oc_i g m_powers 929 f5, oc_i g m_gone 1860 f3, oc_i g m_work 1860 f4, oc_o h 11 [.int (nI 0), .ref m_tape, .int (nI 0), .ref m_words, .int (nI 0), .int (nI 0), .int (nI 0), .ref m_mixed, .ref m_signs, .int (nI rr), .int (nI cc), .ref m_places, .int (nI 0), .int (nI 0), .int (nI 0), .int (nI 0), .ref m_row, .ref m_lost, .ref m_powers, .ref m_sums, .ref m_counted, .ref m_gone, .ref m_above, .ref m_below, .ref m_old, .ref m_now, .ref m_work, .ref m_isWrong, .ref m_out, .int (nI 0), .ref m_digits, .int (nI 0)]] := hD
                refine lv_aload_n hx hb dd_MO_make_259 rfl (lv_at hl 0 rfl) ?_
                refine lv_iload hx hb dd_MO_make_260 (lv_at hl 6 rfl) ?_
                refine lv_iconst (v := nI 0) hx hb dd_MO_make_262 (by decide) ?_
                refine lv_iload_n hx hb dd_MO_make_263 rfl (lv_at hl 1 rfl) ?_
                refine xc_Vi (wr := [oc_i g m_places 2900 f1, oc_i g m_row 928 f2, oc_i g m_powers 929 f5, oc_i g m_gone 1860 f3, oc_i g m_work 1860 f4]) (k1 := 0) (k2 := 0) (As := [.int (nI i), .int (nI 0), .int (nI L)]) (rest := [.int (nI (i * (cc + 2) + 0)), .ref m_places]) (k := 3) hF hP hD hS (cm_ind0 l g h m_tape m_words m_mixed m_signs m_places m_row m_lost m_powers m_sums m_counted m_gone m_above m_below m_old m_now m_work m_isWrong m_out m_digits rr cc i L (by omega) (by omega) (by omega) (by omega) (by omega) (by omega)) (xt_V ml_MO_149 wi_MO_indicator wx_MO_indicator wn_MO wc_MO_indicator) (by decide) 5 rfl rfl rfl [5] [0, 1, 2, 3, 4] ⟨rfl, rfl, by decide, by decide, by decide⟩ ⟨⟨Nat.le_of_ble_eq_true rfl, Nat.le_of_ble_eq_true rfl⟩, rfl, rfl, Nat.le_of_ble_eq_true rfl, Nat.le_of_ble_eq_true rfl⟩ rfl hl.1 rfl (Nat.le_of_ble_eq_true rfl) dd_MO_make_264 (fun r_40 u H locs hp hP hD hS => ?_)
                have hP : va_P g.1 vwCl [oc_i g m_places 2900 f1, oc_i g m_row 928 f2, oc_i g m_powers 929 f5, oc_i g m_gone 1860 f3, oc_i g m_work 1860 f4, oc_o h 11 [.int (nI 0), .ref m_tape, .int (nI 0), .ref m_words, .int (nI 0), .int (nI 0), .int (nI 0), .ref m_mixed, .ref m_signs, .int (nI rr), .int (nI cc), .ref m_places, .int (nI 0), .int (nI 0), .int (nI 0), .int (nI 0), .ref m_row, .ref m_lost, .ref m_powers, .ref m_sums, .ref m_counted, .ref m_gone, .ref m_above, .ref m_below, .ref m_old, .ref m_now, .ref m_work, .ref m_isWrong, .ref m_out, .int (nI 0), .ref m_digits, .int (nI 0)]] H := hP
                have hD : va_D A [oc_i g m_places 2900 f1, oc_i g m_row 928 f2, oc_i g m_powers 929 f5, oc_i g m_gone 1860 f3, oc_i g m_work 1860 f4, oc_o h 11 [.int (nI 0), .ref m_tape, .int (nI 0), .ref m_words, .int (nI 0), .int (nI 0), .int (nI 0), .ref m_mixed, .ref m_signs, .int (nI rr), .int (nI cc), .ref m_places, .int (nI 0), .int (nI 0), .int (nI 0), .int (nI 0), .ref m_row, .ref m_lost, .ref m_powers, .ref m_sums, .ref m_counted, .ref m_gone, .ref m_above, .ref m_below, .ref m_old, .ref m_now, .ref m_work, .ref m_isWrong, .ref m_out, .int (nI 0), .ref m_digits, .int (nI 0)]] := hD
                have qix := xr_ix (j := 0) qi9 (by omega) qr2.2 qn
                refine xa_st hx hb hK hP hD hS 0 rfl (j := i * (cc + 2) + 0) (by omega) (by omega) dd_MO_make_267 (fun f_41 H locs hP hD hS => ?_)
                have hP : va_P g.1 vwCl [oc_i g m_places 2900 f_41, oc_i g m_row 928 f2, oc_i g m_powers 929 f5, oc_i g m_gone 1860 f3, oc_i g m_work 1860 f4, oc_o h 11 [.int (nI 0), .ref m_tape, .int (nI 0), .ref m_words, .int (nI 0), .int (nI 0), .int (nI 0), .ref m_mixed, .ref m_signs, .int (nI rr), .int (nI cc), .ref m_places, .int (nI 0), .int (nI 0), .int (nI 0), .int (nI 0), .ref m_row, .ref m_lost, .ref m_powers, .ref m_sums, .ref m_counted, .ref m_gone, .ref m_above, .ref m_below, .ref m_old, .ref m_now, .ref m_work, .ref m_isWrong, .ref m_out, .int (nI 0), .ref m_digits, .int (nI 0)]] H := hP
                have hD : va_D A [oc_i g m_places 2900 f_41, oc_i g m_row 928 f2, oc_i g m_powers 929 f5, oc_i g m_gone 1860 f3, oc_i g m_work 1860 f4, oc_o h 11 [.int (nI 0), .ref m_tape, .int (nI 0), .ref m_words, .int (nI 0), .int (nI 0), .int (nI 0), .ref m_mixed, .ref m_signs, .int (nI rr), .int (nI cc), .ref m_places, .int (nI 0), .int (nI 0), .int (nI 0), .int (nI 0), .ref m_row, .ref m_lost, .ref m_powers, .ref m_sums, .ref m_counted, .ref m_gone, .ref m_above, .ref m_below, .ref m_old, .ref m_now, .ref m_work, .ref m_isWrong, .ref m_out, .int (nI 0), .ref m_digits, .int (nI 0)]] := hD
                refine lv_aload_n hx hb dd_MO_make_268 rfl (lv_at hl 0 rfl) ?_
                refine gf_MO_22 hx hb hts hown hK hP 5 rfl rfl dd_MO_make_269 ?_
                refine lv_aload_n hx hb dd_MO_make_272 rfl (lv_at hl 0 rfl) ?_
                refine lv_iload hx hb dd_MO_make_273 (lv_at hl 6 rfl) ?_
                refine lv_aload_n hx hb dd_MO_make_275 rfl (lv_at hl 0 rfl) ?_
                refine gf_MO_137 hx hb hts hown hK hP 5 rfl rfl dd_MO_make_276 ?_
                refine lv_iconst (v := nI 1) hx hb dd_MO_make_279 (by decide) ?_
                refine xi_iadd hx hb dd_MO_make_280 ?_
                refine xc_Vi (wr := [oc_i g m_places 2900 f_41, oc_i g m_row 928 f2, oc_i g m_powers 929 f5, oc_i g m_gone 1860 f3, oc_i g m_work 1860 f4]) (k1 := 0) (k2 := 0) (As := [.int (nI i), .int (nI (cc + 1))]) (rest := [.ref m_places]) (k := 2) hF hP hD hS (cm_at l g h m_tape m_words m_mixed m_signs m_places m_row m_lost m_powers m_sums m_counted m_gone m_above m_below m_old m_now m_work m_isWrong m_out m_digits rr cc i (cc + 1)) (xt_V ml_MO_140 wi_MO_at wx_MO_at wn_MO wc_MO_at) (by decide) 5 rfl rfl rfl [5] [0, 1, 2, 3, 4] ⟨rfl, rfl, by decide, by decide, by decide⟩ ⟨⟨Nat.le_of_ble_eq_true rfl, Nat.le_of_ble_eq_true rfl⟩, rfl, rfl, Nat.le_of_ble_eq_true rfl, Nat.le_of_ble_eq_true rfl⟩ rfl hl.1 rfl (Nat.le_of_ble_eq_true rfl) dd_MO_make_281 (fun r_42 u H locs hp hP hD hS => ?_)
                obtain rfl := hp
                have hP : va_P g.1 vwCl [oc_i g m_places 2900 f_41, oc_i g m_row 928 f2, oc_i g m_powers 929 f5, oc_i g m_gone 1860 f3, oc_i g m_work 1860 f4, oc_o h 11 [.int (nI 0), .ref m_tape, .int (nI 0), .ref m_words, .int (nI 0), .int (nI 0), .int (nI 0), .ref m_mixed, .ref m_signs, .int (nI rr), .int (nI cc), .ref m_places, .int (nI 0), .int (nI 0), .int (nI 0), .int (nI 0), .ref m_row, .ref m_lost, .ref m_powers, .ref m_sums, .ref m_counted, .ref m_gone, .ref m_above, .ref m_below, .ref m_old, .ref m_now, .ref m_work, .ref m_isWrong, .ref m_out, .int (nI 0), .ref m_digits, .int (nI 0)]] H := hP
                have hD : va_D A [oc_i g m_places 2900 f_41, oc_i g m_row 928 f2, oc_i g m_powers 929 f5, oc_i g m_gone 1860 f3, oc_i g m_work 1860 f4, oc_o h 11 [.int (nI 0), .ref m_tape, .int (nI 0), .ref m_words, .int (nI 0), .int (nI 0), .int (nI 0), .ref m_mixed, .ref m_signs, .int (nI rr), .int (nI cc), .ref m_places, .int (nI 0), .int (nI 0), .int (nI 0), .int (nI 0), .ref m_row, .ref m_lost, .ref m_powers, .ref m_sums, .ref m_counted, .ref m_gone, .ref m_above, .ref m_below, .ref m_old, .ref m_now, .ref m_work, .ref m_isWrong, .ref m_out, .int (nI 0), .ref m_digits, .int (nI 0)]] := hD
                refine lv_aload_n hx hb dd_MO_make_284 rfl (lv_at hl 0 rfl) ?_
                refine lv_iload hx hb dd_MO_make_285 (lv_at hl 6 rfl) ?_
                refine lv_iconst (v := nI 1) hx hb dd_MO_make_287 (by decide) ?_
                refine lv_iload_n hx hb dd_MO_make_288 rfl (lv_at hl 1 rfl) ?_
                refine xc_Vi (wr := [oc_i g m_places 2900 f_41, oc_i g m_row 928 f2, oc_i g m_powers 929 f5, oc_i g m_gone 1860 f3, oc_i g m_work 1860 f4]) (k1 := 0) (k2 := 0) (As := [.int (nI i), .int (nI 1), .int (nI L)]) (rest := [.int (nI (i * (cc + 2) + (cc + 1))), .ref m_places]) (k := 3) hF hP hD hS (cm_ind1 l g h m_tape m_words m_mixed m_signs m_places m_row m_lost m_powers m_sums m_counted m_gone m_above m_below m_old m_now m_work m_isWrong m_out m_digits rr cc i L (by omega) (by omega) (by omega) (by omega) (by omega) (by omega)) (xt_V ml_MO_149 wi_MO_indicator wx_MO_indicator wn_MO wc_MO_indicator) (by decide) 5 rfl rfl rfl [5] [0, 1, 2, 3, 4] ⟨rfl, rfl, by decide, by decide, by decide⟩ ⟨⟨Nat.le_of_ble_eq_true rfl, Nat.le_of_ble_eq_true rfl⟩, rfl, rfl, Nat.le_of_ble_eq_true rfl, Nat.le_of_ble_eq_true rfl⟩ rfl hl.1 rfl (Nat.le_of_ble_eq_true rfl) dd_MO_make_289 (fun r_43 u H locs hp hP hD hS => ?_)
                have hP : va_P g.1 vwCl [oc_i g m_places 2900 f_41, oc_i g m_row 928 f2, oc_i g m_powers 929 f5, oc_i g m_gone 1860 f3, oc_i g m_work 1860 f4, oc_o h 11 [.int (nI 0), .ref m_tape, .int (nI 0), .ref m_words, .int (nI 0), .int (nI 0), .int (nI 0), .ref m_mixed, .ref m_signs, .int (nI rr), .int (nI cc), .ref m_places, .int (nI 0), .int (nI 0), .int (nI 0), .int (nI 0), .ref m_row, .ref m_lost, .ref m_powers, .ref m_sums, .ref m_counted, .ref m_gone, .ref m_above, .ref m_below, .ref m_old, .ref m_now, .ref m_work, .ref m_isWrong, .ref m_out, .int (nI 0), .ref m_digits, .int (nI 0)]] H := hP
                have hD : va_D A [oc_i g m_places 2900 f_41, oc_i g m_row 928 f2, oc_i g m_powers 929 f5, oc_i g m_gone 1860 f3, oc_i g m_work 1860 f4, oc_o h 11 [.int (nI 0), .ref m_tape, .int (nI 0), .ref m_words, .int (nI 0), .int (nI 0), .int (nI 0), .ref m_mixed, .ref m_signs, .int (nI rr), .int (nI cc), .ref m_places, .int (nI 0), .int (nI 0), .int (nI 0), .int (nI 0), .ref m_row, .ref m_lost, .ref m_powers, .ref m_sums, .ref m_counted, .ref m_gone, .ref m_above, .ref m_below, .ref m_old, .ref m_now, .ref m_work, .ref m_isWrong, .ref m_out, .int (nI 0), .ref m_digits, .int (nI 0)]] := hD
                have qix := xr_ix (j := cc + 1) qi9 (by omega) qr2.2 qn
                refine xa_st hx hb hK hP hD hS 0 rfl (j := i * (cc + 2) + (cc + 1)) (by omega) (by omega) dd_MO_make_292 (fun f_44 H locs hP hD hS => ?_)
                have hP : va_P g.1 vwCl [oc_i g m_places 2900 f_44, oc_i g m_row 928 f2, oc_i g m_powers 929 f5, oc_i g m_gone 1860 f3, oc_i g m_work 1860 f4, oc_o h 11 [.int (nI 0), .ref m_tape, .int (nI 0), .ref m_words, .int (nI 0), .int (nI 0), .int (nI 0), .ref m_mixed, .ref m_signs, .int (nI rr), .int (nI cc), .ref m_places, .int (nI 0), .int (nI 0), .int (nI 0), .int (nI 0), .ref m_row, .ref m_lost, .ref m_powers, .ref m_sums, .ref m_counted, .ref m_gone, .ref m_above, .ref m_below, .ref m_old, .ref m_now, .ref m_work, .ref m_isWrong, .ref m_out, .int (nI 0), .ref m_digits, .int (nI 0)]] H := hP
                have hD : va_D A [oc_i g m_places 2900 f_44, oc_i g m_row 928 f2, oc_i g m_powers 929 f5, oc_i g m_gone 1860 f3, oc_i g m_work 1860 f4, oc_o h 11 [.int (nI 0), .ref m_tape, .int (nI 0), .ref m_words, .int (nI 0), .int (nI 0), .int (nI 0), .ref m_mixed, .ref m_signs, .int (nI rr), .int (nI cc), .ref m_places, .int (nI 0), .int (nI 0), .int (nI 0), .int (nI 0), .ref m_row, .ref m_lost, .ref m_powers, .ref m_sums, .ref m_counted, .ref m_gone, .ref m_above, .ref m_below, .ref m_old, .ref m_now, .ref m_work, .ref m_isWrong, .ref m_out, .int (nI 0), .ref m_digits, .int (nI 0)]] := hD
                refine lv_iinc (k := 6) (lv' := [(6, .int (nI (i + 1))), (0, .ref h), (1, .int (nI L)), (2, .int (nI cc)), (3, .int (nI K)), (4, .int (nI rr)), (5, .int (nI (rr * cc)))]) hx hb dd_MO_make_293 hl rfl (xi_inc _) (by decide) rfl (fun ls hl => ?_)
                refine lv_goto (tgt := 239) hx hb dd_MO_make_296 rfl ?_
                exact ih38 _ (by omega) (i + 1) f_44 f2 f3 f4 H locs ls rfl (by omega) (lv_sub hl [1, 2, 3, 4, 5, 6, 0] rfl) (hP.sub [5, 0, 1, 2, 3, 4] rfl) (hD.sub [5, 0, 1, 2, 3, 4] (by decide) rfl) hS
            exact lp_38 _ 0 f1 f2 f3 f4 H locs ls rfl (by omega) (lv_sub hl [1, 2, 3, 4, 5, 6, 0] rfl) (hP.sub [0, 1, 2, 3, 4, 5] rfl) (hD.sub [0, 1, 2, 3, 4, 5] (by decide) rfl) hS
          · refine lv_aload_n hx hb dd_MO_make_212 rfl (lv_at hl 0 rfl) ?_
            refine gf_MO_22 hx hb hts hown hK hP 0 rfl rfl dd_MO_make_213 ?_
            refine lv_aload_n hx hb dd_MO_make_216 rfl (lv_at hl 0 rfl) ?_
            refine lv_iload hx hb dd_MO_make_217 (lv_at hl 6 rfl) ?_
            refine xc_Vi (wr := [oc_i g m_places 2900 f1, oc_i g m_row 928 f2, oc_i g m_powers 929 f5, oc_i g m_gone 1860 f3, oc_i g m_work 1860 f4]) (k1 := 0) (k2 := 0) (As := [.int (nI i)]) (rest := [.ref m_places]) (k := 1) hF hP hD hS (cm_placeOf l g h m_tape m_words m_mixed m_signs m_places m_row m_lost m_powers m_sums m_counted m_gone m_above m_below m_old m_now m_work m_isWrong m_out m_digits rr cc i (by omega) (by omega) (by omega)) (xt_V ml_MO_146 wi_MO_placeOf wx_MO_placeOf wn_MO wc_MO_placeOf) (by decide) 0 rfl rfl rfl [0] [1, 2, 3, 4, 5] ⟨rfl, rfl, by decide, by decide, by decide⟩ ⟨⟨Nat.le_of_ble_eq_true rfl, Nat.le_of_ble_eq_true rfl⟩, rfl, rfl, Nat.le_of_ble_eq_true rfl, Nat.le_of_ble_eq_true rfl⟩ rfl hl.1 rfl (Nat.le_of_ble_eq_true rfl) dd_MO_make_219 (fun r_45 u H locs hp hP hD hS => ?_)
            obtain rfl := hp
            have hP : va_P g.1 vwCl [oc_i g m_places 2900 f1, oc_i g m_row 928 f2, oc_i g m_powers 929 f5, oc_i g m_gone 1860 f3, oc_i g m_work 1860 f4, oc_o h 11 [.int (nI 0), .ref m_tape, .int (nI 0), .ref m_words, .int (nI 0), .int (nI 0), .int (nI 0), .ref m_mixed, .ref m_signs, .int (nI rr), .int (nI cc), .ref m_places, .int (nI 0), .int (nI 0), .int (nI 0), .int (nI 0), .ref m_row, .ref m_lost, .ref m_powers, .ref m_sums, .ref m_counted, .ref m_gone, .ref m_above, .ref m_below, .ref m_old, .ref m_now, .ref m_work, .ref m_isWrong, .ref m_out, .int (nI 0), .ref m_digits, .int (nI 0)]] H := hP
            have hD : va_D A [oc_i g m_places 2900 f1, oc_i g m_row 928 f2, oc_i g m_powers 929 f5, oc_i g m_gone 1860 f3, oc_i g m_work 1860 f4, oc_o h 11 [.int (nI 0), .ref m_tape, .int (nI 0), .ref m_words, .int (nI 0), .int (nI 0), .int (nI 0), .ref m_mixed, .ref m_signs, .int (nI rr), .int (nI cc), .ref m_places, .int (nI 0), .int (nI 0), .int (nI 0), .int (nI 0), .ref m_row, .ref m_lost, .ref m_powers, .ref m_sums, .ref m_counted, .ref m_gone, .ref m_above, .ref m_below, .ref m_old, .ref m_now, .ref m_work, .ref m_isWrong, .ref m_out, .int (nI 0), .ref m_digits, .int (nI 0)]] := hD
            refine lv_aload_n hx hb dd_MO_make_222 rfl (lv_at hl 0 rfl) ?_
            refine gf_MO_25 hx hb hts hown hK hP 5 rfl rfl dd_MO_make_223 ?_
            refine lv_iload hx hb dd_MO_make_226 (lv_at hl 6 rfl) ?_
            refine xa_ld hx hb hK hP 1 rfl (j := i) (by omega) (by omega) dd_MO_make_228 ?_
            have qiz := xr_iz qc qi9 qr2.2 qn
            refine xa_st hx hb hK hP hD hS 0 rfl (j := i / cc * (cc + 2) + (1 + i % cc)) (by omega) (by omega) dd_MO_make_229 (fun f_46 H locs hP hD hS => ?_)
            have hP : va_P g.1 vwCl [oc_i g m_places 2900 f_46, oc_i g m_row 928 f2, oc_i g m_powers 929 f5, oc_i g m_gone 1860 f3, oc_i g m_work 1860 f4, oc_o h 11 [.int (nI 0), .ref m_tape, .int (nI 0), .ref m_words, .int (nI 0), .int (nI 0), .int (nI 0), .ref m_mixed, .ref m_signs, .int (nI rr), .int (nI cc), .ref m_places, .int (nI 0), .int (nI 0), .int (nI 0), .int (nI 0), .ref m_row, .ref m_lost, .ref m_powers, .ref m_sums, .ref m_counted, .ref m_gone, .ref m_above, .ref m_below, .ref m_old, .ref m_now, .ref m_work, .ref m_isWrong, .ref m_out, .int (nI 0), .ref m_digits, .int (nI 0)]] H := hP
            have hD : va_D A [oc_i g m_places 2900 f_46, oc_i g m_row 928 f2, oc_i g m_powers 929 f5, oc_i g m_gone 1860 f3, oc_i g m_work 1860 f4, oc_o h 11 [.int (nI 0), .ref m_tape, .int (nI 0), .ref m_words, .int (nI 0), .int (nI 0), .int (nI 0), .ref m_mixed, .ref m_signs, .int (nI rr), .int (nI cc), .ref m_places, .int (nI 0), .int (nI 0), .int (nI 0), .int (nI 0), .ref m_row, .ref m_lost, .ref m_powers, .ref m_sums, .ref m_counted, .ref m_gone, .ref m_above, .ref m_below, .ref m_old, .ref m_now, .ref m_work, .ref m_isWrong, .ref m_out, .int (nI 0), .ref m_digits, .int (nI 0)]] := hD
            refine lv_iinc (k := 6) (lv' := [(6, .int (nI (i + 1))), (0, .ref h), (1, .int (nI L)), (2, .int (nI cc)), (3, .int (nI K)), (4, .int (nI rr)), (5, .int (nI (rr * cc)))]) hx hb dd_MO_make_230 hl rfl (xi_inc _) (by decide) rfl (fun ls hl => ?_)
            refine lv_goto (tgt := 205) hx hb dd_MO_make_233 rfl ?_
            exact ih37 _ (by omega) (i + 1) f_46 f2 f3 f4 H locs ls rfl (by omega) (lv_sub hl [1, 2, 3, 4, 5, 6, 0] rfl) (hP.sub [5, 0, 1, 2, 3, 4] rfl) (hD.sub [5, 0, 1, 2, 3, 4] (by decide) rfl) hS
        exact lp_37 _ 0 f1 f_33 f_34 f_35 H locs ls rfl (by omega) (lv_sub hl [1, 2, 3, 4, 5, 6, 0] rfl) (hP.sub [1, 0, 2, 3, 4, 5] rfl) (hD.sub [1, 0, 2, 3, 4, 5] (by decide) rfl) hS
      · refine lv_aload_n hx hb dd_MO_make_146 rfl (lv_at hl 0 rfl) ?_
        refine gf_MO_25 hx hb hts hown hK hP 0 rfl rfl dd_MO_make_147 ?_
        refine lv_iload hx hb dd_MO_make_150 (lv_at hl 6 rfl) ?_
        refine lv_iload hx hb dd_MO_make_152 (lv_at hl 6 rfl) ?_
        refine xb_zne (tgt := 164) hx hb (by omega) dd_MO_make_154 rfl (fun qz9 => ?_) (fun qz9 => ?_)
        · refine lv_iload hx hb dd_MO_make_164 (lv_at hl 6 rfl) ?_
          refine lv_aload_n hx hb dd_MO_make_166 rfl (lv_at hl 0 rfl) ?_
          refine gf_MO_89 hx hb hts hown hK hP 0 rfl rfl dd_MO_make_167 ?_
          refine xb_gt (tgt := 185) hx hb (by omega) (by omega) dd_MO_make_170 rfl (fun h_47 => ?_) (fun h_47 => False.elim (by omega))
          refine lv_sipush (v := nI 900) hx hb dd_MO_make_185 (by decide) ?_
          refine xa_st hx hb hK hP hD hS 2 rfl (j := i) (by omega) (by omega) dd_MO_make_188 (fun f_48 H locs hP hD hS => ?_)
          have hP : va_P g.1 vwCl [oc_o h 11 [.int (nI 0), .ref m_tape, .int (nI 0), .ref m_words, .int (nI 0), .int (nI 0), .int (nI 0), .ref m_mixed, .ref m_signs, .int (nI rr), .int (nI cc), .ref m_places, .int (nI 0), .int (nI 0), .int (nI 0), .int (nI 0), .ref m_row, .ref m_lost, .ref m_powers, .ref m_sums, .ref m_counted, .ref m_gone, .ref m_above, .ref m_below, .ref m_old, .ref m_now, .ref m_work, .ref m_isWrong, .ref m_out, .int (nI 0), .ref m_digits, .int (nI 0)], oc_i g m_places 2900 f1, oc_i g m_row 928 f_48, oc_i g m_powers 929 f5, oc_i g m_gone 1860 f3, oc_i g m_work 1860 f4] H := hP
          have hD : va_D A [oc_o h 11 [.int (nI 0), .ref m_tape, .int (nI 0), .ref m_words, .int (nI 0), .int (nI 0), .int (nI 0), .ref m_mixed, .ref m_signs, .int (nI rr), .int (nI cc), .ref m_places, .int (nI 0), .int (nI 0), .int (nI 0), .int (nI 0), .ref m_row, .ref m_lost, .ref m_powers, .ref m_sums, .ref m_counted, .ref m_gone, .ref m_above, .ref m_below, .ref m_old, .ref m_now, .ref m_work, .ref m_isWrong, .ref m_out, .int (nI 0), .ref m_digits, .int (nI 0)], oc_i g m_places 2900 f1, oc_i g m_row 928 f_48, oc_i g m_powers 929 f5, oc_i g m_gone 1860 f3, oc_i g m_work 1860 f4] := hD
          refine lv_iinc (k := 6) (lv' := [(6, .int (nI (i + 1))), (0, .ref h), (1, .int (nI L)), (2, .int (nI cc)), (3, .int (nI K)), (4, .int (nI rr)), (5, .int (nI (rr * cc)))]) hx hb dd_MO_make_189 hl rfl (xi_inc _) (by decide) rfl (fun ls hl => ?_)
          refine lv_goto (tgt := 137) hx hb dd_MO_make_192 rfl ?_
          exact ih31 _ (by omega) (i + 1) f1 f_48 f3 f4 H locs ls rfl (by omega) (lv_sub hl [1, 2, 3, 4, 5, 6, 0] rfl) (hP.sub [0, 1, 2, 3, 4, 5] rfl) (hD.sub [0, 1, 2, 3, 4, 5] (by decide) rfl) hS
        · refine lv_iload hx hb dd_MO_make_157 (lv_at hl 5 rfl) ?_
          refine lv_iload_n hx hb dd_MO_make_159 rfl (lv_at hl 3 rfl) ?_
          refine xi_isub hx hb (by omega) dd_MO_make_160 ?_
          refine lv_goto (tgt := 188) hx hb dd_MO_make_161 rfl ?_
          refine xa_st hx hb hK hP hD hS 2 rfl (j := i) (by omega) (by omega) dd_MO_make_188 (fun f_49 H locs hP hD hS => ?_)
          have hP : va_P g.1 vwCl [oc_o h 11 [.int (nI 0), .ref m_tape, .int (nI 0), .ref m_words, .int (nI 0), .int (nI 0), .int (nI 0), .ref m_mixed, .ref m_signs, .int (nI rr), .int (nI cc), .ref m_places, .int (nI 0), .int (nI 0), .int (nI 0), .int (nI 0), .ref m_row, .ref m_lost, .ref m_powers, .ref m_sums, .ref m_counted, .ref m_gone, .ref m_above, .ref m_below, .ref m_old, .ref m_now, .ref m_work, .ref m_isWrong, .ref m_out, .int (nI 0), .ref m_digits, .int (nI 0)], oc_i g m_places 2900 f1, oc_i g m_row 928 f_49, oc_i g m_powers 929 f5, oc_i g m_gone 1860 f3, oc_i g m_work 1860 f4] H := hP
          have hD : va_D A [oc_o h 11 [.int (nI 0), .ref m_tape, .int (nI 0), .ref m_words, .int (nI 0), .int (nI 0), .int (nI 0), .ref m_mixed, .ref m_signs, .int (nI rr), .int (nI cc), .ref m_places, .int (nI 0), .int (nI 0), .int (nI 0), .int (nI 0), .ref m_row, .ref m_lost, .ref m_powers, .ref m_sums, .ref m_counted, .ref m_gone, .ref m_above, .ref m_below, .ref m_old, .ref m_now, .ref m_work, .ref m_isWrong, .ref m_out, .int (nI 0), .ref m_digits, .int (nI 0)], oc_i g m_places 2900 f1, oc_i g m_row 928 f_49, oc_i g m_powers 929 f5, oc_i g m_gone 1860 f3, oc_i g m_work 1860 f4] := hD
          refine lv_iinc (k := 6) (lv' := [(6, .int (nI (i + 1))), (0, .ref h), (1, .int (nI L)), (2, .int (nI cc)), (3, .int (nI K)), (4, .int (nI rr)), (5, .int (nI (rr * cc)))]) hx hb dd_MO_make_189 hl rfl (xi_inc _) (by decide) rfl (fun ls hl => ?_)
          refine lv_goto (tgt := 137) hx hb dd_MO_make_192 rfl ?_
          exact ih31 _ (by omega) (i + 1) f1 f_49 f3 f4 H locs ls rfl (by omega) (lv_sub hl [1, 2, 3, 4, 5, 6, 0] rfl) (hP.sub [0, 1, 2, 3, 4, 5] rfl) (hD.sub [0, 1, 2, 3, 4, 5] (by decide) rfl) hS
    exact lp_31 _ 0 f1 f2 f3 f4 H locs ls rfl (by omega) (lv_sub hl [4, 5, 6, 3, 2, 1, 0] rfl) (hP.sub [5, 0, 1, 2, 3, 4] rfl) (hD.sub [5, 0, 1, 2, 3, 4] (by decide) rfl) hS

set_option maxHeartbeats 4000000 in
set_option maxRecDepth 100000 in
theorem cm_blankA (l : Launch) (g : xg_G) (h : Nat) (m_tape : Nat) (m_words : Nat) (m_mixed : Nat) (m_signs : Nat) (m_places : Nat) (m_row : Nat) (m_lost : Nat) (m_powers : Nat) (m_sums : Nat) (m_counted : Nat) (m_gone : Nat) (m_above : Nat) (m_below : Nat) (m_old : Nat) (m_now : Nat) (m_work : Nat) (m_isWrong : Nat) (m_out : Nat) (m_digits : Nat) (x1 : Int32) (x2 : Int32) (qx : x1.toInt < 3 ∨ 90 < x1.toInt ∨ x2.toInt < 1 ∨ 30 < x2.toInt) : kc_V l yy_MO_blank cd_MO_blank 4 { frames := 0, cells := 0, slots := 0, locals := 0 } g [.ref h, .int x1, .int x2] [oc_o h 11 [.int (nI 0), .ref m_tape, .int (nI 0), .ref m_words, .int (nI 0), .int (nI 0), .int (nI 0), .ref m_mixed, .ref m_signs, .int (nI 0), .int (nI 0), .ref m_places, .int (nI 0), .int (nI 0), .int (nI 0), .int (nI 0), .ref m_row, .ref m_lost, .ref m_powers, .ref m_sums, .ref m_counted, .ref m_gone, .ref m_above, .ref m_below, .ref m_old, .ref m_now, .ref m_work, .ref m_isWrong, .ref m_out, .int (nI 0), .ref m_digits, .int (nI 0)]] (S := Unit) (fun _ => True) (fun _ => [oc_o h 11 [.int (nI 1), .ref m_tape, .int (nI 0), .ref m_words, .int (nI 0), .int (nI 0), .int (nI 0), .ref m_mixed, .ref m_signs, .int (nI 0), .int (nI 0), .ref m_places, .int (nI 0), .int (nI 0), .int (nI 0), .int (nI 0), .ref m_row, .ref m_lost, .ref m_powers, .ref m_sums, .ref m_counted, .ref m_gone, .ref m_above, .ref m_below, .ref m_old, .ref m_now, .ref m_work, .ref m_isWrong, .ref m_out, .int (nI 0), .ref m_digits, .int (nI 0)]]) := by
  refine kc_Vof (by decide) (Nat.le_of_ble_eq_true rfl) ?_
  intro p e s m args below meth c A ls Q H locs hQ hB hP hS
  obtain ⟨hx, hb, hr, hlk, hin, hml, hown, hts, hA, hK, hD, hE, hl⟩ := hB
  have hF : xf_F g p m c cd_MO_blank 4 s args "StackedRowsModel" A := ⟨⟨hx, hb, hml, hown, hts⟩, hE, hK, hA⟩
  have hl : lv_has ls 4 [(0, .ref h), (1, .int x1), (2, .int x2)] := hl
  have hown : s.vm.findClass "StackedRowsModel" = some m.cls := hown
  refine lv_aload_n hx hb dd_MO_blank_0 rfl (lv_at hl 0 rfl) ?_
  refine lv_iload_n hx hb dd_MO_blank_1 rfl (lv_at hl 1 rfl) ?_
  refine lv_iconst (v := nI 3) hx hb dd_MO_blank_2 (by decide) ?_
  refine xb_rlt (tgt := 36) hx hb (by omega) dd_MO_blank_3 rfl (fun h_1 => ?_) (fun h_1 => ?_)
  · refine lv_iconst (v := nI 1) hx hb dd_MO_blank_36 (by decide) ?_
    refine pf_MO_68 hx hb hts hown hK hP hD hS 0 rfl rfl rfl (Nat.le_of_ble_eq_true rfl) dd_MO_blank_37 (fun H locs hP hD hS => ?_)
    have hP : va_P g.1 vwCl [oc_o h 11 [.int (nI 1), .ref m_tape, .int (nI 0), .ref m_words, .int (nI 0), .int (nI 0), .int (nI 0), .ref m_mixed, .ref m_signs, .int (nI 0), .int (nI 0), .ref m_places, .int (nI 0), .int (nI 0), .int (nI 0), .int (nI 0), .ref m_row, .ref m_lost, .ref m_powers, .ref m_sums, .ref m_counted, .ref m_gone, .ref m_above, .ref m_below, .ref m_old, .ref m_now, .ref m_work, .ref m_isWrong, .ref m_out, .int (nI 0), .ref m_digits, .int (nI 0)]] H := hP
    have hD : va_D A [oc_o h 11 [.int (nI 1), .ref m_tape, .int (nI 0), .ref m_words, .int (nI 0), .int (nI 0), .int (nI 0), .ref m_mixed, .ref m_signs, .int (nI 0), .int (nI 0), .ref m_places, .int (nI 0), .int (nI 0), .int (nI 0), .int (nI 0), .ref m_row, .ref m_lost, .ref m_powers, .ref m_sums, .ref m_counted, .ref m_gone, .ref m_above, .ref m_below, .ref m_old, .ref m_now, .ref m_work, .ref m_isWrong, .ref m_out, .int (nI 0), .ref m_digits, .int (nI 0)]] := hD
    refine lv_aload_n hx hb dd_MO_blank_40 rfl (lv_at hl 0 rfl) ?_
    refine gf_MO_68 hx hb hts hown hK hP 0 rfl rfl dd_MO_blank_41 ?_
    refine lv_if_le (tgt := 48) hx hb dd_MO_blank_44 rfl (fun h_2 => absurd h_2 (by decide)) (fun _ => ?_)
    exact xr_v hx hb hr hlk hQ hP hD hS () trivial [0] (by decide) rfl (Nat.le_of_ble_eq_true rfl) (Nat.le_of_ble_eq_true rfl) dd_MO_blank_47
  · refine lv_iload_n hx hb dd_MO_blank_6 rfl (lv_at hl 1 rfl) ?_
    refine lv_bipush (v := nI 90) hx hb dd_MO_blank_7 (by decide) ?_
    refine xb_rgt (tgt := 36) hx hb (by omega) dd_MO_blank_9 rfl (fun h_3 => ?_) (fun h_3 => ?_)
    · refine lv_iconst (v := nI 1) hx hb dd_MO_blank_36 (by decide) ?_
      refine pf_MO_68 hx hb hts hown hK hP hD hS 0 rfl rfl rfl (Nat.le_of_ble_eq_true rfl) dd_MO_blank_37 (fun H locs hP hD hS => ?_)
      have hP : va_P g.1 vwCl [oc_o h 11 [.int (nI 1), .ref m_tape, .int (nI 0), .ref m_words, .int (nI 0), .int (nI 0), .int (nI 0), .ref m_mixed, .ref m_signs, .int (nI 0), .int (nI 0), .ref m_places, .int (nI 0), .int (nI 0), .int (nI 0), .int (nI 0), .ref m_row, .ref m_lost, .ref m_powers, .ref m_sums, .ref m_counted, .ref m_gone, .ref m_above, .ref m_below, .ref m_old, .ref m_now, .ref m_work, .ref m_isWrong, .ref m_out, .int (nI 0), .ref m_digits, .int (nI 0)]] H := hP
      have hD : va_D A [oc_o h 11 [.int (nI 1), .ref m_tape, .int (nI 0), .ref m_words, .int (nI 0), .int (nI 0), .int (nI 0), .ref m_mixed, .ref m_signs, .int (nI 0), .int (nI 0), .ref m_places, .int (nI 0), .int (nI 0), .int (nI 0), .int (nI 0), .ref m_row, .ref m_lost, .ref m_powers, .ref m_sums, .ref m_counted, .ref m_gone, .ref m_above, .ref m_below, .ref m_old, .ref m_now, .ref m_work, .ref m_isWrong, .ref m_out, .int (nI 0), .ref m_digits, .int (nI 0)]] := hD
      refine lv_aload_n hx hb dd_MO_blank_40 rfl (lv_at hl 0 rfl) ?_
      refine gf_MO_68 hx hb hts hown hK hP 0 rfl rfl dd_MO_blank_41 ?_
      refine lv_if_le (tgt := 48) hx hb dd_MO_blank_44 rfl (fun h_4 => absurd h_4 (by decide)) (fun _ => ?_)
      exact xr_v hx hb hr hlk hQ hP hD hS () trivial [0] (by decide) rfl (Nat.le_of_ble_eq_true rfl) (Nat.le_of_ble_eq_true rfl) dd_MO_blank_47
    · refine lv_iload_n hx hb dd_MO_blank_12 rfl (lv_at hl 2 rfl) ?_
      refine lv_iconst (v := nI 1) hx hb dd_MO_blank_13 (by decide) ?_
      refine xb_rlt (tgt := 36) hx hb (by omega) dd_MO_blank_14 rfl (fun h_5 => ?_) (fun h_5 => ?_)
      · refine lv_iconst (v := nI 1) hx hb dd_MO_blank_36 (by decide) ?_
        refine pf_MO_68 hx hb hts hown hK hP hD hS 0 rfl rfl rfl (Nat.le_of_ble_eq_true rfl) dd_MO_blank_37 (fun H locs hP hD hS => ?_)
        have hP : va_P g.1 vwCl [oc_o h 11 [.int (nI 1), .ref m_tape, .int (nI 0), .ref m_words, .int (nI 0), .int (nI 0), .int (nI 0), .ref m_mixed, .ref m_signs, .int (nI 0), .int (nI 0), .ref m_places, .int (nI 0), .int (nI 0), .int (nI 0), .int (nI 0), .ref m_row, .ref m_lost, .ref m_powers, .ref m_sums, .ref m_counted, .ref m_gone, .ref m_above, .ref m_below, .ref m_old, .ref m_now, .ref m_work, .ref m_isWrong, .ref m_out, .int (nI 0), .ref m_digits, .int (nI 0)]] H := hP
        have hD : va_D A [oc_o h 11 [.int (nI 1), .ref m_tape, .int (nI 0), .ref m_words, .int (nI 0), .int (nI 0), .int (nI 0), .ref m_mixed, .ref m_signs, .int (nI 0), .int (nI 0), .ref m_places, .int (nI 0), .int (nI 0), .int (nI 0), .int (nI 0), .ref m_row, .ref m_lost, .ref m_powers, .ref m_sums, .ref m_counted, .ref m_gone, .ref m_above, .ref m_below, .ref m_old, .ref m_now, .ref m_work, .ref m_isWrong, .ref m_out, .int (nI 0), .ref m_digits, .int (nI 0)]] := hD
        refine lv_aload_n hx hb dd_MO_blank_40 rfl (lv_at hl 0 rfl) ?_
        refine gf_MO_68 hx hb hts hown hK hP 0 rfl rfl dd_MO_blank_41 ?_
        refine lv_if_le (tgt := 48) hx hb dd_MO_blank_44 rfl (fun h_6 => absurd h_6 (by decide)) (fun _ => ?_)
        exact xr_v hx hb hr hlk hQ hP hD hS () trivial [0] (by decide) rfl (Nat.le_of_ble_eq_true rfl) (Nat.le_of_ble_eq_true rfl) dd_MO_blank_47
      · refine lv_iload_n hx hb dd_MO_blank_17 rfl (lv_at hl 2 rfl) ?_
        refine lv_bipush (v := nI 30) hx hb dd_MO_blank_18 (by decide) ?_
        refine xb_rgt (tgt := 36) hx hb (by omega) dd_MO_blank_20 rfl (fun h_7 => ?_) (fun h_7 => False.elim (by omega))
        refine lv_iconst (v := nI 1) hx hb dd_MO_blank_36 (by decide) ?_
        refine pf_MO_68 hx hb hts hown hK hP hD hS 0 rfl rfl rfl (Nat.le_of_ble_eq_true rfl) dd_MO_blank_37 (fun H locs hP hD hS => ?_)
        have hP : va_P g.1 vwCl [oc_o h 11 [.int (nI 1), .ref m_tape, .int (nI 0), .ref m_words, .int (nI 0), .int (nI 0), .int (nI 0), .ref m_mixed, .ref m_signs, .int (nI 0), .int (nI 0), .ref m_places, .int (nI 0), .int (nI 0), .int (nI 0), .int (nI 0), .ref m_row, .ref m_lost, .ref m_powers, .ref m_sums, .ref m_counted, .ref m_gone, .ref m_above, .ref m_below, .ref m_old, .ref m_now, .ref m_work, .ref m_isWrong, .ref m_out, .int (nI 0), .ref m_digits, .int (nI 0)]] H := hP
        have hD : va_D A [oc_o h 11 [.int (nI 1), .ref m_tape, .int (nI 0), .ref m_words, .int (nI 0), .int (nI 0), .int (nI 0), .ref m_mixed, .ref m_signs, .int (nI 0), .int (nI 0), .ref m_places, .int (nI 0), .int (nI 0), .int (nI 0), .int (nI 0), .ref m_row, .ref m_lost, .ref m_powers, .ref m_sums, .ref m_counted, .ref m_gone, .ref m_above, .ref m_below, .ref m_old, .ref m_now, .ref m_work, .ref m_isWrong, .ref m_out, .int (nI 0), .ref m_digits, .int (nI 0)]] := hD
        refine lv_aload_n hx hb dd_MO_blank_40 rfl (lv_at hl 0 rfl) ?_
        refine gf_MO_68 hx hb hts hown hK hP 0 rfl rfl dd_MO_blank_41 ?_
        refine lv_if_le (tgt := 48) hx hb dd_MO_blank_44 rfl (fun h_8 => absurd h_8 (by decide)) (fun _ => ?_)
        exact xr_v hx hb hr hlk hQ hP hD hS () trivial [0] (by decide) rfl (Nat.le_of_ble_eq_true rfl) (Nat.le_of_ble_eq_true rfl) dd_MO_blank_47

set_option maxHeartbeats 4000000 in
set_option maxRecDepth 100000 in
theorem cm_blankB (l : Launch) (g : xg_G) (h : Nat) (m_tape : Nat) (m_words : Nat) (m_mixed : Nat) (m_signs : Nat) (m_places : Nat) (m_row : Nat) (m_lost : Nat) (m_powers : Nat) (m_sums : Nat) (m_counted : Nat) (m_gone : Nat) (m_above : Nat) (m_below : Nat) (m_old : Nat) (m_now : Nat) (m_work : Nat) (m_isWrong : Nat) (m_out : Nat) (m_digits : Nat) (rr : Nat) (cc : Nat) (qr : 3 ≤ rr) (qr2 : rr ≤ 90) (qc : 1 ≤ cc) (qc2 : cc ≤ 30) (qn : 928 < rr * cc) (qn2 : rr * cc ≤ 2700) : kc_V l yy_MO_blank cd_MO_blank 4 { frames := 0, cells := 0, slots := 0, locals := 0 } g [.ref h, .int (nI rr), .int (nI cc)] [oc_o h 11 [.int (nI 0), .ref m_tape, .int (nI 0), .ref m_words, .int (nI 0), .int (nI 0), .int (nI 0), .ref m_mixed, .ref m_signs, .int (nI 0), .int (nI 0), .ref m_places, .int (nI 0), .int (nI 0), .int (nI 0), .int (nI 0), .ref m_row, .ref m_lost, .ref m_powers, .ref m_sums, .ref m_counted, .ref m_gone, .ref m_above, .ref m_below, .ref m_old, .ref m_now, .ref m_work, .ref m_isWrong, .ref m_out, .int (nI 0), .ref m_digits, .int (nI 0)]] (S := Unit) (fun _ => True) (fun _ => [oc_o h 11 [.int (nI 1), .ref m_tape, .int (nI 0), .ref m_words, .int (nI 0), .int (nI 0), .int (nI 0), .ref m_mixed, .ref m_signs, .int (nI 0), .int (nI 0), .ref m_places, .int (nI 0), .int (nI 0), .int (nI 0), .int (nI 0), .ref m_row, .ref m_lost, .ref m_powers, .ref m_sums, .ref m_counted, .ref m_gone, .ref m_above, .ref m_below, .ref m_old, .ref m_now, .ref m_work, .ref m_isWrong, .ref m_out, .int (nI 0), .ref m_digits, .int (nI 0)]]) := by
  refine kc_Vof (by decide) (Nat.le_of_ble_eq_true rfl) ?_
  intro p e s m args below meth c A ls Q H locs hQ hB hP hS
  obtain ⟨hx, hb, hr, hlk, hin, hml, hown, hts, hA, hK, hD, hE, hl⟩ := hB
  have hF : xf_F g p m c cd_MO_blank 4 s args "StackedRowsModel" A := ⟨⟨hx, hb, hml, hown, hts⟩, hE, hK, hA⟩
  have hl : lv_has ls 4 [(0, .ref h), (1, .int (nI rr)), (2, .int (nI cc))] := hl
  have hown : s.vm.findClass "StackedRowsModel" = some m.cls := hown
  refine lv_aload_n hx hb dd_MO_blank_0 rfl (lv_at hl 0 rfl) ?_
  refine lv_iload_n hx hb dd_MO_blank_1 rfl (lv_at hl 1 rfl) ?_
  refine lv_iconst (v := nI 3) hx hb dd_MO_blank_2 (by decide) ?_
  refine xb_lt (tgt := 36) hx hb (by omega) (by omega) dd_MO_blank_3 rfl (fun h_1 => False.elim (by omega)) (fun h_1 => ?_)
  refine lv_iload_n hx hb dd_MO_blank_6 rfl (lv_at hl 1 rfl) ?_
  refine lv_bipush (v := nI 90) hx hb dd_MO_blank_7 (by decide) ?_
  refine xb_gt (tgt := 36) hx hb (by omega) (by omega) dd_MO_blank_9 rfl (fun h_2 => False.elim (by omega)) (fun h_2 => ?_)
  refine lv_iload_n hx hb dd_MO_blank_12 rfl (lv_at hl 2 rfl) ?_
  refine lv_iconst (v := nI 1) hx hb dd_MO_blank_13 (by decide) ?_
  refine xb_lt (tgt := 36) hx hb (by omega) (by omega) dd_MO_blank_14 rfl (fun h_3 => False.elim (by omega)) (fun h_3 => ?_)
  refine lv_iload_n hx hb dd_MO_blank_17 rfl (lv_at hl 2 rfl) ?_
  refine lv_bipush (v := nI 30) hx hb dd_MO_blank_18 (by decide) ?_
  refine xb_gt (tgt := 36) hx hb (by omega) (by omega) dd_MO_blank_20 rfl (fun h_4 => False.elim (by omega)) (fun h_4 => ?_)
  refine lv_iload_n hx hb dd_MO_blank_23 rfl (lv_at hl 1 rfl) ?_
  refine lv_iload_n hx hb dd_MO_blank_24 rfl (lv_at hl 2 rfl) ?_
  refine xi_imul hx hb dd_MO_blank_25 ?_
  refine lv_sipush (v := nI 928) hx hb dd_MO_blank_26 (by decide) ?_
  refine xb_gt (tgt := 36) hx hb (by omega) (by omega) dd_MO_blank_29 rfl (fun h_5 => ?_) (fun h_5 => False.elim (by omega))
  refine lv_iconst (v := nI 1) hx hb dd_MO_blank_36 (by decide) ?_
  refine pf_MO_68 hx hb hts hown hK hP hD hS 0 rfl rfl rfl (Nat.le_of_ble_eq_true rfl) dd_MO_blank_37 (fun H locs hP hD hS => ?_)
  have hP : va_P g.1 vwCl [oc_o h 11 [.int (nI 1), .ref m_tape, .int (nI 0), .ref m_words, .int (nI 0), .int (nI 0), .int (nI 0), .ref m_mixed, .ref m_signs, .int (nI 0), .int (nI 0), .ref m_places, .int (nI 0), .int (nI 0), .int (nI 0), .int (nI 0), .ref m_row, .ref m_lost, .ref m_powers, .ref m_sums, .ref m_counted, .ref m_gone, .ref m_above, .ref m_below, .ref m_old, .ref m_now, .ref m_work, .ref m_isWrong, .ref m_out, .int (nI 0), .ref m_digits, .int (nI 0)]] H := hP
  have hD : va_D A [oc_o h 11 [.int (nI 1), .ref m_tape, .int (nI 0), .ref m_words, .int (nI 0), .int (nI 0), .int (nI 0), .ref m_mixed, .ref m_signs, .int (nI 0), .int (nI 0), .ref m_places, .int (nI 0), .int (nI 0), .int (nI 0), .int (nI 0), .ref m_row, .ref m_lost, .ref m_powers, .ref m_sums, .ref m_counted, .ref m_gone, .ref m_above, .ref m_below, .ref m_old, .ref m_now, .ref m_work, .ref m_isWrong, .ref m_out, .int (nI 0), .ref m_digits, .int (nI 0)]] := hD
  refine lv_aload_n hx hb dd_MO_blank_40 rfl (lv_at hl 0 rfl) ?_
  refine gf_MO_68 hx hb hts hown hK hP 0 rfl rfl dd_MO_blank_41 ?_
  refine lv_if_le (tgt := 48) hx hb dd_MO_blank_44 rfl (fun h_6 => absurd h_6 (by decide)) (fun _ => ?_)
  exact xr_v hx hb hr hlk hQ hP hD hS () trivial [0] (by decide) rfl (Nat.le_of_ble_eq_true rfl) (Nat.le_of_ble_eq_true rfl) dd_MO_blank_47

set_option maxHeartbeats 4000000 in
set_option maxRecDepth 100000 in
theorem cm_blank (l : Launch) (g : xg_G) (h : Nat) (m_tape : Nat) (m_words : Nat) (m_mixed : Nat) (m_signs : Nat) (m_places : Nat) (m_row : Nat) (m_lost : Nat) (m_powers : Nat) (m_sums : Nat) (m_counted : Nat) (m_gone : Nat) (m_above : Nat) (m_below : Nat) (m_old : Nat) (m_now : Nat) (m_work : Nat) (m_isWrong : Nat) (m_out : Nat) (m_digits : Nat) (rr : Nat) (cc : Nat) (f : Nat → Int32) (qr : 3 ≤ rr) (qr2 : rr ≤ 90) (qc : 1 ≤ cc) (qc2 : cc ≤ 30) (qn : rr * cc ≤ 928) : kc_V l yy_MO_blank cd_MO_blank 4 { frames := 0, cells := 0, slots := 0, locals := 0 } g [.ref h, .int (nI rr), .int (nI cc)] [oc_o h 11 [.int (nI 0), .ref m_tape, .int (nI 0), .ref m_words, .int (nI 0), .int (nI 0), .int (nI 0), .ref m_mixed, .ref m_signs, .int (nI 0), .int (nI 0), .ref m_places, .int (nI 0), .int (nI 0), .int (nI 0), .int (nI 0), .ref m_row, .ref m_lost, .ref m_powers, .ref m_sums, .ref m_counted, .ref m_gone, .ref m_above, .ref m_below, .ref m_old, .ref m_now, .ref m_work, .ref m_isWrong, .ref m_out, .int (nI 0), .ref m_digits, .int (nI 0)], oc_i g m_places 2900 f] (S := Unit) (fun _ => True) (fun _ => [oc_o h 11 [.int (nI 0), .ref m_tape, .int (nI 0), .ref m_words, .int (nI 0), .int (nI 0), .int (nI 0), .ref m_mixed, .ref m_signs, .int (nI rr), .int (nI cc), .ref m_places, .int (nI 0), .int (nI 0), .int (nI 0), .int (nI 0), .ref m_row, .ref m_lost, .ref m_powers, .ref m_sums, .ref m_counted, .ref m_gone, .ref m_above, .ref m_below, .ref m_old, .ref m_now, .ref m_work, .ref m_isWrong, .ref m_out, .int (nI 0), .ref m_digits, .int (nI 0)]]) := by
  refine kc_Vof (by decide) (Nat.le_of_ble_eq_true rfl) ?_
  intro p e s m args below meth c A ls Q H locs hQ hB hP hS
  obtain ⟨hx, hb, hr, hlk, hin, hml, hown, hts, hA, hK, hD, hE, hl⟩ := hB
  have hF : xf_F g p m c cd_MO_blank 4 s args "StackedRowsModel" A := ⟨⟨hx, hb, hml, hown, hts⟩, hE, hK, hA⟩
  have hl : lv_has ls 4 [(0, .ref h), (1, .int (nI rr)), (2, .int (nI cc))] := hl
  have hown : s.vm.findClass "StackedRowsModel" = some m.cls := hown
  refine lv_aload_n hx hb dd_MO_blank_0 rfl (lv_at hl 0 rfl) ?_
  refine lv_iload_n hx hb dd_MO_blank_1 rfl (lv_at hl 1 rfl) ?_
  refine lv_iconst (v := nI 3) hx hb dd_MO_blank_2 (by decide) ?_
  refine xb_lt (tgt := 36) hx hb (by omega) (by omega) dd_MO_blank_3 rfl (fun h_1 => False.elim (by omega)) (fun h_1 => ?_)
  refine lv_iload_n hx hb dd_MO_blank_6 rfl (lv_at hl 1 rfl) ?_
  refine lv_bipush (v := nI 90) hx hb dd_MO_blank_7 (by decide) ?_
  refine xb_gt (tgt := 36) hx hb (by omega) (by omega) dd_MO_blank_9 rfl (fun h_2 => False.elim (by omega)) (fun h_2 => ?_)
  refine lv_iload_n hx hb dd_MO_blank_12 rfl (lv_at hl 2 rfl) ?_
  refine lv_iconst (v := nI 1) hx hb dd_MO_blank_13 (by decide) ?_
  refine xb_lt (tgt := 36) hx hb (by omega) (by omega) dd_MO_blank_14 rfl (fun h_3 => False.elim (by omega)) (fun h_3 => ?_)
  refine lv_iload_n hx hb dd_MO_blank_17 rfl (lv_at hl 2 rfl) ?_
  refine lv_bipush (v := nI 30) hx hb dd_MO_blank_18 (by decide) ?_
  refine xb_gt (tgt := 36) hx hb (by omega) (by omega) dd_MO_blank_20 rfl (fun h_4 => False.elim (by omega)) (fun h_4 => ?_)
  refine lv_iload_n hx hb dd_MO_blank_23 rfl (lv_at hl 1 rfl) ?_
  refine lv_iload_n hx hb dd_MO_blank_24 rfl (lv_at hl 2 rfl) ?_
  refine xi_imul hx hb dd_MO_blank_25 ?_
  refine lv_sipush (v := nI 928) hx hb dd_MO_blank_26 (by decide) ?_
  refine xb_gt (tgt := 36) hx hb (by omega) (by omega) dd_MO_blank_29 rfl (fun h_5 => False.elim (by omega)) (fun h_5 => ?_)
  refine lv_iconst (v := nI 0) hx hb dd_MO_blank_32 (by decide) ?_
  refine lv_goto (tgt := 37) hx hb dd_MO_blank_33 rfl ?_
  refine pf_MO_68 hx hb hts hown hK hP hD hS 0 rfl rfl rfl (Nat.le_of_ble_eq_true rfl) dd_MO_blank_37 (fun H locs hP hD hS => ?_)
  have hP : va_P g.1 vwCl [oc_o h 11 [.int (nI 0), .ref m_tape, .int (nI 0), .ref m_words, .int (nI 0), .int (nI 0), .int (nI 0), .ref m_mixed, .ref m_signs, .int (nI 0), .int (nI 0), .ref m_places, .int (nI 0), .int (nI 0), .int (nI 0), .int (nI 0), .ref m_row, .ref m_lost, .ref m_powers, .ref m_sums, .ref m_counted, .ref m_gone, .ref m_above, .ref m_below, .ref m_old, .ref m_now, .ref m_work, .ref m_isWrong, .ref m_out, .int (nI 0), .ref m_digits, .int (nI 0)], oc_i g m_places 2900 f] H := hP
  have hD : va_D A [oc_o h 11 [.int (nI 0), .ref m_tape, .int (nI 0), .ref m_words, .int (nI 0), .int (nI 0), .int (nI 0), .ref m_mixed, .ref m_signs, .int (nI 0), .int (nI 0), .ref m_places, .int (nI 0), .int (nI 0), .int (nI 0), .int (nI 0), .ref m_row, .ref m_lost, .ref m_powers, .ref m_sums, .ref m_counted, .ref m_gone, .ref m_above, .ref m_below, .ref m_old, .ref m_now, .ref m_work, .ref m_isWrong, .ref m_out, .int (nI 0), .ref m_digits, .int (nI 0)], oc_i g m_places 2900 f] := hD
  refine lv_aload_n hx hb dd_MO_blank_40 rfl (lv_at hl 0 rfl) ?_
  refine gf_MO_68 hx hb hts hown hK hP 0 rfl rfl dd_MO_blank_41 ?_
  refine lv_if_le (tgt := 48) hx hb dd_MO_blank_44 rfl (fun _ => ?_) (fun h_6 => absurd (by decide) h_6)
  refine lv_aload_n hx hb dd_MO_blank_48 rfl (lv_at hl 0 rfl) ?_
  refine lv_iload_n hx hb dd_MO_blank_49 rfl (lv_at hl 1 rfl) ?_
  refine pf_MO_134 hx hb hts hown hK hP hD hS 0 rfl rfl rfl (Nat.le_of_ble_eq_true rfl) dd_MO_blank_50 (fun H locs hP hD hS => ?_)
  have hP : va_P g.1 vwCl [oc_o h 11 [.int (nI 0), .ref m_tape, .int (nI 0), .ref m_words, .int (nI 0), .int (nI 0), .int (nI 0), .ref m_mixed, .ref m_signs, .int (nI rr), .int (nI 0), .ref m_places, .int (nI 0), .int (nI 0), .int (nI 0), .int (nI 0), .ref m_row, .ref m_lost, .ref m_powers, .ref m_sums, .ref m_counted, .ref m_gone, .ref m_above, .ref m_below, .ref m_old, .ref m_now, .ref m_work, .ref m_isWrong, .ref m_out, .int (nI 0), .ref m_digits, .int (nI 0)], oc_i g m_places 2900 f] H := hP
  have hD : va_D A [oc_o h 11 [.int (nI 0), .ref m_tape, .int (nI 0), .ref m_words, .int (nI 0), .int (nI 0), .int (nI 0), .ref m_mixed, .ref m_signs, .int (nI rr), .int (nI 0), .ref m_places, .int (nI 0), .int (nI 0), .int (nI 0), .int (nI 0), .ref m_row, .ref m_lost, .ref m_powers, .ref m_sums, .ref m_counted, .ref m_gone, .ref m_above, .ref m_below, .ref m_old, .ref m_now, .ref m_work, .ref m_isWrong, .ref m_out, .int (nI 0), .ref m_digits, .int (nI 0)], oc_i g m_places 2900 f] := hD
  refine lv_aload_n hx hb dd_MO_blank_53 rfl (lv_at hl 0 rfl) ?_
  refine lv_iload_n hx hb dd_MO_blank_54 rfl (lv_at hl 2 rfl) ?_
  refine pf_MO_137 hx hb hts hown hK hP hD hS 0 rfl rfl rfl (Nat.le_of_ble_eq_true rfl) dd_MO_blank_55 (fun H locs hP hD hS => ?_)
  have hP : va_P g.1 vwCl [oc_o h 11 [.int (nI 0), .ref m_tape, .int (nI 0), .ref m_words, .int (nI 0), .int (nI 0), .int (nI 0), .ref m_mixed, .ref m_signs, .int (nI rr), .int (nI cc), .ref m_places, .int (nI 0), .int (nI 0), .int (nI 0), .int (nI 0), .ref m_row, .ref m_lost, .ref m_powers, .ref m_sums, .ref m_counted, .ref m_gone, .ref m_above, .ref m_below, .ref m_old, .ref m_now, .ref m_work, .ref m_isWrong, .ref m_out, .int (nI 0), .ref m_digits, .int (nI 0)], oc_i g m_places 2900 f] H := hP
  have hD : va_D A [oc_o h 11 [.int (nI 0), .ref m_tape, .int (nI 0), .ref m_words, .int (nI 0), .int (nI 0), .int (nI 0), .ref m_mixed, .ref m_signs, .int (nI rr), .int (nI cc), .ref m_places, .int (nI 0), .int (nI 0), .int (nI 0), .int (nI 0), .ref m_row, .ref m_lost, .ref m_powers, .ref m_sums, .ref m_counted, .ref m_gone, .ref m_above, .ref m_below, .ref m_old, .ref m_now, .ref m_work, .ref m_isWrong, .ref m_out, .int (nI 0), .ref m_digits, .int (nI 0)], oc_i g m_places 2900 f] := hD
  refine lv_iconst (v := nI 0) hx hb dd_MO_blank_58 (by decide) ?_
  refine lv_istore_n (lv' := [(3, .int (nI 0)), (0, .ref h), (1, .int (nI rr)), (2, .int (nI cc))]) hx hb dd_MO_blank_59 rfl hl (by decide) rfl (fun ls hl => ?_)
  have lp_7 : ∀ (n7 : Nat) (i : Nat) (f : Nat → Int32) (H : Heap) (locs : List Loc) (ls : Array Slot), rr * (cc + 2) - i = n7 → (i ≤ rr * (cc + 2)) → lv_has ls 4 [(0, .ref h), (1, .int (nI rr)), (2, .int (nI cc)), (3, .int (nI i))] → va_P g.1 vwCl [oc_o h 11 [.int (nI 0), .ref m_tape, .int (nI 0), .ref m_words, .int (nI 0), .int (nI 0), .int (nI 0), .ref m_mixed, .ref m_signs, .int (nI rr), .int (nI cc), .ref m_places, .int (nI 0), .int (nI 0), .int (nI 0), .int (nI 0), .ref m_row, .ref m_lost, .ref m_powers, .ref m_sums, .ref m_counted, .ref m_gone, .ref m_above, .ref m_below, .ref m_old, .ref m_now, .ref m_work, .ref m_isWrong, .ref m_out, .int (nI 0), .ref m_digits, .int (nI 0)], oc_i g m_places 2900 f] H → va_D A [oc_o h 11 [.int (nI 0), .ref m_tape, .int (nI 0), .ref m_words, .int (nI 0), .int (nI 0), .int (nI 0), .ref m_mixed, .ref m_signs, .int (nI rr), .int (nI cc), .ref m_places, .int (nI 0), .int (nI 0), .int (nI 0), .int (nI 0), .ref m_row, .ref m_lost, .ref m_powers, .ref m_sums, .ref m_counted, .ref m_gone, .ref m_above, .ref m_below, .ref m_old, .ref m_now, .ref m_work, .ref m_isWrong, .ref m_out, .int (nI 0), .ref m_digits, .int (nI 0)], oc_i g m_places 2900 f] → va_S A s.heap H locs → W p l e { frames := 0, cells := 0, slots := 0, locals := 0 } s m args below meth c H locs 0 0 Q (F0 m 60 ls []) := by
    intro n7
    induction n7 using Nat.strongRecOn with
    | _ n7 ih7 =>
    intro i f H locs ls hmn7 qi hl hP hD hS
    have qw := xr_iw qr2 qn
    refine lv_iload_n hx hb dd_MO_blank_60 rfl (lv_at hl 3 rfl) ?_
    refine lv_aload_n hx hb dd_MO_blank_61 rfl (lv_at hl 0 rfl) ?_
    refine gf_MO_134 hx hb hts hown hK hP 0 rfl rfl dd_MO_blank_62 ?_
    refine lv_aload_n hx hb dd_MO_blank_65 rfl (lv_at hl 0 rfl) ?_
    refine gf_MO_137 hx hb hts hown hK hP 0 rfl rfl dd_MO_blank_66 ?_
    refine lv_iconst (v := nI 2) hx hb dd_MO_blank_69 (by decide) ?_
    refine xi_iadd hx hb dd_MO_blank_70 ?_
    refine xi_imul hx hb dd_MO_blank_71 ?_
    refine xb_ge (tgt := 88) hx hb (by omega) (by omega) dd_MO_blank_72 rfl (fun h_8 => ?_) (fun h_8 => ?_)
    · exact xr_v hx hb hr hlk hQ hP hD hS () trivial [0] (by decide) rfl (Nat.le_of_ble_eq_true rfl) (Nat.le_of_ble_eq_true rfl) dd_MO_blank_88
    · refine lv_aload_n hx hb dd_MO_blank_75 rfl (lv_at hl 0 rfl) ?_
      refine gf_MO_22 hx hb hts hown hK hP 0 rfl rfl dd_MO_blank_76 ?_
      refine lv_iload_n hx hb dd_MO_blank_79 rfl (lv_at hl 3 rfl) ?_
      refine lv_iconst (v := -1) hx hb dd_MO_blank_80 (by decide) ?_
      refine xa_st hx hb hK hP hD hS 1 rfl (j := i) (by omega) (by omega) dd_MO_blank_81 (fun f_9 H locs hP hD hS => ?_)
      have hP : va_P g.1 vwCl [oc_o h 11 [.int (nI 0), .ref m_tape, .int (nI 0), .ref m_words, .int (nI 0), .int (nI 0), .int (nI 0), .ref m_mixed, .ref m_signs, .int (nI rr), .int (nI cc), .ref m_places, .int (nI 0), .int (nI 0), .int (nI 0), .int (nI 0), .ref m_row, .ref m_lost, .ref m_powers, .ref m_sums, .ref m_counted, .ref m_gone, .ref m_above, .ref m_below, .ref m_old, .ref m_now, .ref m_work, .ref m_isWrong, .ref m_out, .int (nI 0), .ref m_digits, .int (nI 0)], oc_i g m_places 2900 f_9] H := hP
      have hD : va_D A [oc_o h 11 [.int (nI 0), .ref m_tape, .int (nI 0), .ref m_words, .int (nI 0), .int (nI 0), .int (nI 0), .ref m_mixed, .ref m_signs, .int (nI rr), .int (nI cc), .ref m_places, .int (nI 0), .int (nI 0), .int (nI 0), .int (nI 0), .ref m_row, .ref m_lost, .ref m_powers, .ref m_sums, .ref m_counted, .ref m_gone, .ref m_above, .ref m_below, .ref m_old, .ref m_now, .ref m_work, .ref m_isWrong, .ref m_out, .int (nI 0), .ref m_digits, .int (nI 0)], oc_i g m_places 2900 f_9] := hD
      refine lv_iinc (k := 3) (lv' := [(3, .int (nI (i + 1))), (0, .ref h), (1, .int (nI rr)), (2, .int (nI cc))]) hx hb dd_MO_blank_82 hl rfl (xi_inc _) (by decide) rfl (fun ls hl => ?_)
      refine lv_goto (tgt := 60) hx hb dd_MO_blank_85 rfl ?_
      exact ih7 _ (by omega) (i + 1) f_9 H locs ls rfl (by omega) (lv_sub hl [1, 2, 3, 0] rfl) (hP.sub [0, 1] rfl) (hD.sub [0, 1] (by decide) rfl) hS
  exact lp_7 _ 0 f H locs ls rfl (by omega) (lv_sub hl [1, 2, 3, 0] rfl) (hP.sub [0, 1] rfl) (hD.sub [0, 1] (by decide) rfl) hS
