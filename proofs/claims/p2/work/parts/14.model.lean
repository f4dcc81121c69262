set_option maxHeartbeats 4000000 in
set_option maxRecDepth 100000 in
theorem cm_thrown (l : Launch) (g : xg_G) (h : Nat) (m_tape : Nat) (m_words : Nat) (m_mixed : Nat) (m_signs : Nat) (m_places : Nat) (m_row : Nat) (m_lost : Nat) (m_powers : Nat) (m_sums : Nat) (m_counted : Nat) (m_gone : Nat) (m_above : Nat) (m_below : Nat) (m_old : Nat) (m_now : Nat) (m_work : Nat) (m_isWrong : Nat) (m_out : Nat) (m_digits : Nat) (k : Nat) (x2 : Int32) (k3 : Nat) (k4 : Nat) : kc_I l yy_MO_thrown cd_MO_thrown 1 .int { frames := 0, cells := 0, slots := 0, locals := 0 } g [.ref h] [oc_o h 11 [.int (nI k), .ref m_tape, .int x2, .ref m_words, .int (nI 0), .int (nI 0), .int (nI 0), .ref m_mixed, .ref m_signs, .int (nI k3), .int (nI k4), .ref m_places, .int (nI 0), .int (nI 0), .int (nI 0), .int (nI 0), .ref m_row, .ref m_lost, .ref m_powers, .ref m_sums, .ref m_counted, .ref m_gone, .ref m_above, .ref m_below, .ref m_old, .ref m_now, .ref m_work, .ref m_isWrong, .ref m_out, .int (nI 0), .ref m_digits, .int (nI 0)]] (S := Unit) (fun r0 _ => r0 = nI k) (fun _ => [oc_o h 11 [.int (nI k), .ref m_tape, .int x2, .ref m_words, .int (nI 0), .int (nI 0), .int (nI 0), .ref m_mixed, .ref m_signs, .int (nI k3), .int (nI k4), .ref m_places, .int (nI 0), .int (nI 0), .int (nI 0), .int (nI 0), .ref m_row, .ref m_lost, .ref m_powers, .ref m_sums, .ref m_counted, .ref m_gone, .ref m_above, .ref m_below, .ref m_old, .ref m_now, .ref m_work, .ref m_isWrong, .ref m_out, .int (nI 0), .ref m_digits, .int (nI 0)]]) := by
  refine kc_Iof (by decide) (Nat.le_of_ble_eq_true rfl) ?_
  intro p e s m args below meth c A ls Q H locs hQ hB hP hS
  obtain ⟨hx, hb, hr, hlk, hin, hml, hown, hts, hA, hK, hD, hE, hl⟩ := hB
  have hF : xf_F g p m c cd_MO_thrown 1 s args "StackedRowsModel" A := ⟨⟨hx, hb, hml, hown, hts⟩, hE, hK, hA⟩
  have hl : lv_has ls 1 [(0, .ref h)] := hl
  have hown : s.vm.findClass "StackedRowsModel" = some m.cls := hown
  refine lv_aload_n hx hb dd_MO_thrown_0 rfl (lv_at hl 0 rfl) ?_
  refine gf_MO_68 hx hb hts hown hK hP 0 rfl rfl dd_MO_thrown_1 ?_
  exact xr_i hx hb hr hlk hQ hP hD hS () (by first | rfl | exact congrArg nI (by omega)) [0] (by decide) rfl rfl (Nat.le_of_ble_eq_true rfl) (Nat.le_of_ble_eq_true rfl) dd_MO_thrown_4

set_option maxHeartbeats 4000000 in
set_option maxRecDepth 100000 in
theorem cm_writeAll (l : Launch) (g : xg_G) (h : Nat) (m_tape : Nat) (m_words : Nat) (m_mixed : Nat) (m_signs : Nat) (m_places : Nat) (m_row : Nat) (m_lost : Nat) (m_powers : Nat) (m_sums : Nat) (m_counted : Nat) (m_gone : Nat) (m_above : Nat) (m_below : Nat) (m_old : Nat) (m_now : Nat) (m_work : Nat) (m_isWrong : Nat) (m_out : Nat) (m_digits : Nat) : kc_V l yy_MO_writeAll cd_MO_writeAll 6 { frames := 0, cells := 0, slots := 0, locals := 0 } g [.ref h] [oc_o h 11 [.int (nI 0), .ref m_tape, .int (nI 0), .ref m_words, .int (nI 0), .int (nI 0), .int (nI 0), .ref m_mixed, .ref m_signs, .int (nI 0), .int (nI 0), .ref m_places, .int (nI 0), .int (nI 0), .int (nI 0), .int (nI 0), .ref m_row, .ref m_lost, .ref m_powers, .ref m_sums, .ref m_counted, .ref m_gone, .ref m_above, .ref m_below, .ref m_old, .ref m_now, .ref m_work, .ref m_isWrong, .ref m_out, .int (nI 0), .ref m_digits, .int (nI 0)]] (S := Unit) (fun _ => True) (fun _ => [oc_o h 11 [.int (nI 0), .ref m_tape, .int (nI 0), .ref m_words, .int (nI 0), .int (nI 0), .int (nI 0), .ref m_mixed, .ref m_signs, .int (nI 0), .int (nI 0), .ref m_places, .int (nI 0), .int (nI 0), .int (nI 0), .int (nI 0), .ref m_row, .ref m_lost, .ref m_powers, .ref m_sums, .ref m_counted, .ref m_gone, .ref m_above, .ref m_below, .ref m_old, .ref m_now, .ref m_work, .ref m_isWrong, .ref m_out, .int (nI 0), .ref m_digits, .int (nI 0)]]) := by
  refine kc_Vof (by decide) (Nat.le_of_ble_eq_true rfl) ?_
  intro p e s m args below meth c A ls Q H locs hQ hB hP hS
  obtain ⟨hx, hb, hr, hlk, hin, hml, hown, hts, hA, hK, hD, hE, hl⟩ := hB
  have hF : xf_F g p m c cd_MO_writeAll 6 s args "StackedRowsModel" A := ⟨⟨hx, hb, hml, hown, hts⟩, hE, hK, hA⟩
  have hl : lv_has ls 6 [(0, .ref h)] := hl
  have hown : s.vm.findClass "StackedRowsModel" = some m.cls := hown
  refine lv_aload_n hx hb dd_MO_writeAll_0 rfl (lv_at hl 0 rfl) ?_
  refine lv_iconst (v := nI 0) hx hb dd_MO_writeAll_1 (by decide) ?_
  refine pf_MO_89 hx hb hts hown hK hP hD hS 0 rfl rfl rfl (Nat.le_of_ble_eq_true rfl) dd_MO_writeAll_2 (fun H locs hP hD hS => ?_)
  have hP : va_P g.1 vwCl [oc_o h 11 [.int (nI 0), .ref m_tape, .int (nI 0), .ref m_words, .int (nI 0), .int (nI 0), .int (nI 0), .ref m_mixed, .ref m_signs, .int (nI 0), .int (nI 0), .ref m_places, .int (nI 0), .int (nI 0), .int (nI 0), .int (nI 0), .ref m_row, .ref m_lost, .ref m_powers, .ref m_sums, .ref m_counted, .ref m_gone, .ref m_above, .ref m_below, .ref m_old, .ref m_now, .ref m_work, .ref m_isWrong, .ref m_out, .int (nI 0), .ref m_digits, .int (nI 0)]] H := hP
  have hD : va_D A [oc_o h 11 [.int (nI 0), .ref m_tape, .int (nI 0), .ref m_words, .int (nI 0), .int (nI 0), .int (nI 0), .ref m_mixed, .ref m_signs, .int (nI 0), .int (nI 0), .ref m_places, .int (nI 0), .int (nI 0), .int (nI 0), .int (nI 0), .ref m_row, .ref m_lost, .ref m_powers, .ref m_sums, .ref m_counted, .ref m_gone, .ref m_above, .ref m_below, .ref m_old, .ref m_now, .ref m_work, .ref m_isWrong, .ref m_out, .int (nI 0), .ref m_digits, .int (nI 0)]] := hD
  refine lv_aload_n hx hb dd_MO_writeAll_5 rfl (lv_at hl 0 rfl) ?_
  refine lv_iconst (v := nI 0) hx hb dd_MO_writeAll_6 (by decide) ?_
  refine pf_MO_102 hx hb hts hown hK hP hD hS 0 rfl rfl rfl (Nat.le_of_ble_eq_true rfl) dd_MO_writeAll_7 (fun H locs hP hD hS => ?_)
  have hP : va_P g.1 vwCl [oc_o h 11 [.int (nI 0), .ref m_tape, .int (nI 0), .ref m_words, .int (nI 0), .int (nI 0), .int (nI 0), .ref m_mixed, .ref m_signs, .int (nI 0), .int (nI 0), .ref m_places, .int (nI 0), .int (nI 0), .int (nI 0), .int (nI 0), .ref m_row, .ref m_lost, .ref m_powers, .ref m_sums, .ref m_counted, .ref m_gone, .ref m_above, .ref m_below, .ref m_old, .ref m_now, .ref m_work, .ref m_isWrong, .ref m_out, .int (nI 0), .ref m_digits, .int (nI 0)]] H := hP
  have hD : va_D A [oc_o h 11 [.int (nI 0), .ref m_tape, .int (nI 0), .ref m_words, .int (nI 0), .int (nI 0), .int (nI 0), .ref m_mixed, .ref m_signs, .int (nI 0), .int (nI 0), .ref m_places, .int (nI 0), .int (nI 0), .int (nI 0), .int (nI 0), .ref m_row, .ref m_lost, .ref m_powers, .ref m_sums, .ref m_counted, .ref m_gone, .ref m_above, .ref m_below, .ref m_old, .ref m_now, .ref m_work, .ref m_isWrong, .ref m_out, .int (nI 0), .ref m_digits, .int (nI 0)]] := hD
  refine lv_iconst (v := nI 0) hx hb dd_MO_writeAll_10 (by decide) ?_
  refine lv_istore_n (lv' := [(1, .int (nI 0)), (0, .ref h)]) hx hb dd_MO_writeAll_11 rfl hl (by decide) rfl (fun ls hl => ?_)
  refine lv_iconst (v := nI 0) hx hb dd_MO_writeAll_12 (by decide) ?_
  refine lv_istore_n (lv' := [(2, .int (nI 0)), (1, .int (nI 0)), (0, .ref h)]) hx hb dd_MO_writeAll_13 rfl hl (by decide) rfl (fun ls hl => ?_)
  refine lv_iload_n hx hb dd_MO_writeAll_14 rfl (lv_at hl 0 rfl) ?_
  refine lv_aload_n hx hb dd_MO_writeAll_15 rfl (lv_at hl 2 rfl) ?_
  refine gf_MO_72 hx hb hts hown hK hP 0 rfl rfl dd_MO_writeAll_16 ?_
  refine lv_icmp_ge (tgt := 236) hx hb dd_MO_writeAll_19 rfl (fun _ => ?_) (fun h_1 => absurd (by decide) h_1)
  exact xr_v hx hb hr hlk hQ hP hD hS () trivial [0] (by decide) rfl (Nat.le_of_ble_eq_true rfl) (Nat.le_of_ble_eq_true rfl) dd_MO_writeAll_236

set_option maxHeartbeats 4000000 in
set_option maxRecDepth 100000 in
theorem cm_words (l : Launch) (g : xg_G) (h : Nat) (m_tape : Nat) (m_words : Nat) (m_mixed : Nat) (m_signs : Nat) (m_places : Nat) (m_row : Nat) (m_lost : Nat) (m_powers : Nat) (m_sums : Nat) (m_counted : Nat) (m_gone : Nat) (m_above : Nat) (m_below : Nat) (m_old : Nat) (m_now : Nat) (m_work : Nat) (m_isWrong : Nat) (m_out : Nat) (m_digits : Nat) : kc_I l yy_MO_codewords cd_MO_codewords 1 .int { frames := 1, cells := 0, slots := 0, locals := 25 } g [.ref h] [oc_o h 11 [.int (nI 0), .ref m_tape, .int (nI 0), .ref m_words, .int (nI 0), .int (nI 0), .int (nI 0), .ref m_mixed, .ref m_signs, .int (nI 0), .int (nI 0), .ref m_places, .int (nI 0), .int (nI 0), .int (nI 0), .int (nI 0), .ref m_row, .ref m_lost, .ref m_powers, .ref m_sums, .ref m_counted, .ref m_gone, .ref m_above, .ref m_below, .ref m_old, .ref m_now, .ref m_work, .ref m_isWrong, .ref m_out, .int (nI 0), .ref m_digits, .int (nI 0)]] (S := Unit) (fun r0 _ => r0 = nI 0) (fun _ => [oc_o h 11 [.int (nI 0), .ref m_tape, .int (nI 0), .ref m_words, .int (nI 0), .int (nI 0), .int (nI 0), .ref m_mixed, .ref m_signs, .int (nI 0), .int (nI 0), .ref m_places, .int (nI 0), .int (nI 0), .int (nI 0), .int (nI 0), .ref m_row, .ref m_lost, .ref m_powers, .ref m_sums, .ref m_counted, .ref m_gone, .ref m_above, .ref m_below, .ref m_old, .ref m_now, .ref m_work, .ref m_isWrong, .ref m_out, .int (nI 0), .ref m_digits, .int (nI 0)]]) := by
  refine kc_Iof (by decide) (Nat.le_of_ble_eq_true rfl) ?_
  intro p e s m args below meth c A ls Q H locs hQ hB hP hS
  obtain ⟨hx, hb, hr, hlk, hin, hml, hown, hts, hA, hK, hD, hE, hl⟩ := hB
  have hF : xf_F g p m c cd_MO_codewords 1 s args "StackedRowsModel" A := ⟨⟨hx, hb, hml, hown, hts⟩, hE, hK, hA⟩
  have hl : lv_has ls 1 [(0, .ref h)] := hl
  have hown : s.vm.findClass "StackedRowsModel" = some m.cls := hown
  refine lv_aload_n hx hb dd_MO_codewords_0 rfl (lv_at hl 0 rfl) ?_
  refine lv_iconst (v := nI 0) hx hb dd_MO_codewords_1 (by decide) ?_
  refine pf_MO_68 hx hb hts hown hK hP hD hS 0 rfl rfl rfl (Nat.le_of_ble_eq_true rfl) dd_MO_codewords_2 (fun H locs hP hD hS => ?_)
  have hP : va_P g.1 vwCl [oc_o h 11 [.int (nI 0), .ref m_tape, .int (nI 0), .ref m_words, .int (nI 0), .int (nI 0), .int (nI 0), .ref m_mixed, .ref m_signs, .int (nI 0), .int (nI 0), .ref m_places, .int (nI 0), .int (nI 0), .int (nI 0), .int (nI 0), .ref m_row, .ref m_lost, .ref m_powers, .ref m_sums, .ref m_counted, .ref m_gone, .ref m_above, .ref m_below, .ref m_old, .ref m_now, .ref m_work, .ref m_isWrong, .ref m_out, .int (nI 0), .ref m_digits, .int (nI 0)]] H := hP
  have hD : va_D A [oc_o h 11 [.int (nI 0), .ref m_tape, .int (nI 0), .ref m_words, .int (nI 0), .int (nI 0), .int (nI 0), .ref m_mixed, .ref m_signs, .int (nI 0), .int (nI 0), .ref m_places, .int (nI 0), .int (nI 0), .int (nI 0), .int (nI 0), .ref m_row, .ref m_lost, .ref m_powers, .ref m_sums, .ref m_counted, .ref m_gone, .ref m_above, .ref m_below, .ref m_old, .ref m_now, .ref m_work, .ref m_isWrong, .ref m_out, .int (nI 0), .ref m_digits, .int (nI 0)]] := hD
  refine lv_aload_n hx hb dd_MO_codewords_5 rfl (lv_at hl 0 rfl) ?_
  refine xc_Vv (wr := []) (k1 := 0) (k2 := 0) (As := []) (rest := []) (k := 0) hF hP hD hS (cm_writeAll l g h m_tape m_words m_mixed m_signs m_places m_row m_lost m_powers m_sums m_counted m_gone m_above m_below m_old m_now m_work m_isWrong m_out m_digits) (xt_V ml_MO_131 wi_MO_writeAll wx_MO_writeAll wn_MO wc_MO_writeAll) (by decide) 0 rfl rfl rfl [0] [] ⟨rfl, rfl, by decide, by decide, by decide⟩ ⟨⟨Nat.le_of_ble_eq_true rfl, Nat.le_of_ble_eq_true rfl⟩, rfl, rfl, Nat.le_of_ble_eq_true rfl, Nat.le_of_ble_eq_true rfl⟩ rfl hl.1 rfl (Nat.le_of_ble_eq_true rfl) dd_MO_codewords_6 (fun u H locs hp hP hD hS => ?_)
  have hP : va_P g.1 vwCl [oc_o h 11 [.int (nI 0), .ref m_tape, .int (nI 0), .ref m_words, .int (nI 0), .int (nI 0), .int (nI 0), .ref m_mixed, .ref m_signs, .int (nI 0), .int (nI 0), .ref m_places, .int (nI 0), .int (nI 0), .int (nI 0), .int (nI 0), .ref m_row, .ref m_lost, .ref m_powers, .ref m_sums, .ref m_counted, .ref m_gone, .ref m_above, .ref m_below, .ref m_old, .ref m_now, .ref m_work, .ref m_isWrong, .ref m_out, .int (nI 0), .ref m_digits, .int (nI 0)]] H := hP
  have hD : va_D A [oc_o h 11 [.int (nI 0), .ref m_tape, .int (nI 0), .ref m_words, .int (nI 0), .int (nI 0), .int (nI 0), .ref m_mixed, .ref m_signs, .int (nI 0), .int (nI 0), .ref m_places, .int (nI 0), .int (nI 0), .int (nI 0), .int (nI 0), .ref m_row, .ref m_lost, .ref m_powers, .ref m_sums, .ref m_counted, .ref m_gone, .ref m_above, .ref m_below, .ref m_old, .ref m_now, .ref m_work, .ref m_isWrong, .ref m_out, .int (nI 0), .ref m_digits, .int (nI 0)]] := hD
  refine lv_aload_n hx hb dd_MO_codewords_9 rfl (lv_at hl 0 rfl) ?_
  refine gf_MO_89 hx hb hts hown hK hP 0 rfl rfl dd_MO_codewords_10 ?_
  exact xr_i hx hb hr hlk hQ hP hD hS () (by first | rfl | exact congrArg nI (by omega)) [0] (by decide) rfl rfl (Nat.le_of_ble_eq_true rfl) (Nat.le_of_ble_eq_true rfl) dd_MO_codewords_13

set_option maxHeartbeats 4000000 in
set_option maxRecDepth 100000 in
theorem cm_wordT (l : Launch) (g : xg_G) (h : Nat) (m_tape : Nat) (m_words : Nat) (m_mixed : Nat) (m_signs : Nat) (m_places : Nat) (m_row : Nat) (m_lost : Nat) (m_powers : Nat) (m_sums : Nat) (m_counted : Nat) (m_gone : Nat) (m_above : Nat) (m_below : Nat) (m_old : Nat) (m_now : Nat) (m_work : Nat) (m_isWrong : Nat) (m_out : Nat) (m_digits : Nat) (x1 : Int32) : kc_I l yy_MO_codeword cd_MO_codeword 2 .int { frames := 1, cells := 0, slots := 0, locals := 25 } g [.ref h, .int x1] [oc_o h 11 [.int (nI 0), .ref m_tape, .int (nI 0), .ref m_words, .int (nI 0), .int (nI 0), .int (nI 0), .ref m_mixed, .ref m_signs, .int (nI 0), .int (nI 0), .ref m_places, .int (nI 0), .int (nI 0), .int (nI 0), .int (nI 0), .ref m_row, .ref m_lost, .ref m_powers, .ref m_sums, .ref m_counted, .ref m_gone, .ref m_above, .ref m_below, .ref m_old, .ref m_now, .ref m_work, .ref m_isWrong, .ref m_out, .int (nI 0), .ref m_digits, .int (nI 0)]] (S := Unit) (fun _ _ => True) (fun _ => [oc_o h 11 [.int (nI 1), .ref m_tape, .int (nI 0), .ref m_words, .int (nI 0), .int (nI 0), .int (nI 0), .ref m_mixed, .ref m_signs, .int (nI 0), .int (nI 0), .ref m_places, .int (nI 0), .int (nI 0), .int (nI 0), .int (nI 0), .ref m_row, .ref m_lost, .ref m_powers, .ref m_sums, .ref m_counted, .ref m_gone, .ref m_above, .ref m_below, .ref m_old, .ref m_now, .ref m_work, .ref m_isWrong, .ref m_out, .int (nI 0), .ref m_digits, .int (nI 0)]]) := by
  refine kc_Iof (by decide) (Nat.le_of_ble_eq_true rfl) ?_
  intro p e s m args below meth c A ls Q H locs hQ hB hP hS
  obtain ⟨hx, hb, hr, hlk, hin, hml, hown, hts, hA, hK, hD, hE, hl⟩ := hB
  have hF : xf_F g p m c cd_MO_codeword 2 s args "StackedRowsModel" A := ⟨⟨hx, hb, hml, hown, hts⟩, hE, hK, hA⟩
  have hl : lv_has ls 2 [(0, .ref h), (1, .int x1)] := hl
  have hown : s.vm.findClass "StackedRowsModel" = some m.cls := hown
  refine lv_aload_n hx hb dd_MO_codeword_0 rfl (lv_at hl 0 rfl) ?_
  refine xc_Vv (wr := []) (k1 := 0) (k2 := 0) (As := []) (rest := []) (k := 0) hF hP hD hS (cm_writeAll l g h m_tape m_words m_mixed m_signs m_places m_row m_lost m_powers m_sums m_counted m_gone m_above m_below m_old m_now m_work m_isWrong m_out m_digits) (xt_V ml_MO_131 wi_MO_writeAll wx_MO_writeAll wn_MO wc_MO_writeAll) (by decide) 0 rfl rfl rfl [0] [] ⟨rfl, rfl, by decide, by decide, by decide⟩ ⟨⟨Nat.le_of_ble_eq_true rfl, Nat.le_of_ble_eq_true rfl⟩, rfl, rfl, Nat.le_of_ble_eq_true rfl, Nat.le_of_ble_eq_true rfl⟩ rfl hl.1 rfl (Nat.le_of_ble_eq_true rfl) dd_MO_codeword_1 (fun u H locs hp hP hD hS => ?_)
  have hP : va_P g.1 vwCl [oc_o h 11 [.int (nI 0), .ref m_tape, .int (nI 0), .ref m_words, .int (nI 0), .int (nI 0), .int (nI 0), .ref m_mixed, .ref m_signs, .int (nI 0), .int (nI 0), .ref m_places, .int (nI 0), .int (nI 0), .int (nI 0), .int (nI 0), .ref m_row, .ref m_lost, .ref m_powers, .ref m_sums, .ref m_counted, .ref m_gone, .ref m_above, .ref m_below, .ref m_old, .ref m_now, .ref m_work, .ref m_isWrong, .ref m_out, .int (nI 0), .ref m_digits, .int (nI 0)]] H := hP
  have hD : va_D A [oc_o h 11 [.int (nI 0), .ref m_tape, .int (nI 0), .ref m_words, .int (nI 0), .int (nI 0), .int (nI 0), .ref m_mixed, .ref m_signs, .int (nI 0), .int (nI 0), .ref m_places, .int (nI 0), .int (nI 0), .int (nI 0), .int (nI 0), .ref m_row, .ref m_lost, .ref m_powers, .ref m_sums, .ref m_counted, .ref m_gone, .ref m_above, .ref m_below, .ref m_old, .ref m_now, .ref m_work, .ref m_isWrong, .ref m_out, .int (nI 0), .ref m_digits, .int (nI 0)]] := hD
  refine lv_aload_n hx hb dd_MO_codeword_4 rfl (lv_at hl 0 rfl) ?_
  refine lv_iload_n hx hb dd_MO_codeword_5 rfl (lv_at hl 1 rfl) ?_
  refine xb_r0lt (tgt := 21) hx hb dd_MO_codeword_6 rfl (fun h_2 => ?_) (fun h_2 => ?_)
  · refine lv_iconst (v := nI 1) hx hb dd_MO_codeword_21 (by decide) ?_
    refine pf_MO_68 hx hb hts hown hK hP hD hS 0 rfl rfl rfl (Nat.le_of_ble_eq_true rfl) dd_MO_codeword_22 (fun H locs hP hD hS => ?_)
    have hP : va_P g.1 vwCl [oc_o h 11 [.int (nI 1), .ref m_tape, .int (nI 0), .ref m_words, .int (nI 0), .int (nI 0), .int (nI 0), .ref m_mixed, .ref m_signs, .int (nI 0), .int (nI 0), .ref m_places, .int (nI 0), .int (nI 0), .int (nI 0), .int (nI 0), .ref m_row, .ref m_lost, .ref m_powers, .ref m_sums, .ref m_counted, .ref m_gone, .ref m_above, .ref m_below, .ref m_old, .ref m_now, .ref m_work, .ref m_isWrong, .ref m_out, .int (nI 0), .ref m_digits, .int (nI 0)]] H := hP
    have hD : va_D A [oc_o h 11 [.int (nI 1), .ref m_tape, .int (nI 0), .ref m_words, .int (nI 0), .int (nI 0), .int (nI 0), .ref m_mixed, .ref m_signs, .int (nI 0), .int (nI 0), .ref m_places, .int (nI 0), .int (nI 0), .int (nI 0), .int (nI 0), .ref m_row, .ref m_lost, .ref m_powers, .ref m_sums, .ref m_counted, .ref m_gone, .ref m_above, .ref m_below, .ref m_old, .ref m_now, .ref m_work, .ref m_isWrong, .ref m_out, .int (nI 0), .ref m_digits, .int (nI 0)]] := hD
    refine lv_aload_n hx hb dd_MO_codeword_25 rfl (lv_at hl 0 rfl) ?_
    refine gf_MO_68 hx hb hts hown hK hP 0 rfl rfl dd_MO_codeword_26 ?_
    refine lv_if_le (tgt := 36) hx hb dd_MO_codeword_29 rfl (fun h_3 => absurd h_3 (by decide)) (fun _ => ?_)
    refine lv_iconst (v := nI 0) hx hb dd_MO_codeword_32 (by decide) ?_
    refine lv_goto (tgt := 42) hx hb dd_MO_codeword_33 rfl ?_
    exact xr_i hx hb hr hlk hQ hP hD hS () trivial [0] (by decide) rfl rfl (Nat.le_of_ble_eq_true rfl) (Nat.le_of_ble_eq_true rfl) dd_MO_codeword_42
  · refine lv_iload_n hx hb dd_MO_codeword_9 rfl (lv_at hl 1 rfl) ?_
    refine lv_aload_n hx hb dd_MO_codeword_10 rfl (lv_at hl 0 rfl) ?_
    refine gf_MO_89 hx hb hts hown hK hP 0 rfl rfl dd_MO_codeword_11 ?_
    refine xb_rge (tgt := 21) hx hb (by omega) dd_MO_codeword_14 rfl (fun h_4 => ?_) (fun h_4 => False.elim (by omega))
    refine lv_iconst (v := nI 1) hx hb dd_MO_codeword_21 (by decide) ?_
    refine pf_MO_68 hx hb hts hown hK hP hD hS 0 rfl rfl rfl (Nat.le_of_ble_eq_true rfl) dd_MO_codeword_22 (fun H locs hP hD hS => ?_)
    have hP : va_P g.1 vwCl [oc_o h 11 [.int (nI 1), .ref m_tape, .int (nI 0), .ref m_words, .int (nI 0), .int (nI 0), .int (nI 0), .ref m_mixed, .ref m_signs, .int (nI 0), .int (nI 0), .ref m_places, .int (nI 0), .int (nI 0), .int (nI 0), .int (nI 0), .ref m_row, .ref m_lost, .ref m_powers, .ref m_sums, .ref m_counted, .ref m_gone, .ref m_above, .ref m_below, .ref m_old, .ref m_now, .ref m_work, .ref m_isWrong, .ref m_out, .int (nI 0), .ref m_digits, .int (nI 0)]] H := hP
    have hD : va_D A [oc_o h 11 [.int (nI 1), .ref m_tape, .int (nI 0), .ref m_words, .int (nI 0), .int (nI 0), .int (nI 0), .ref m_mixed, .ref m_signs, .int (nI 0), .int (nI 0), .ref m_places, .int (nI 0), .int (nI 0), .int (nI 0), .int (nI 0), .ref m_row, .ref m_lost, .ref m_powers, .ref m_sums, .ref m_counted, .ref m_gone, .ref m_above, .ref m_below, .ref m_old, .ref m_now, .ref m_work, .ref m_isWrong, .ref m_out, .int (nI 0), .ref m_digits, .int (nI 0)]] := hD
    refine lv_aload_n hx hb dd_MO_codeword_25 rfl (lv_at hl 0 rfl) ?_
    refine gf_MO_68 hx hb hts hown hK hP 0 rfl rfl dd_MO_codeword_26 ?_
    refine lv_if_le (tgt := 36) hx hb dd_MO_codeword_29 rfl (fun h_5 => absurd h_5 (by decide)) (fun _ => ?_)
    refine lv_iconst (v := nI 0) hx hb dd_MO_codeword_32 (by decide) ?_
    refine lv_goto (tgt := 42) hx hb dd_MO_codeword_33 rfl ?_
    exact xr_i hx hb hr hlk hQ hP hD hS () trivial [0] (by decide) rfl rfl (Nat.le_of_ble_eq_true rfl) (Nat.le_of_ble_eq_true rfl) dd_MO_codeword_42

set_option maxHeartbeats 4000000 in
set_option maxRecDepth 100000 in
theorem cm_feed (l : Launch) (g : xg_G) (h : Nat) (m_tape : Nat) (m_words : Nat) (m_mixed : Nat) (m_signs : Nat) (m_places : Nat) (m_row : Nat) (m_lost : Nat) (m_powers : Nat) (m_sums : Nat) (m_counted : Nat) (m_gone : Nat) (m_above : Nat) (m_below : Nat) (m_old : Nat) (m_now : Nat) (m_work : Nat) (m_isWrong : Nat) (m_out : Nat) (m_digits : Nat) (x1 : Int32) (x2 : Int32) (x3 : Int32) (x4 : Int32) (x5 : Int32) (f_tape : Nat → Int32) : kc_I l yy_MO_feed cd_MO_feed 8 .int { frames := 0, cells := 0, slots := 0, locals := 0 } g [.ref h, .int x1, .int x2, .int x3, .int x4, .int x5] [oc_o h 11 [.int (nI 0), .ref m_tape, .int (nI 0), .ref m_words, .int (nI 0), .int (nI 0), .int (nI 0), .ref m_mixed, .ref m_signs, .int (nI 0), .int (nI 0), .ref m_places, .int (nI 0), .int (nI 0), .int (nI 0), .int (nI 0), .ref m_row, .ref m_lost, .ref m_powers, .ref m_sums, .ref m_counted, .ref m_gone, .ref m_above, .ref m_below, .ref m_old, .ref m_now, .ref m_work, .ref m_isWrong, .ref m_out, .int (nI 0), .ref m_digits, .int (nI 0)], oc_i g m_tape 1220 f_tape] (S := Unit) (fun r0 _ => r0 = nI 20) (fun _ => [oc_o h 11 [.int (nI 0), .ref m_tape, .int (nI 20), .ref m_words, .int (nI 0), .int (nI 0), .int (nI 0), .ref m_mixed, .ref m_signs, .int (nI 0), .int (nI 0), .ref m_places, .int (nI 0), .int (nI 0), .int (nI 0), .int (nI 0), .ref m_row, .ref m_lost, .ref m_powers, .ref m_sums, .ref m_counted, .ref m_gone, .ref m_above, .ref m_below, .ref m_old, .ref m_now, .ref m_work, .ref m_isWrong, .ref m_out, .int (nI 0), .ref m_digits, .int (nI 0)]]) := by
  refine kc_Iof (by decide) (Nat.le_of_ble_eq_true rfl) ?_
  intro p e s m args below meth c A ls Q H locs hQ hB hP hS
  obtain ⟨hx, hb, hr, hlk, hin, hml, hown, hts, hA, hK, hD, hE, hl⟩ := hB
  have hF : xf_F g p m c cd_MO_feed 8 s args "StackedRowsModel" A := ⟨⟨hx, hb, hml, hown, hts⟩, hE, hK, hA⟩
  have hl : lv_has ls 8 [(0, .ref h), (1, .int x1), (2, .int x2), (3, .int x3), (4, .int x4), (5, .int x5)] := hl
  have hown : s.vm.findClass "StackedRowsModel" = some m.cls := hown
  refine lv_aload_n hx hb dd_MO_feed_0 rfl (lv_at hl 0 rfl) ?_
  refine lv_aload_n hx hb dd_MO_feed_1 rfl (lv_at hl 0 rfl) ?_
  refine gf_MO_72 hx hb hts hown hK hP 0 rfl rfl dd_MO_feed_2 ?_
  refine lv_bipush (v := nI 20) hx hb dd_MO_feed_5 (by decide) ?_
  refine xi_iadd hx hb dd_MO_feed_7 ?_
  refine lv_sipush (v := nI 1200) hx hb dd_MO_feed_8 (by decide) ?_
  refine lv_icmp_le (tgt := 18) hx hb dd_MO_feed_11 rfl (fun _ => ?_) (fun h_1 => absurd (by decide) h_1)
  refine lv_iconst (v := nI 0) hx hb dd_MO_feed_18 (by decide) ?_
  refine pf_MO_68 hx hb hts hown hK hP hD hS 0 rfl rfl rfl (Nat.le_of_ble_eq_true rfl) dd_MO_feed_19 (fun H locs hP hD hS => ?_)
  have hP : va_P g.1 vwCl [oc_o h 11 [.int (nI 0), .ref m_tape, .int (nI 0), .ref m_words, .int (nI 0), .int (nI 0), .int (nI 0), .ref m_mixed, .ref m_signs, .int (nI 0), .int (nI 0), .ref m_places, .int (nI 0), .int (nI 0), .int (nI 0), .int (nI 0), .ref m_row, .ref m_lost, .ref m_powers, .ref m_sums, .ref m_counted, .ref m_gone, .ref m_above, .ref m_below, .ref m_old, .ref m_now, .ref m_work, .ref m_isWrong, .ref m_out, .int (nI 0), .ref m_digits, .int (nI 0)], oc_i g m_tape 1220 f_tape] H := hP
  have hD : va_D A [oc_o h 11 [.int (nI 0), .ref m_tape, .int (nI 0), .ref m_words, .int (nI 0), .int (nI 0), .int (nI 0), .ref m_mixed, .ref m_signs, .int (nI 0), .int (nI 0), .ref m_places, .int (nI 0), .int (nI 0), .int (nI 0), .int (nI 0), .ref m_row, .ref m_lost, .ref m_powers, .ref m_sums, .ref m_counted, .ref m_gone, .ref m_above, .ref m_below, .ref m_old, .ref m_now, .ref m_work, .ref m_isWrong, .ref m_out, .int (nI 0), .ref m_digits, .int (nI 0)], oc_i g m_tape 1220 f_tape] := hD
  refine lv_aload_n hx hb dd_MO_feed_22 rfl (lv_at hl 0 rfl) ?_
  refine gf_MO_68 hx hb hts hown hK hP 0 rfl rfl dd_MO_feed_23 ?_
  refine lv_if_le (tgt := 31) hx hb dd_MO_feed_26 rfl (fun _ => ?_) (fun h_2 => absurd (by decide) h_2)
  refine lv_iconst (v := nI 0) hx hb dd_MO_feed_31 (by decide) ?_
  refine lv_istore (lv' := [(6, .int (nI 0)), (0, .ref h), (1, .int x1), (2, .int x2), (3, .int x3), (4, .int x4), (5, .int x5)]) hx hb dd_MO_feed_32 hl (by decide) rfl (fun ls hl => ?_)
  have lp_3 : ∀ (n3 : Nat) (i : Nat) (f : Nat → Int32) (H : Heap) (locs : List Loc) (ls : Array Slot), 20 - i = n3 → (i ≤ 20) → lv_has ls 8 [(0, .ref h), (1, .int x1), (2, .int x2), (3, .int x3), (4, .int x4), (5, .int x5), (6, .int (nI i))] → va_P g.1 vwCl [oc_o h 11 [.int (nI 0), .ref m_tape, .int (nI 0), .ref m_words, .int (nI 0), .int (nI 0), .int (nI 0), .ref m_mixed, .ref m_signs, .int (nI 0), .int (nI 0), .ref m_places, .int (nI 0), .int (nI 0), .int (nI 0), .int (nI 0), .ref m_row, .ref m_lost, .ref m_powers, .ref m_sums, .ref m_counted, .ref m_gone, .ref m_above, .ref m_below, .ref m_old, .ref m_now, .ref m_work, .ref m_isWrong, .ref m_out, .int (nI 0), .ref m_digits, .int (nI 0)], oc_i g m_tape 1220 f] H → va_D A [oc_o h 11 [.int (nI 0), .ref m_tape, .int (nI 0), .ref m_words, .int (nI 0), .int (nI 0), .int (nI 0), .ref m_mixed, .ref m_signs, .int (nI 0), .int (nI 0), .ref m_places, .int (nI 0), .int (nI 0), .int (nI 0), .int (nI 0), .ref m_row, .ref m_lost, .ref m_powers, .ref m_sums, .ref m_counted, .ref m_gone, .ref m_above, .ref m_below, .ref m_old, .ref m_now, .ref m_work, .ref m_isWrong, .ref m_out, .int (nI 0), .ref m_digits, .int (nI 0)], oc_i g m_tape 1220 f] → va_S A s.heap H locs → W p l e { frames := 0, cells := 0, slots := 0, locals := 0 } s m args below meth c H locs 0 0 Q (F0 m 34 ls []) := by
    intro n3
    induction n3 using Nat.strongRecOn with
    | _ n3 ih3 =>
    intro i f H locs ls hmn3 qi hl hP hD hS
    refine lv_iload hx hb dd_MO_feed_34 (lv_at hl 6 rfl) ?_
    refine lv_bipush (v := nI 20) hx hb dd_MO_feed_36 (by decide) ?_
    refine xb_ge (tgt := 124) hx hb (by omega) (by omega) dd_MO_feed_38 rfl (fun h_4 => ?_) (fun h_4 => ?_)
    · refine lv_aload_n hx hb dd_MO_feed_124 rfl (lv_at hl 0 rfl) ?_
      refine lv_aload_n hx hb dd_MO_feed_125 rfl (lv_at hl 0 rfl) ?_
      refine gf_MO_72 hx hb hts hown hK hP 0 rfl rfl dd_MO_feed_126 ?_
      refine lv_bipush (v := nI 20) hx hb dd_MO_feed_129 (by decide) ?_
      refine xi_iadd hx hb dd_MO_feed_131 ?_
      refine pf_MO_72 hx hb hts hown hK hP hD hS 0 rfl rfl rfl (Nat.le_of_ble_eq_true rfl) dd_MO_feed_132 (fun H locs hP hD hS => ?_)
      have hP : va_P g.1 vwCl [oc_o h 11 [.int (nI 0), .ref m_tape, .int (nI 20), .ref m_words, .int (nI 0), .int (nI 0), .int (nI 0), .ref m_mixed, .ref m_signs, .int (nI 0), .int (nI 0), .ref m_places, .int (nI 0), .int (nI 0), .int (nI 0), .int (nI 0), .ref m_row, .ref m_lost, .ref m_powers, .ref m_sums, .ref m_counted, .ref m_gone, .ref m_above, .ref m_below, .ref m_old, .ref m_now, .ref m_work, .ref m_isWrong, .ref m_out, .int (nI 0), .ref m_digits, .int (nI 0)], oc_i g m_tape 1220 f] H := hP
      have hD : va_D A [oc_o h 11 [.int (nI 0), .ref m_tape, .int (nI 20), .ref m_words, .int (nI 0), .int (nI 0), .int (nI 0), .ref m_mixed, .ref m_signs, .int (nI 0), .int (nI 0), .ref m_places, .int (nI 0), .int (nI 0), .int (nI 0), .int (nI 0), .ref m_row, .ref m_lost, .ref m_powers, .ref m_sums, .ref m_counted, .ref m_gone, .ref m_above, .ref m_below, .ref m_old, .ref m_now, .ref m_work, .ref m_isWrong, .ref m_out, .int (nI 0), .ref m_digits, .int (nI 0)], oc_i g m_tape 1220 f] := hD
      refine lv_aload_n hx hb dd_MO_feed_135 rfl (lv_at hl 0 rfl) ?_
      refine gf_MO_72 hx hb hts hown hK hP 0 rfl rfl dd_MO_feed_136 ?_
      exact xr_i hx hb hr hlk hQ hP hD hS () (by first | rfl | exact congrArg nI (by omega)) [0] (by decide) rfl rfl (Nat.le_of_ble_eq_true rfl) (Nat.le_of_ble_eq_true rfl) dd_MO_feed_139
    · refine lv_iload hx hb dd_MO_feed_41 (lv_at hl 6 rfl) ?_
      refine lv_iconst (v := nI 4) hx hb dd_MO_feed_43 (by decide) ?_
      refine xb_ge (tgt := 51) hx hb (by omega) (by omega) dd_MO_feed_44 rfl (fun h_5 => ?_) (fun h_5 => ?_)
      · refine lv_iload hx hb dd_MO_feed_51 (lv_at hl 6 rfl) ?_
        refine lv_bipush (v := nI 8) hx hb dd_MO_feed_53 (by decide) ?_
        refine xb_ge (tgt := 62) hx hb (by omega) (by omega) dd_MO_feed_55 rfl (fun h_6 => ?_) (fun h_6 => ?_)
        · refine lv_iload hx hb dd_MO_feed_62 (lv_at hl 6 rfl) ?_
          refine lv_bipush (v := nI 12) hx hb dd_MO_feed_64 (by decide) ?_
          refine xb_ge (tgt := 73) hx hb (by omega) (by omega) dd_MO_feed_66 rfl (fun h_7 => ?_) (fun h_7 => ?_)
          · refine lv_iload hx hb dd_MO_feed_73 (lv_at hl 6 rfl) ?_
            refine lv_bipush (v := nI 16) hx hb dd_MO_feed_75 (by decide) ?_
            refine xb_ge (tgt := 85) hx hb (by omega) (by omega) dd_MO_feed_77 rfl (fun h_8 => ?_) (fun h_8 => ?_)
            · refine lv_iload hx hb dd_MO_feed_85 (lv_at hl 5 rfl) ?_
              refine lv_istore (lv' := [(7, .int x5), (0, .ref h), (1, .int x1), (2, .int x2), (3, .int x3), (4, .int x4), (5, .int x5), (6, .int (nI i))]) hx hb dd_MO_feed_87 hl (by decide) rfl (fun ls hl => ?_)
              refine lv_aload_n hx hb dd_MO_feed_89 rfl (lv_at hl 1 rfl) ?_
              refine gf_MO_7 hx hb hts hown hK hP 0 rfl rfl dd_MO_feed_90 ?_
              refine lv_aload_n hx hb dd_MO_feed_93 rfl (lv_at hl 1 rfl) ?_
              refine gf_MO_72 hx hb hts hown hK hP 0 rfl rfl dd_MO_feed_94 ?_
              refine lv_iload hx hb dd_MO_feed_97 (lv_at hl 7 rfl) ?_
              refine xi_iadd hx hb dd_MO_feed_99 (xi_eq (v := nI i) (by rw [Nat.zero_add]) ?_)
              refine lv_iload hx hb dd_MO_feed_100 (lv_at hl 0 rfl) ?_
              refine lv_bipush (v := nI 24) hx hb dd_MO_feed_102 (by decide) ?_
              refine lv_bipush (v := nI 8) hx hb dd_MO_feed_104 (by decide) ?_
              refine lv_iload hx hb dd_MO_feed_106 (lv_at hl 7 rfl) ?_
              refine lv_iconst (v := nI 4) hx hb dd_MO_feed_108 (by decide) ?_
              refine xi_irem hx hb (by omega) (by omega) (by omega) dd_MO_feed_109 ?_
              refine xi_imul hx hb dd_MO_feed_110 ?_
              refine xi_isub hx hb (by omega) dd_MO_feed_111 ?_
              refine lv_ishr hx hb dd_MO_feed_112 (lv_topi (fun x_9 _ => ?_))
              refine lv_sipush (v := nI 255) hx hb dd_MO_feed_113 (by decide) ?_
              refine lv_iand hx hb dd_MO_feed_116 (lv_topi (fun x_10 _ => ?_))
              refine xa_st hx hb hK hP hD hS 1 rfl (j := i) (by omega) (by omega) dd_MO_feed_117 (fun f_11 H locs hP hD hS => ?_)
              have hP : va_P g.1 vwCl [oc_o h 11 [.int (nI 0), .ref m_tape, .int (nI 0), .ref m_words, .int (nI 0), .int (nI 0), .int (nI 0), .ref m_mixed, .ref m_signs, .int (nI 0), .int (nI 0), .ref m_places, .int (nI 0), .int (nI 0), .int (nI 0), .int (nI 0), .ref m_row, .ref m_lost, .ref m_powers, .ref m_sums, .ref m_counted, .ref m_gone, .ref m_above, .ref m_below, .ref m_old, .ref m_now, .ref m_work, .ref m_isWrong, .ref m_out, .int (nI 0), .ref m_digits, .int (nI 0)], oc_i g m_tape 1220 f_11] H := hP
              have hD : va_D A [oc_o h 11 [.int (nI 0), .ref m_tape, .int (nI 0), .ref m_words, .int (nI 0), .int (nI 0), .int (nI 0), .ref m_mixed, .ref m_signs, .int (nI 0), .int (nI 0), .ref m_places, .int (nI 0), .int (nI 0), .int (nI 0), .int (nI 0), .ref m_row, .ref m_lost, .ref m_powers, .ref m_sums, .ref m_counted, .ref m_gone, .ref m_above, .ref m_below, .ref m_old, .ref m_now, .ref m_work, .ref m_isWrong, .ref m_out, .int (nI 0), .ref m_digits, .int (nI 0)], oc_i g m_tape 1220 f_11] := hD
              refine lv_iinc (k := 7) (lv' := [(6, .int (nI (i + 1))), (7, .int x5), (0, .ref h), (1, .int x1), (2, .int x2), (3, .int x3), (4, .int x4), (5, .int x5)]) hx hb dd_MO_feed_118 hl rfl (xi_inc _) (by decide) rfl (fun ls hl => ?_)
              refine lv_goto (tgt := 34) hx hb dd_MO_feed_121 rfl ?_
              exact ih3 _ (by omega) (i + 1) f_11 H locs ls rfl (by omega) (lv_sub hl [2, 3, 4, 5, 6, 7, 0] rfl) (hP.sub [0, 1] rfl) (hD.sub [0, 1] (by decide) rfl) hS
            · refine lv_iload hx hb dd_MO_feed_80 (lv_at hl 4 rfl) ?_
              refine lv_goto (tgt := 87) hx hb dd_MO_feed_82 rfl ?_
              refine lv_istore (lv' := [(7, .int x4), (0, .ref h), (1, .int x1), (2, .int x2), (3, .int x3), (4, .int x4), (5, .int x5), (6, .int (nI i))]) hx hb dd_MO_feed_87 hl (by decide) rfl (fun ls hl => ?_)
              refine lv_aload_n hx hb dd_MO_feed_89 rfl (lv_at hl 1 rfl) ?_
              refine gf_MO_7 hx hb hts hown hK hP 0 rfl rfl dd_MO_feed_90 ?_
              refine lv_aload_n hx hb dd_MO_feed_93 rfl (lv_at hl 1 rfl) ?_
              refine gf_MO_72 hx hb hts hown hK hP 0 rfl rfl dd_MO_feed_94 ?_
              refine lv_iload hx hb dd_MO_feed_97 (lv_at hl 7 rfl) ?_
              refine xi_iadd hx hb dd_MO_feed_99 (xi_eq (v := nI i) (by rw [Nat.zero_add]) ?_)
              refine lv_iload hx hb dd_MO_feed_100 (lv_at hl 0 rfl) ?_
              refine lv_bipush (v := nI 24) hx hb dd_MO_feed_102 (by decide) ?_
              refine lv_bipush (v := nI 8) hx hb dd_MO_feed_104 (by decide) ?_
              refine lv_iload hx hb dd_MO_feed_106 (lv_at hl 7 rfl) ?_
              refine lv_iconst (v := nI 4) hx hb dd_MO_feed_108 (by decide) ?_
              refine xi_irem hx hb (by omega) (by omega) (by omega) dd_MO_feed_109 ?_
              refine xi_imul hx hb dd_MO_feed_110 ?_
              refine xi_isub hx hb (by omega) dd_MO_feed_111 ?_
              refine lv_ishr hx hb dd_MO_feed_112 (lv_topi (fun x_12 _ => ?_))
              refine lv_sipush (v := nI 255) hx hb dd_MO_feed_113 (by decide) ?_
              refine lv_iand hx hb dd_MO_feed_116 (lv_topi (fun x_13 _ => ?_))
              refine xa_st hx hb hK hP hD hS 1 rfl (j := i) (by omega) (by omega) dd_MO_feed_117 (fun f_14 H locs hP hD hS => ?_)
              have hP : va_P g.1 vwCl [oc_o h 11 [.int (nI 0), .ref m_tape, .int (nI 0), .ref m_words, .int (nI 0), .int (nI 0), .int (nI 0), .ref m_mixed, .ref m_signs, .int (nI 0), .int (nI 0), .ref m_places, .int (nI 0), .int (nI 0), .int (nI 0), .int (nI 0), .ref m_row, .ref m_lost, .ref m_powers, .ref m_sums, .ref m_counted, .ref m_gone, .ref m_above, .ref m_below, .ref m_old, .ref m_now, .ref m_work, .ref m_isWrong, .ref m_out, .int (nI 0), .ref m_digits, .int (nI 0)], oc_i g m_tape 1220 f_14] H := hP
              have hD : va_D A [oc_o h 11 [.int (nI 0), .ref m_tape, .int (nI 0), .ref m_words, .int (nI 0), .int (nI 0), .int (nI 0), .ref m_mixed, .ref m_signs, .int (nI 0), .int (nI 0), .ref m_places, .int (nI 0), .int (nI 0), .int (nI 0), .int (nI 0), .ref m_row, .ref m_lost, .ref m_powers, .ref m_sums, .ref m_counted, .ref m_gone, .ref m_above, .ref m_below, .ref m_old, .ref m_now, .ref m_work, .ref m_isWrong, .ref m_out, .int (nI 0), .ref m_digits, .int (nI 0)], oc_i g m_tape 1220 f_14] := hD
              refine lv_iinc (k := 7) (lv' := [(6, .int (nI (i + 1))), (7, .int x4), (0, .ref h), (1, .int x1), (2, .int x2), (3, .int x3), (4, .int x4), (5, .int x5)]) hx hb dd_MO_feed_118 hl rfl (xi_inc _) (by decide) rfl (fun ls hl => ?_)
              refine lv_goto (tgt := 34) hx hb dd_MO_feed_121 rfl ?_
              exact ih3 _ (by omega) (i + 1) f_14 H locs ls rfl (by omega) (lv_sub hl [2, 3, 4, 5, 6, 7, 0] rfl) (hP.sub [0, 1] rfl) (hD.sub [0, 1] (by decide) rfl) hS
          · refine lv_iload_n hx hb dd_MO_feed_69 rfl (lv_at hl 3 rfl) ?_
            refine lv_goto (tgt := 87) hx hb dd_MO_feed_70 rfl ?_
            refine lv_istore (lv' := [(7, .int x3), (0, .ref h), (1, .int x1), (2, .int x2), (3, .int x3), (4, .int x4), (5, .int x5), (6, .int (nI i))]) hx hb dd_MO_feed_87 hl (by decide) rfl (fun ls hl => ?_)
            refine lv_aload_n hx hb dd_MO_feed_89 rfl (lv_at hl 1 rfl) ?_
            refine gf_MO_7 hx hb hts hown hK hP 0 rfl rfl dd_MO_feed_90 ?_
            refine lv_aload_n hx hb dd_MO_feed_93 rfl (lv_at hl 1 rfl) ?_
            refine gf_MO_72 hx hb hts hown hK hP 0 rfl rfl dd_MO_feed_94 ?_
            refine lv_iload hx hb dd_MO_feed_97 (lv_at hl 7 rfl) ?_
            refine xi_iadd hx hb dd_MO_feed_99 (xi_eq (v := nI i) (by rw [Nat.zero_add]) ?_)
            refine lv_iload hx hb dd_MO_feed_100 (lv_at hl 0 rfl) ?_
            refine lv_bipush (v := nI 24) hx hb dd_MO_feed_102 (by decide) ?_
            refine lv_bipush (v := nI 8) hx hb dd_MO_feed_104 (by decide) ?_
            refine lv_iload hx hb dd_MO_feed_106 (lv_at hl 7 rfl) ?_
            refine lv_iconst (v := nI 4) hx hb dd_MO_feed_108 (by decide) ?_
            refine xi_irem hx hb (by omega) (by omega) (by omega) dd_MO_feed_109 ?_
            refine xi_imul hx hb dd_MO_feed_110 ?_
            refine xi_isub hx hb (by omega) dd_MO_feed_111 ?_
            refine lv_ishr hx hb dd_MO_feed_112 (lv_topi (fun x_15 _ => ?_))
            refine lv_sipush (v := nI 255) hx hb dd_MO_feed_113 (by decide) ?_
            refine lv_iand hx hb dd_MO_feed_116 (lv_topi (fun x_16 _ => ?_))
            refine xa_st hx hb hK hP hD hS 1 rfl (j := i) (by omega) (by omega) dd_MO_feed_117 (fun f_17 H locs hP hD hS => ?_)
            have hP : va_P g.1 vwCl [oc_o h 11 [.int (nI 0), .ref m_tape, .int (nI 0), .ref m_words, .int (nI 0), .int (nI 0), .int (nI 0), .ref m_mixed, .ref m_signs, .int (nI 0), .int (nI 0), .ref m_places, .int (nI 0), .int (nI 0), .int (nI 0), .int (nI 0), .ref m_row, .ref m_lost, .ref m_powers, .ref m_sums, .ref m_counted, .ref m_gone, .ref m_above, .ref m_below, .ref m_old, .ref m_now, .ref m_work, .ref m_isWrong, .ref m_out, .int (nI 0), .ref m_digits, .int (nI 0)], oc_i g m_tape 1220 f_17] H := hP
            have hD : va_D A [oc_o h 11 [.int (nI 0), .ref m_tape, .int (nI 0), .ref m_words, .int (nI 0), .int (nI 0), .int (nI 0), .ref m_mixed, .ref m_signs, .int (nI 0), .int (nI 0), .ref m_places, .int (nI 0), .int (nI 0), .int (nI 0), .int (nI 0), .ref m_row, .ref m_lost, .ref m_powers, .ref m_sums, .ref m_counted, .ref m_gone, .ref m_above, .ref m_below, .ref m_old, .ref m_now, .ref m_work, .ref m_isWrong, .ref m_out, .int (nI 0), .ref m_digits, .int (nI 0)], oc_i g m_tape 1220 f_17] := hD
            refine lv_iinc (k := 7) (lv' := [(6, .int (nI (i + 1))), (7, .int x3), (0, .ref h), (1, .int x1), (2, .int x2), (3, .int x3), (4, .int x4), (5, .int x5)]) hx hb dd_MO_feed_118 hl rfl (xi_inc _) (by decide) rfl (fun ls hl => ?_)
            refine lv_goto (tgt := 34) hx hb dd_MO_feed_121 rfl ?_
            exact ih3 _ (by omega) (i + 1) f_17 H locs ls rfl (by omega) (lv_sub hl [2, 3, 4, 5, 6, 7, 0] rfl) (hP.sub [0, 1] rfl) (hD.sub [0, 1] (by decide) rfl) hS
        · refine lv_iload_n hx hb dd_MO_feed_58 rfl (lv_at hl 2 rfl) ?_
          refine lv_goto (tgt := 87) hx hb dd_MO_feed_59 rfl ?_
          refine lv_istore (lv' := [(7, .int x2), (0, .ref h), (1, .int x1), (2, .int x2), (3, .int x3), (4, .int x4), (5, .int x5), (6, .int (nI i))]) hx hb dd_MO_feed_87 hl (by decide) rfl (fun ls hl => ?_)
          refine lv_aload_n hx hb dd_MO_feed_89 rfl (lv_at hl 1 rfl) ?_
          refine gf_MO_7 hx hb hts hown hK hP 0 rfl rfl dd_MO_feed_90 ?_
          refine lv_aload_n hx hb dd_MO_feed_93 rfl (lv_at hl 1 rfl) ?_
          refine gf_MO_72 hx hb hts hown hK hP 0 rfl rfl dd_MO_feed_94 ?_
          refine lv_iload hx hb dd_MO_feed_97 (lv_at hl 7 rfl) ?_
          refine xi_iadd hx hb dd_MO_feed_99 (xi_eq (v := nI i) (by rw [Nat.zero_add]) ?_)
          refine lv_iload hx hb dd_MO_feed_100 (lv_at hl 0 rfl) ?_
          refine lv_bipush (v := nI 24) hx hb dd_MO_feed_102 (by decide) ?_
          refine lv_bipush (v := nI 8) hx hb dd_MO_feed_104 (by decide) ?_
          refine lv_iload hx hb dd_MO_feed_106 (lv_at hl 7 rfl) ?_
          refine lv_iconst (v := nI 4) hx hb dd_MO_feed_108 (by decide) ?_
          refine xi_irem hx hb (by omega) (by omega) (by omega) dd_MO_feed_109 ?_
          refine xi_imul hx hb dd_MO_feed_110 ?_
          refine xi_isub hx hb (by omega) dd_MO_feed_111 ?_
          refine lv_ishr hx hb dd_MO_feed_112 (lv_topi (fun x_18 _ => ?_))
          refine lv_sipush (v := nI 255) hx hb dd_MO_feed_113 (by decide) ?_
          refine lv_iand hx hb dd_MO_feed_116 (lv_topi (fun x_19 _ => ?_))
          refine xa_st hx hb hK hP hD hS 1 rfl (j := i) (by omega) (by omega) dd_MO_feed_117 (fun f_20 H locs hP hD hS => ?_)
          have hP : va_P g.1 vwCl [oc_o h 11 [.int (nI 0), .ref m_tape, .int (nI 0), .ref m_words, .int (nI 0), .int (nI 0), .int (nI 0), .ref m_mixed, .ref m_signs, .int (nI 0), .int (nI 0), .ref m_places, .int (nI 0), .int (nI 0), .int (nI 0), .int (nI 0), .ref m_row, .ref m_lost, .ref m_powers, .ref m_sums, .ref m_counted, .ref m_gone, .ref m_above, .ref m_below, .ref m_old, .ref m_now, .ref m_work, .ref m_isWrong, .ref m_out, .int (nI 0), .ref m_digits, .int (nI 0)], oc_i g m_tape 1220 f_20] H := hP
          have hD : va_D A [oc_o h 11 [.int (nI 0), .ref m_tape, .int (nI 0), .ref m_words, .int (nI 0), .int (nI 0), .int (nI 0), .ref m_mixed, .ref m_signs, .int (nI 0), .int (nI 0), .ref m_places, .int (nI 0), .int (nI 0), .int (nI 0), .int (nI 0), .ref m_row, .ref m_lost, .ref m_powers, .ref m_sums, .ref m_counted, .ref m_gone, .ref m_above, .ref m_below, .ref m_old, .ref m_now, .ref m_work, .ref m_isWrong, .ref m_out, .int (nI 0), .ref m_digits, .int (nI 0)], oc_i g m_tape 1220 f_20] := hD
          refine lv_iinc (k := 7) (lv' := [(6, .int (nI (i + 1))), (7, .int x2), (0, .ref h), (1, .int x1), (2, .int x2), (3, .int x3), (4, .int x4), (5, .int x5)]) hx hb dd_MO_feed_118 hl rfl (xi_inc _) (by decide) rfl (fun ls hl => ?_)
          refine lv_goto (tgt := 34) hx hb dd_MO_feed_121 rfl ?_
          exact ih3 _ (by omega) (i + 1) f_20 H locs ls rfl (by omega) (lv_sub hl [2, 3, 4, 5, 6, 7, 0] rfl) (hP.sub [0, 1] rfl) (hD.sub [0, 1] (by decide) rfl) hS
      · refine lv_iload_n hx hb dd_MO_feed_47 rfl (lv_at hl 1 rfl) ?_
        refine lv_goto (tgt := 87) hx hb dd_MO_feed_48 rfl ?_
        refine lv_istore (lv' := [(7, .int x1), (0, .ref h), (1, .int x1), (2, .int x2), (3, .int x3), (4, .int x4), (5, .int x5), (6, .int (nI i))]) hx hb dd_MO_feed_87 hl (by decide) rfl (fun ls hl => ?_)
        refine lv_aload_n hx hb dd_MO_feed_89 rfl (lv_at hl 1 rfl) ?_
        refine gf_MO_7 hx hb hts hown hK hP 0 rfl rfl dd_MO_feed_90 ?_
        refine lv_aload_n hx hb dd_MO_feed_93 rfl (lv_at hl 1 rfl) ?_
        refine gf_MO_72 hx hb hts hown hK hP 0 rfl rfl dd_MO_feed_94 ?_
        refine lv_iload hx hb dd_MO_feed_97 (lv_at hl 7 rfl) ?_
        refine xi_iadd hx hb dd_MO_feed_99 (xi_eq (v := nI i) (by rw [Nat.zero_add]) ?_)
        refine lv_iload hx hb dd_MO_feed_100 (lv_at hl 0 rfl) ?_
        refine lv_bipush (v := nI 24) hx hb dd_MO_feed_102 (by decide) ?_
        refine lv_bipush (v := nI 8) hx hb dd_MO_feed_104 (by decide) ?_
        refine lv_iload hx hb dd_MO_feed_106 (lv_at hl 7 rfl) ?_
        refine lv_iconst (v := nI 4) hx hb dd_MO_feed_108 (by decide) ?_
        refine xi_irem hx hb (by omega) (by omega) (by omega) dd_MO_feed_109 ?_
        refine xi_imul hx hb dd_MO_feed_110 ?_
        refine xi_isub hx hb (by omega) dd_MO_feed_111 ?_
        refine lv_ishr hx hb dd_MO_feed_112 (lv_topi (fun x_21 _ => ?_))
        refine lv_sipush (v := nI 255) hx hb dd_MO_feed_113 (by decide) ?_
        refine lv_iand hx hb dd_MO_feed_116 (lv_topi (fun x_22 _ => ?_))
        refine xa_st hx hb hK hP hD hS 1 rfl (j := i) (by omega) (by omega) dd_MO_feed_117 (fun f_23 H locs hP hD hS => ?_)
        have hP : va_P g.1 vwCl [oc_o h 11 [.int (nI 0), .ref m_tape, .int (nI 0), .ref m_words, .int (nI 0), .int (nI 0), .int (nI 0), .ref m_mixed, .ref m_signs, .int (nI 0), .int (nI 0), .ref m_places, .int (nI 0), .int (nI 0), .int (nI 0), .int (nI 0), .ref m_row, .ref m_lost, .ref m_powers, .ref m_sums, .ref m_counted, .ref m_gone, .ref m_above, .ref m_below, .ref m_old, .ref m_now, .ref m_work, .ref m_isWrong, .ref m_out, .int (nI 0), .ref m_digits, .int (nI 0)], oc_i g m_tape 1220 f_23] H := hP
        have hD : va_D A [oc_o h 11 [.int (nI 0), .ref m_tape, .int (nI 0), .ref m_words, .int (nI 0), .int (nI 0), .int (nI 0), .ref m_mixed, .ref m_signs, .int (nI 0), .int (nI 0), .ref m_places, .int (nI 0), .int (nI 0), .int (nI 0), .int (nI 0), .ref m_row, .ref m_lost, .ref m_powers, .ref m_sums, .ref m_counted, .ref m_gone, .ref m_above, .ref m_below, .ref m_old, .ref m_now, .ref m_work, .ref m_isWrong, .ref m_out, .int (nI 0), .ref m_digits, .int (nI 0)], oc_i g m_tape 1220 f_23] := hD
        refine lv_iinc (k := 7) (lv' := [(6, .int (nI (i + 1))), (7, .int x1), (0, .ref h), (1, .int x1), (2, .int x2), (3, .int x3), (4, .int x4), (5, .int x5)]) hx hb dd_MO_feed_118 hl rfl (xi_inc _) (by decide) rfl (fun ls hl => ?_)
        refine lv_goto (tgt := 34) hx hb dd_MO_feed_121 rfl ?_
        exact ih3 _ (by omega) (i + 1) f_23 H locs ls rfl (by omega) (lv_sub hl [2, 3, 4, 5, 6, 7, 0] rfl) (hP.sub [0, 1] rfl) (hD.sub [0, 1] (by decide) rfl) hS
  exact lp_3 _ 0 f_tape H locs ls rfl (by omega) (lv_sub hl [1, 2, 3, 4, 5, 6, 0] rfl) (hP.sub [0, 1] rfl) (hD.sub [0, 1] (by decide) rfl) hS

set_option maxHeartbeats 4000000 in
set_option maxRecDepth 100000 in
theorem cm_end0 (l : Launch) (g : xg_G) (h : Nat) (m_tape : Nat) (m_words : Nat) (m_mixed : Nat) (m_signs : Nat) (m_places : Nat) (m_row : Nat) (m_lost : Nat) (m_powers : Nat) (m_sums : Nat) (m_counted : Nat) (m_gone : Nat) (m_above : Nat) (m_below : Nat) (m_old : Nat) (m_now : Nat) (m_work : Nat) (m_isWrong : Nat) (m_out : Nat) (m_digits : Nat) : kc_V l yy_MO_end cd_MO_end 2 { frames := 0, cells := 0, slots := 0, locals := 0 } g [.ref h, .int (nI 0)] [oc_o h 11 [.int (nI 0), .ref m_tape, .int (nI 0), .ref m_words, .int (nI 0), .int (nI 0), .int (nI 0), .ref m_mixed, .ref m_signs, .int (nI 0), .int (nI 0), .ref m_places, .int (nI 0), .int (nI 0), .int (nI 0), .int (nI 0), .ref m_row, .ref m_lost, .ref m_powers, .ref m_sums, .ref m_counted, .ref m_gone, .ref m_above, .ref m_below, .ref m_old, .ref m_now, .ref m_work, .ref m_isWrong, .ref m_out, .int (nI 0), .ref m_digits, .int (nI 0)]] (S := Unit) (fun _ => True) (fun _ => [oc_o h 11 [.int (nI 0), .ref m_tape, .int (nI 0), .ref m_words, .int (nI 0), .int (nI 0), .int (nI 0), .ref m_mixed, .ref m_signs, .int (nI 0), .int (nI 0), .ref m_places, .int (nI 0), .int (nI 0), .int (nI 0), .int (nI 0), .ref m_row, .ref m_lost, .ref m_powers, .ref m_sums, .ref m_counted, .ref m_gone, .ref m_above, .ref m_below, .ref m_old, .ref m_now, .ref m_work, .ref m_isWrong, .ref m_out, .int (nI 0), .ref m_digits, .int (nI 0)]]) := by
  refine kc_Vof (by decide) (Nat.le_of_ble_eq_true rfl) ?_
  intro p e s m args below meth c A ls Q H locs hQ hB hP hS
  obtain ⟨hx, hb, hr, hlk, hin, hml, hown, hts, hA, hK, hD, hE, hl⟩ := hB
  have hF : xf_F g p m c cd_MO_end 2 s args "StackedRowsModel" A := ⟨⟨hx, hb, hml, hown, hts⟩, hE, hK, hA⟩
  have hl : lv_has ls 2 [(0, .ref h), (1, .int (nI 0))] := hl
  have hown : s.vm.findClass "StackedRowsModel" = some m.cls := hown
  refine lv_aload_n hx hb dd_MO_end_0 rfl (lv_at hl 0 rfl) ?_
  refine lv_iload_n hx hb dd_MO_end_1 rfl (lv_at hl 1 rfl) ?_
  refine lv_if_lt (tgt := 17) hx hb dd_MO_end_2 rfl (fun h_1 => absurd h_1 (by decide)) (fun _ => ?_)
  refine lv_iload_n hx hb dd_MO_end_5 rfl (lv_at hl 1 rfl) ?_
  refine lv_aload_n hx hb dd_MO_end_6 rfl (lv_at hl 0 rfl) ?_
  refine gf_MO_72 hx hb hts hown hK hP 0 rfl rfl dd_MO_end_7 ?_
  refine lv_icmp_gt (tgt := 17) hx hb dd_MO_end_10 rfl (fun h_2 => absurd h_2 (by decide)) (fun _ => ?_)
  refine lv_iconst (v := nI 0) hx hb dd_MO_end_13 (by decide) ?_
  refine lv_goto (tgt := 18) hx hb dd_MO_end_14 rfl ?_
  refine pf_MO_68 hx hb hts hown hK hP hD hS 0 rfl rfl rfl (Nat.le_of_ble_eq_true rfl) dd_MO_end_18 (fun H locs hP hD hS => ?_)
  have hP : va_P g.1 vwCl [oc_o h 11 [.int (nI 0), .ref m_tape, .int (nI 0), .ref m_words, .int (nI 0), .int (nI 0), .int (nI 0), .ref m_mixed, .ref m_signs, .int (nI 0), .int (nI 0), .ref m_places, .int (nI 0), .int (nI 0), .int (nI 0), .int (nI 0), .ref m_row, .ref m_lost, .ref m_powers, .ref m_sums, .ref m_counted, .ref m_gone, .ref m_above, .ref m_below, .ref m_old, .ref m_now, .ref m_work, .ref m_isWrong, .ref m_out, .int (nI 0), .ref m_digits, .int (nI 0)]] H := hP
  have hD : va_D A [oc_o h 11 [.int (nI 0), .ref m_tape, .int (nI 0), .ref m_words, .int (nI 0), .int (nI 0), .int (nI 0), .ref m_mixed, .ref m_signs, .int (nI 0), .int (nI 0), .ref m_places, .int (nI 0), .int (nI 0), .int (nI 0), .int (nI 0), .ref m_row, .ref m_lost, .ref m_powers, .ref m_sums, .ref m_counted, .ref m_gone, .ref m_above, .ref m_below, .ref m_old, .ref m_now, .ref m_work, .ref m_isWrong, .ref m_out, .int (nI 0), .ref m_digits, .int (nI 0)]] := hD
  refine lv_aload_n hx hb dd_MO_end_21 rfl (lv_at hl 0 rfl) ?_
  refine lv_aload_n hx hb dd_MO_end_22 rfl (lv_at hl 0 rfl) ?_
  refine gf_MO_68 hx hb hts hown hK hP 0 rfl rfl dd_MO_end_23 ?_
  refine lv_if_le (tgt := 36) hx hb dd_MO_end_26 rfl (fun _ => ?_) (fun h_3 => absurd (by decide) h_3)
  refine lv_iload_n hx hb dd_MO_end_36 rfl (lv_at hl 1 rfl) ?_
  refine pf_MO_72 hx hb hts hown hK hP hD hS 0 rfl rfl rfl (Nat.le_of_ble_eq_true rfl) dd_MO_end_37 (fun H locs hP hD hS => ?_)
  have hP : va_P g.1 vwCl [oc_o h 11 [.int (nI 0), .ref m_tape, .int (nI 0), .ref m_words, .int (nI 0), .int (nI 0), .int (nI 0), .ref m_mixed, .ref m_signs, .int (nI 0), .int (nI 0), .ref m_places, .int (nI 0), .int (nI 0), .int (nI 0), .int (nI 0), .ref m_row, .ref m_lost, .ref m_powers, .ref m_sums, .ref m_counted, .ref m_gone, .ref m_above, .ref m_below, .ref m_old, .ref m_now, .ref m_work, .ref m_isWrong, .ref m_out, .int (nI 0), .ref m_digits, .int (nI 0)]] H := hP
  have hD : va_D A [oc_o h 11 [.int (nI 0), .ref m_tape, .int (nI 0), .ref m_words, .int (nI 0), .int (nI 0), .int (nI 0), .ref m_mixed, .ref m_signs, .int (nI 0), .int (nI 0), .ref m_places, .int (nI 0), .int (nI 0), .int (nI 0), .int (nI 0), .ref m_row, .ref m_lost, .ref m_powers, .ref m_sums, .ref m_counted, .ref m_gone, .ref m_above, .ref m_below, .ref m_old, .ref m_now, .ref m_work, .ref m_isWrong, .ref m_out, .int (nI 0), .ref m_digits, .int (nI 0)]] := hD
  exact xr_v hx hb hr hlk hQ hP hD hS () trivial [0] (by decide) rfl (Nat.le_of_ble_eq_true rfl) (Nat.le_of_ble_eq_true rfl) dd_MO_end_40

set_option maxHeartbeats 4000000 in
set_option maxRecDepth 100000 in
theorem cm_endT (l : Launch) (g : xg_G) (h : Nat) (m_tape : Nat) (m_words : Nat) (m_mixed : Nat) (m_signs : Nat) (m_places : Nat) (m_row : Nat) (m_lost : Nat) (m_powers : Nat) (m_sums : Nat) (m_counted : Nat) (m_gone : Nat) (m_above : Nat) (m_below : Nat) (m_old : Nat) (m_now : Nat) (m_work : Nat) (m_isWrong : Nat) (m_out : Nat) (m_digits : Nat) (x1 : Int32) (qx : x1.toInt < 0 ∨ 0 < x1.toInt) : kc_V l yy_MO_end cd_MO_end 2 { frames := 0, cells := 0, slots := 0, locals := 0 } g [.ref h, .int x1] [oc_o h 11 [.int (nI 0), .ref m_tape, .int (nI 0), .ref m_words, .int (nI 0), .int (nI 0), .int (nI 0), .ref m_mixed, .ref m_signs, .int (nI 0), .int (nI 0), .ref m_places, .int (nI 0), .int (nI 0), .int (nI 0), .int (nI 0), .ref m_row, .ref m_lost, .ref m_powers, .ref m_sums, .ref m_counted, .ref m_gone, .ref m_above, .ref m_below, .ref m_old, .ref m_now, .ref m_work, .ref m_isWrong, .ref m_out, .int (nI 0), .ref m_digits, .int (nI 0)]] (S := Unit) (fun _ => True) (fun _ => [oc_o h 11 [.int (nI 1), .ref m_tape, .int (nI 0), .ref m_words, .int (nI 0), .int (nI 0), .int (nI 0), .ref m_mixed, .ref m_signs, .int (nI 0), .int (nI 0), .ref m_places, .int (nI 0), .int (nI 0), .int (nI 0), .int (nI 0), .ref m_row, .ref m_lost, .ref m_powers, .ref m_sums, .ref m_counted, .ref m_gone, .ref m_above, .ref m_below, .ref m_old, .ref m_now, .ref m_work, .ref m_isWrong, .ref m_out, .int (nI 0), .ref m_digits, .int (nI 0)]]) := by
  refine kc_Vof (by decide) (Nat.le_of_ble_eq_true rfl) ?_
  intro p e s m args below meth c A ls Q H locs hQ hB hP hS
  obtain ⟨hx, hb, hr, hlk, hin, hml, hown, hts, hA, hK, hD, hE, hl⟩ := hB
  have hF : xf_F g p m c cd_MO_end 2 s args "StackedRowsModel" A := ⟨⟨hx, hb, hml, hown, hts⟩, hE, hK, hA⟩
  have hl : lv_has ls 2 [(0, .ref h), (1, .int x1)] := hl
  have hown : s.vm.findClass "StackedRowsModel" = some m.cls := hown
  refine lv_aload_n hx hb dd_MO_end_0 rfl (lv_at hl 0 rfl) ?_
  refine lv_iload_n hx hb dd_MO_end_1 rfl (lv_at hl 1 rfl) ?_
  refine xb_r0lt (tgt := 17) hx hb dd_MO_end_2 rfl (fun h_1 => ?_) (fun h_1 => ?_)
  · refine lv_iconst (v := nI 1) hx hb dd_MO_end_17 (by decide) ?_
    refine pf_MO_68 hx hb hts hown hK hP hD hS 0 rfl rfl rfl (Nat.le_of_ble_eq_true rfl) dd_MO_end_18 (fun H locs hP hD hS => ?_)
    have hP : va_P g.1 vwCl [oc_o h 11 [.int (nI 1), .ref m_tape, .int (nI 0), .ref m_words, .int (nI 0), .int (nI 0), .int (nI 0), .ref m_mixed, .ref m_signs, .int (nI 0), .int (nI 0), .ref m_places, .int (nI 0), .int (nI 0), .int (nI 0), .int (nI 0), .ref m_row, .ref m_lost, .ref m_powers, .ref m_sums, .ref m_counted, .ref m_gone, .ref m_above, .ref m_below, .ref m_old, .ref m_now, .ref m_work, .ref m_isWrong, .ref m_out, .int (nI 0), .ref m_digits, .int (nI 0)]] H := hP
    have hD : va_D A [oc_o h 11 [.int (nI 1), .ref m_tape, .int (nI 0), .ref m_words, .int (nI 0), .int (nI 0), .int (nI 0), .ref m_mixed, .ref m_signs, .int (nI 0), .int (nI 0), .ref m_places, .int (nI 0), .int (nI 0), .int (nI 0), .int (nI 0), .ref m_row, .ref m_lost, .ref m_powers, .ref m_sums, .ref m_counted, .ref m_gone, .ref m_above, .ref m_below, .ref m_old, .ref m_now, .ref m_work, .ref m_isWrong, .ref m_out, .int (nI 0), .ref m_digits, .int (nI 0)]] := hD
    refine lv_aload_n hx hb dd_MO_end_21 rfl (lv_at hl 0 rfl) ?_
    refine lv_aload_n hx hb dd_MO_end_22 rfl (lv_at hl 0 rfl) ?_
    refine gf_MO_68 hx hb hts hown hK hP 0 rfl rfl dd_MO_end_23 ?_
    refine lv_if_le (tgt := 36) hx hb dd_MO_end_26 rfl (fun h_2 => absurd h_2 (by decide)) (fun _ => ?_)
    refine lv_aload_n hx hb dd_MO_end_29 rfl (lv_at hl 0 rfl) ?_
    refine gf_MO_72 hx hb hts hown hK hP 0 rfl rfl dd_MO_end_30 ?_
    refine lv_goto (tgt := 37) hx hb dd_MO_end_33 rfl ?_
    refine pf_MO_72 hx hb hts hown hK hP hD hS 0 rfl rfl rfl (Nat.le_of_ble_eq_true rfl) dd_MO_end_37 (fun H locs hP hD hS => ?_)
    have hP : va_P g.1 vwCl [oc_o h 11 [.int (nI 1), .ref m_tape, .int (nI 0), .ref m_words, .int (nI 0), .int (nI 0), .int (nI 0), .ref m_mixed, .ref m_signs, .int (nI 0), .int (nI 0), .ref m_places, .int (nI 0), .int (nI 0), .int (nI 0), .int (nI 0), .ref m_row, .ref m_lost, .ref m_powers, .ref m_sums, .ref m_counted, .ref m_gone, .ref m_above, .ref m_below, .ref m_old, .ref m_now, .ref m_work, .ref m_isWrong, .ref m_out, .int (nI 0), .ref m_digits, .int (nI 0)]] H := hP
    have hD : va_D A [oc_o h 11 [.int (nI 1), .ref m_tape, .int (nI 0), .ref m_words, .int (nI 0), .int (nI 0), .int (nI 0), .ref m_mixed, .ref m_signs, .int (nI 0), .int (nI 0), .ref m_places, .int (nI 0), .int (nI 0), .int (nI 0), .int (nI 0), .ref m_row, .ref m_lost, .ref m_powers, .ref m_sums, .ref m_counted, .ref m_gone, .ref m_above, .ref m_below, .ref m_old, .ref m_now, .ref m_work, .ref m_isWrong, .ref m_out, .int (nI 0), .ref m_digits, .int (nI 0)]] := hD
    exact xr_v hx hb hr hlk hQ hP hD hS () trivial [0] (by decide) rfl (Nat.le_of_ble_eq_true rfl) (Nat.le_of_ble_eq_true rfl) dd_MO_end_40
  · refine lv_iload_n hx hb dd_MO_end_5 rfl (lv_at hl 1 rfl) ?_
    refine lv_aload_n hx hb dd_MO_end_6 rfl (lv_at hl 0 rfl) ?_
    refine gf_MO_72 hx hb hts hown hK hP 0 rfl rfl dd_MO_end_7 ?_
    refine xb_rgt (tgt := 17) hx hb (by omega) dd_MO_end_10 rfl (fun h_3 => ?_) (fun h_3 => False.elim (by omega))
    refine lv_iconst (v := nI 1) hx hb dd_MO_end_17 (by decide) ?_
    refine pf_MO_68 hx hb hts hown hK hP hD hS 0 rfl rfl rfl (Nat.le_of_ble_eq_true rfl) dd_MO_end_18 (fun H locs hP hD hS => ?_)
    have hP : va_P g.1 vwCl [oc_o h 11 [.int (nI 1), .ref m_tape, .int (nI 0), .ref m_words, .int (nI 0), .int (nI 0), .int (nI 0), .ref m_mixed, .ref m_signs, .int (nI 0), .int (nI 0), .ref m_places, .int (nI 0), .int (nI 0), .int (nI 0), .int (nI 0), .ref m_row, .ref m_lost, .ref m_powers, .ref m_sums, .ref m_counted, .ref m_gone, .ref m_above, .ref m_below, .ref m_old, .ref m_now, .ref m_work, .ref m_isWrong, .ref m_out, .int (nI 0), .ref m_digits, .int (nI 0)]] H := hP
    have hD : va_D A [oc_o h 11 [.int (nI 1), .ref m_tape, .int (nI 0), .ref m_words, .int (nI 0), .int (nI 0), .int (nI 0), .ref m_mixed, .ref m_signs, .int (nI 0), .int (nI 0), .ref m_places, .int (nI 0), .int (nI 0), .int (nI 0), .int (nI 0), .ref m_row, .ref m_lost, .ref m_powers, .ref m_sums, .ref m_counted, .ref m_gone, .ref m_above, .ref m_below, .ref m_old, .ref m_now, .ref m_work, .ref m_isWrong, .ref m_out, .int (nI 0), .ref m_digits, .int (nI 0)]] := hD
    refine lv_aload_n hx hb dd_MO_end_21 rfl (lv_at hl 0 rfl) ?_
    refine lv_aload_n hx hb dd_MO_end_22 rfl (lv_at hl 0 rfl) ?_
    refine gf_MO_68 hx hb hts hown hK hP 0 rfl rfl dd_MO_end_23 ?_
    refine lv_if_le (tgt := 36) hx hb dd_MO_end_26 rfl (fun h_4 => absurd h_4 (by decide)) (fun _ => ?_)
    refine lv_aload_n hx hb dd_MO_end_29 rfl (lv_at hl 0 rfl) ?_
    refine gf_MO_72 hx hb hts hown hK hP 0 rfl rfl dd_MO_end_30 ?_
    refine lv_goto (tgt := 37) hx hb dd_MO_end_33 rfl ?_
    refine pf_MO_72 hx hb hts hown hK hP hD hS 0 rfl rfl rfl (Nat.le_of_ble_eq_true rfl) dd_MO_end_37 (fun H locs hP hD hS => ?_)
    have hP : va_P g.1 vwCl [oc_o h 11 [.int (nI 1), .ref m_tape, .int (nI 0), .ref m_words, .int (nI 0), .int (nI 0), .int (nI 0), .ref m_mixed, .ref m_signs, .int (nI 0), .int (nI 0), .ref m_places, .int (nI 0), .int (nI 0), .int (nI 0), .int (nI 0), .ref m_row, .ref m_lost, .ref m_powers, .ref m_sums, .ref m_counted, .ref m_gone, .ref m_above, .ref m_below, .ref m_old, .ref m_now, .ref m_work, .ref m_isWrong, .ref m_out, .int (nI 0), .ref m_digits, .int (nI 0)]] H := hP
    have hD : va_D A [oc_o h 11 [.int (nI 1), .ref m_tape, .int (nI 0), .ref m_words, .int (nI 0), .int (nI 0), .int (nI 0), .ref m_mixed, .ref m_signs, .int (nI 0), .int (nI 0), .ref m_places, .int (nI 0), .int (nI 0), .int (nI 0), .int (nI 0), .ref m_row, .ref m_lost, .ref m_powers, .ref m_sums, .ref m_counted, .ref m_gone, .ref m_above, .ref m_below, .ref m_old, .ref m_now, .ref m_work, .ref m_isWrong, .ref m_out, .int (nI 0), .ref m_digits, .int (nI 0)]] := hD
    exact xr_v hx hb hr hlk hQ hP hD hS () trivial [0] (by decide) rfl (Nat.le_of_ble_eq_true rfl) (Nat.le_of_ble_eq_true rfl) dd_MO_end_40

set_option maxHeartbeats 4000000 in
set_option maxRecDepth 100000 in
theorem cm_byteT (l : Launch) (g : xg_G) (h : Nat) (m_tape : Nat) (m_words : Nat) (m_mixed : Nat) (m_signs : Nat) (m_places : Nat) (m_row : Nat) (m_lost : Nat) (m_powers : Nat) (m_sums : Nat) (m_counted : Nat) (m_gone : Nat) (m_above : Nat) (m_below : Nat) (m_old : Nat) (m_now : Nat) (m_work : Nat) (m_isWrong : Nat) (m_out : Nat) (m_digits : Nat) (x1 : Int32) : kc_I l yy_MO_byteAt cd_MO_byteAt 2 .int { frames := 0, cells := 0, slots := 0, locals := 0 } g [.ref h, .int x1] [oc_o h 11 [.int (nI 0), .ref m_tape, .int (nI 0), .ref m_words, .int (nI 0), .int (nI 0), .int (nI 0), .ref m_mixed, .ref m_signs, .int (nI 0), .int (nI 0), .ref m_places, .int (nI 0), .int (nI 0), .int (nI 0), .int (nI 0), .ref m_row, .ref m_lost, .ref m_powers, .ref m_sums, .ref m_counted, .ref m_gone, .ref m_above, .ref m_below, .ref m_old, .ref m_now, .ref m_work, .ref m_isWrong, .ref m_out, .int (nI 0), .ref m_digits, .int (nI 0)]] (S := Unit) (fun _ _ => True) (fun _ => [oc_o h 11 [.int (nI 1), .ref m_tape, .int (nI 0), .ref m_words, .int (nI 0), .int (nI 0), .int (nI 0), .ref m_mixed, .ref m_signs, .int (nI 0), .int (nI 0), .ref m_places, .int (nI 0), .int (nI 0), .int (nI 0), .int (nI 0), .ref m_row, .ref m_lost, .ref m_powers, .ref m_sums, .ref m_counted, .ref m_gone, .ref m_above, .ref m_below, .ref m_old, .ref m_now, .ref m_work, .ref m_isWrong, .ref m_out, .int (nI 0), .ref m_digits, .int (nI 0)]]) := by
  refine kc_Iof (by decide) (Nat.le_of_ble_eq_true rfl) ?_
  intro p e s m args below meth c A ls Q H locs hQ hB hP hS
  obtain ⟨hx, hb, hr, hlk, hin, hml, hown, hts, hA, hK, hD, hE, hl⟩ := hB
  have hF : xf_F g p m c cd_MO_byteAt 2 s args "StackedRowsModel" A := ⟨⟨hx, hb, hml, hown, hts⟩, hE, hK, hA⟩
  have hl : lv_has ls 2 [(0, .ref h), (1, .int x1)] := hl
  have hown : s.vm.findClass "StackedRowsModel" = some m.cls := hown
  refine lv_aload_n hx hb dd_MO_byteAt_0 rfl (lv_at hl 0 rfl) ?_
  refine lv_iload_n hx hb dd_MO_byteAt_1 rfl (lv_at hl 1 rfl) ?_
  refine xb_r0lt (tgt := 17) hx hb dd_MO_byteAt_2 rfl (fun h_1 => ?_) (fun h_1 => ?_)
  · refine lv_iconst (v := nI 1) hx hb dd_MO_byteAt_17 (by decide) ?_
    refine pf_MO_68 hx hb hts hown hK hP hD hS 0 rfl rfl rfl (Nat.le_of_ble_eq_true rfl) dd_MO_byteAt_18 (fun H locs hP hD hS => ?_)
    have hP : va_P g.1 vwCl [oc_o h 11 [.int (nI 1), .ref m_tape, .int (nI 0), .ref m_words, .int (nI 0), .int (nI 0), .int (nI 0), .ref m_mixed, .ref m_signs, .int (nI 0), .int (nI 0), .ref m_places, .int (nI 0), .int (nI 0), .int (nI 0), .int (nI 0), .ref m_row, .ref m_lost, .ref m_powers, .ref m_sums, .ref m_counted, .ref m_gone, .ref m_above, .ref m_below, .ref m_old, .ref m_now, .ref m_work, .ref m_isWrong, .ref m_out, .int (nI 0), .ref m_digits, .int (nI 0)]] H := hP
    have hD : va_D A [oc_o h 11 [.int (nI 1), .ref m_tape, .int (nI 0), .ref m_words, .int (nI 0), .int (nI 0), .int (nI 0), .ref m_mixed, .ref m_signs, .int (nI 0), .int (nI 0), .ref m_places, .int (nI 0), .int (nI 0), .int (nI 0), .int (nI 0), .ref m_row, .ref m_lost, .ref m_powers, .ref m_sums, .ref m_counted, .ref m_gone, .ref m_above, .ref m_below, .ref m_old, .ref m_now, .ref m_work, .ref m_isWrong, .ref m_out, .int (nI 0), .ref m_digits, .int (nI 0)]] := hD
    refine lv_aload_n hx hb dd_MO_byteAt_21 rfl (lv_at hl 0 rfl) ?_
    refine gf_MO_68 hx hb hts hown hK hP 0 rfl rfl dd_MO_byteAt_22 ?_
    refine lv_if_le (tgt := 32) hx hb dd_MO_byteAt_25 rfl (fun h_2 => absurd h_2 (by decide)) (fun _ => ?_)
    refine lv_iconst (v := nI 0) hx hb dd_MO_byteAt_28 (by decide) ?_
    refine lv_goto (tgt := 38) hx hb dd_MO_byteAt_29 rfl ?_
    exact xr_i hx hb hr hlk hQ hP hD hS () trivial [0] (by decide) rfl rfl (Nat.le_of_ble_eq_true rfl) (Nat.le_of_ble_eq_true rfl) dd_MO_byteAt_38
  · refine lv_iload_n hx hb dd_MO_byteAt_5 rfl (lv_at hl 1 rfl) ?_
    refine lv_aload_n hx hb dd_MO_byteAt_6 rfl (lv_at hl 0 rfl) ?_
    refine gf_MO_72 hx hb hts hown hK hP 0 rfl rfl dd_MO_byteAt_7 ?_
    refine xb_rge (tgt := 17) hx hb (by omega) dd_MO_byteAt_10 rfl (fun h_3 => ?_) (fun h_3 => False.elim (by omega))
    refine lv_iconst (v := nI 1) hx hb dd_MO_byteAt_17 (by decide) ?_
    refine pf_MO_68 hx hb hts hown hK hP hD hS 0 rfl rfl rfl (Nat.le_of_ble_eq_true rfl) dd_MO_byteAt_18 (fun H locs hP hD hS => ?_)
    have hP : va_P g.1 vwCl [oc_o h 11 [.int (nI 1), .ref m_tape, .int (nI 0), .ref m_words, .int (nI 0), .int (nI 0), .int (nI 0), .ref m_mixed, .ref m_signs, .int (nI 0), .int (nI 0), .ref m_places, .int (nI 0), .int (nI 0), .int (nI 0), .int (nI 0), .ref m_row, .ref m_lost, .ref m_powers, .ref m_sums, .ref m_counted, .ref m_gone, .ref m_above, .ref m_below, .ref m_old, .ref m_now, .ref m_work, .ref m_isWrong, .ref m_out, .int (nI 0), .ref m_digits, .int (nI 0)]] H := hP
    have hD : va_D A [oc_o h 11 [.int (nI 1), .ref m_tape, .int (nI 0), .ref m_words, .int (nI 0), .int (nI 0), .int (nI 0), .ref m_mixed, .ref m_signs, .int (nI 0), .int (nI 0), .ref m_places, .int (nI 0), .int (nI 0), .int (nI 0), .int (nI 0), .ref m_row, .ref m_lost, .ref m_powers, .ref m_sums, .ref m_counted, .ref m_gone, .ref m_above, .ref m_below, .ref m_old, .ref m_now, .ref m_work, .ref m_isWrong, .ref m_out, .int (nI 0), .ref m_digits, .int (nI 0)]] := hD
    refine lv_aload_n hx hb dd_MO_byteAt_21 rfl (lv_at hl 0 rfl) ?_
    refine gf_MO_68 hx hb hts hown hK hP 0 rfl rfl dd_MO_byteAt_22 ?_
    refine lv_if_le (tgt := 32) hx hb dd_MO_byteAt_25 rfl (fun h_4 => absurd h_4 (by decide)) (fun _ => ?_)
    refine lv_iconst (v := nI 0) hx hb dd_MO_byteAt_28 (by decide) ?_
    refine lv_goto (tgt := 38) hx hb dd_MO_byteAt_29 rfl ?_
    exact xr_i hx hb hr hlk hQ hP hD hS () trivial [0] (by decide) rfl rfl (Nat.le_of_ble_eq_true rfl) (Nat.le_of_ble_eq_true rfl) dd_MO_byteAt_38

set_option maxHeartbeats 4000000 in
set_option maxRecDepth 100000 in
theorem cm_solveT (l : Launch) (g : xg_G) (h : Nat) (m_tape : Nat) (m_words : Nat) (m_mixed : Nat) (m_signs : Nat) (m_places : Nat) (m_row : Nat) (m_lost : Nat) (m_powers : Nat) (m_sums : Nat) (m_counted : Nat) (m_gone : Nat) (m_above : Nat) (m_below : Nat) (m_old : Nat) (m_now : Nat) (m_work : Nat) (m_isWrong : Nat) (m_out : Nat) (m_digits : Nat) : kc_I l yy_MO_solve cd_MO_solve 7 .int { frames := 0, cells := 0, slots := 0, locals := 0 } g [.ref h] [oc_o h 11 [.int (nI 0), .ref m_tape, .int (nI 0), .ref m_words, .int (nI 0), .int (nI 0), .int (nI 0), .ref m_mixed, .ref m_signs, .int (nI 0), .int (nI 0), .ref m_places, .int (nI 0), .int (nI 0), .int (nI 0), .int (nI 0), .ref m_row, .ref m_lost, .ref m_powers, .ref m_sums, .ref m_counted, .ref m_gone, .ref m_above, .ref m_below, .ref m_old, .ref m_now, .ref m_work, .ref m_isWrong, .ref m_out, .int (nI 0), .ref m_digits, .int (nI 0)]] (S := Unit) (fun _ _ => True) (fun _ => [oc_o h 11 [.int (nI 1), .ref m_tape, .int (nI 0), .ref m_words, .int (nI 0), .int (nI 0), .int (nI 0), .ref m_mixed, .ref m_signs, .int (nI 0), .int (nI 0), .ref m_places, .int (nI 0), .int (nI 0), .int (nI 0), .int (nI 0), .ref m_row, .ref m_lost, .ref m_powers, .ref m_sums, .ref m_counted, .ref m_gone, .ref m_above, .ref m_below, .ref m_old, .ref m_now, .ref m_work, .ref m_isWrong, .ref m_out, .int (nI 0), .ref m_digits, .int (nI 0)]]) := by
  refine kc_Iof (by decide) (Nat.le_of_ble_eq_true rfl) ?_
  intro p e s m args below meth c A ls Q H locs hQ hB hP hS
  obtain ⟨hx, hb, hr, hlk, hin, hml, hown, hts, hA, hK, hD, hE, hl⟩ := hB
  have hF : xf_F g p m c cd_MO_solve 7 s args "StackedRowsModel" A := ⟨⟨hx, hb, hml, hown, hts⟩, hE, hK, hA⟩
  have hl : lv_has ls 7 [(0, .ref h)] := hl
  have hown : s.vm.findClass "StackedRowsModel" = some m.cls := hown
  refine lv_aload_n hx hb dd_MO_solve_0 rfl (lv_at hl 0 rfl) ?_
  refine lv_aload_n hx hb dd_MO_solve_1 rfl (lv_at hl 0 rfl) ?_
  refine gf_MO_134 hx hb hts hown hK hP 0 rfl rfl dd_MO_solve_2 ?_
  refine lv_if_ne (tgt := 12) hx hb dd_MO_solve_5 rfl (fun h_1 => absurd (by decide) h_1) (fun _ => ?_)
  refine lv_iconst (v := nI 1) hx hb dd_MO_solve_8 (by decide) ?_
  refine lv_goto (tgt := 13) hx hb dd_MO_solve_9 rfl ?_
  refine pf_MO_68 hx hb hts hown hK hP hD hS 0 rfl rfl rfl (Nat.le_of_ble_eq_true rfl) dd_MO_solve_13 (fun H locs hP hD hS => ?_)
  have hP : va_P g.1 vwCl [oc_o h 11 [.int (nI 1), .ref m_tape, .int (nI 0), .ref m_words, .int (nI 0), .int (nI 0), .int (nI 0), .ref m_mixed, .ref m_signs, .int (nI 0), .int (nI 0), .ref m_places, .int (nI 0), .int (nI 0), .int (nI 0), .int (nI 0), .ref m_row, .ref m_lost, .ref m_powers, .ref m_sums, .ref m_counted, .ref m_gone, .ref m_above, .ref m_below, .ref m_old, .ref m_now, .ref m_work, .ref m_isWrong, .ref m_out, .int (nI 0), .ref m_digits, .int (nI 0)]] H := hP
  have hD : va_D A [oc_o h 11 [.int (nI 1), .ref m_tape, .int (nI 0), .ref m_words, .int (nI 0), .int (nI 0), .int (nI 0), .ref m_mixed, .ref m_signs, .int (nI 0), .int (nI 0), .ref m_places, .int (nI 0), .int (nI 0), .int (nI 0), .int (nI 0), .ref m_row, .ref m_lost, .ref m_powers, .ref m_sums, .ref m_counted, .ref m_gone, .ref m_above, .ref m_below, .ref m_old, .ref m_now, .ref m_work, .ref m_isWrong, .ref m_out, .int (nI 0), .ref m_digits, .int (nI 0)]] := hD
  refine lv_aload_n hx hb dd_MO_solve_16 rfl (lv_at hl 0 rfl) ?_
  refine gf_MO_68 hx hb hts hown hK hP 0 rfl rfl dd_MO_solve_17 ?_
  refine lv_if_le (tgt := 25) hx hb dd_MO_solve_20 rfl (fun h_2 => absurd h_2 (by decide)) (fun _ => ?_)
  refine lv_iconst (v := nI 0) hx hb dd_MO_solve_23 (by decide) ?_
  exact xr_i hx hb hr hlk hQ hP hD hS () trivial [0] (by decide) rfl rfl (Nat.le_of_ble_eq_true rfl) (Nat.le_of_ble_eq_true rfl) dd_MO_solve_24

set_option maxHeartbeats 4000000 in
set_option maxRecDepth 100000 in
theorem cm_placeT (l : Launch) (g : xg_G) (h : Nat) (m_tape : Nat) (m_words : Nat) (m_mixed : Nat) (m_signs : Nat) (m_places : Nat) (m_row : Nat) (m_lost : Nat) (m_powers : Nat) (m_sums : Nat) (m_counted : Nat) (m_gone : Nat) (m_above : Nat) (m_below : Nat) (m_old : Nat) (m_now : Nat) (m_work : Nat) (m_isWrong : Nat) (m_out : Nat) (m_digits : Nat) (x1 : Int32) (x2 : Int32) : kc_I l yy_MO_place cd_MO_place 3 .int { frames := 0, cells := 0, slots := 0, locals := 0 } g [.ref h, .int x1, .int x2] [oc_o h 11 [.int (nI 0), .ref m_tape, .int (nI 0), .ref m_words, .int (nI 0), .int (nI 0), .int (nI 0), .ref m_mixed, .ref m_signs, .int (nI 0), .int (nI 0), .ref m_places, .int (nI 0), .int (nI 0), .int (nI 0), .int (nI 0), .ref m_row, .ref m_lost, .ref m_powers, .ref m_sums, .ref m_counted, .ref m_gone, .ref m_above, .ref m_below, .ref m_old, .ref m_now, .ref m_work, .ref m_isWrong, .ref m_out, .int (nI 0), .ref m_digits, .int (nI 0)]] (S := Unit) (fun _ _ => True) (fun _ => [oc_o h 11 [.int (nI 1), .ref m_tape, .int (nI 0), .ref m_words, .int (nI 0), .int (nI 0), .int (nI 0), .ref m_mixed, .ref m_signs, .int (nI 0), .int (nI 0), .ref m_places, .int (nI 0), .int (nI 0), .int (nI 0), .int (nI 0), .ref m_row, .ref m_lost, .ref m_powers, .ref m_sums, .ref m_counted, .ref m_gone, .ref m_above, .ref m_below, .ref m_old, .ref m_now, .ref m_work, .ref m_isWrong, .ref m_out, .int (nI 0), .ref m_digits, .int (nI 0)]]) := by
  refine kc_Iof (by decide) (Nat.le_of_ble_eq_true rfl) ?_
  intro p e s m args below meth c A ls Q H locs hQ hB hP hS
  obtain ⟨hx, hb, hr, hlk, hin, hml, hown, hts, hA, hK, hD, hE, hl⟩ := hB
  have hF : xf_F g p m c cd_MO_place 3 s args "StackedRowsModel" A := ⟨⟨hx, hb, hml, hown, hts⟩, hE, hK, hA⟩
  have hl : lv_has ls 3 [(0, .ref h), (1, .int x1), (2, .int x2)] := hl
  have hown : s.vm.findClass "StackedRowsModel" = some m.cls := hown
  refine lv_aload_n hx hb dd_MO_place_0 rfl (lv_at hl 0 rfl) ?_
  refine lv_aload_n hx hb dd_MO_place_1 rfl (lv_at hl 0 rfl) ?_
  refine gf_MO_134 hx hb hts hown hK hP 0 rfl rfl dd_MO_place_2 ?_
  refine lv_if_ne (tgt := 12) hx hb dd_MO_place_5 rfl (fun h_1 => absurd (by decide) h_1) (fun _ => ?_)
  refine lv_iconst (v := nI 1) hx hb dd_MO_place_8 (by decide) ?_
  refine lv_goto (tgt := 26) hx hb dd_MO_place_9 rfl ?_
  refine pf_MO_68 hx hb hts hown hK hP hD hS 0 rfl rfl rfl (Nat.le_of_ble_eq_true rfl) dd_MO_place_26 (fun H locs hP hD hS => ?_)
  have hP : va_P g.1 vwCl [oc_o h 11 [.int (nI 1), .ref m_tape, .int (nI 0), .ref m_words, .int (nI 0), .int (nI 0), .int (nI 0), .ref m_mixed, .ref m_signs, .int (nI 0), .int (nI 0), .ref m_places, .int (nI 0), .int (nI 0), .int (nI 0), .int (nI 0), .ref m_row, .ref m_lost, .ref m_powers, .ref m_sums, .ref m_counted, .ref m_gone, .ref m_above, .ref m_below, .ref m_old, .ref m_now, .ref m_work, .ref m_isWrong, .ref m_out, .int (nI 0), .ref m_digits, .int (nI 0)]] H := hP
  have hD : va_D A [oc_o h 11 [.int (nI 1), .ref m_tape, .int (nI 0), .ref m_words, .int (nI 0), .int (nI 0), .int (nI 0), .ref m_mixed, .ref m_signs, .int (nI 0), .int (nI 0), .ref m_places, .int (nI 0), .int (nI 0), .int (nI 0), .int (nI 0), .ref m_row, .ref m_lost, .ref m_powers, .ref m_sums, .ref m_counted, .ref m_gone, .ref m_above, .ref m_below, .ref m_old, .ref m_now, .ref m_work, .ref m_isWrong, .ref m_out, .int (nI 0), .ref m_digits, .int (nI 0)]] := hD
  refine lv_aload_n hx hb dd_MO_place_29 rfl (lv_at hl 0 rfl) ?_
  refine gf_MO_68 hx hb hts hown hK hP 0 rfl rfl dd_MO_place_30 ?_
  refine lv_if_le (tgt := 40) hx hb dd_MO_place_33 rfl (fun h_2 => absurd h_2 (by decide)) (fun _ => ?_)
  refine lv_iconst (v := nI 0) hx hb dd_MO_place_36 (by decide) ?_
  refine lv_goto (tgt := 51) hx hb dd_MO_place_37 rfl ?_
  exact xr_i hx hb hr hlk hQ hP hD hS () trivial [0] (by decide) rfl rfl (Nat.le_of_ble_eq_true rfl) (Nat.le_of_ble_eq_true rfl) dd_MO_place_51

set_option maxHeartbeats 4000000 in
set_option maxRecDepth 100000 in
theorem cm_putT (l : Launch) (g : xg_G) (h : Nat) (m_tape : Nat) (m_words : Nat) (m_mixed : Nat) (m_signs : Nat) (m_places : Nat) (m_row : Nat) (m_lost : Nat) (m_powers : Nat) (m_sums : Nat) (m_counted : Nat) (m_gone : Nat) (m_above : Nat) (m_below : Nat) (m_old : Nat) (m_now : Nat) (m_work : Nat) (m_isWrong : Nat) (m_out : Nat) (m_digits : Nat) (x1 : Int32) (x2 : Int32) (x3 : Int32) : kc_V l yy_MO_put cd_MO_put 4 { frames := 0, cells := 0, slots := 0, locals := 0 } g [.ref h, .int x1, .int x2, .int x3] [oc_o h 11 [.int (nI 0), .ref m_tape, .int (nI 0), .ref m_words, .int (nI 0), .int (nI 0), .int (nI 0), .ref m_mixed, .ref m_signs, .int (nI 0), .int (nI 0), .ref m_places, .int (nI 0), .int (nI 0), .int (nI 0), .int (nI 0), .ref m_row, .ref m_lost, .ref m_powers, .ref m_sums, .ref m_counted, .ref m_gone, .ref m_above, .ref m_below, .ref m_old, .ref m_now, .ref m_work, .ref m_isWrong, .ref m_out, .int (nI 0), .ref m_digits, .int (nI 0)]] (S := Unit) (fun _ => True) (fun _ => [oc_o h 11 [.int (nI 1), .ref m_tape, .int (nI 0), .ref m_words, .int (nI 0), .int (nI 0), .int (nI 0), .ref m_mixed, .ref m_signs, .int (nI 0), .int (nI 0), .ref m_places, .int (nI 0), .int (nI 0), .int (nI 0), .int (nI 0), .ref m_row, .ref m_lost, .ref m_powers, .ref m_sums, .ref m_counted, .ref m_gone, .ref m_above, .ref m_below, .ref m_old, .ref m_now, .ref m_work, .ref m_isWrong, .ref m_out, .int (nI 0), .ref m_digits, .int (nI 0)]]) := by
  refine kc_Vof (by decide) (Nat.le_of_ble_eq_true rfl) ?_
  intro p e s m args below meth c A ls Q H locs hQ hB hP hS
  obtain ⟨hx, hb, hr, hlk, hin, hml, hown, hts, hA, hK, hD, hE, hl⟩ := hB
  have hF : xf_F g p m c cd_MO_put 4 s args "StackedRowsModel" A := ⟨⟨hx, hb, hml, hown, hts⟩, hE, hK, hA⟩
  have hl : lv_has ls 4 [(0, .ref h), (1, .int x1), (2, .int x2), (3, .int x3)] := hl
  have hown : s.vm.findClass "StackedRowsModel" = some m.cls := hown
  refine lv_aload_n hx hb dd_MO_put_0 rfl (lv_at hl 0 rfl) ?_
  refine lv_aload_n hx hb dd_MO_put_1 rfl (lv_at hl 0 rfl) ?_
  refine gf_MO_134 hx hb hts hown hK hP 0 rfl rfl dd_MO_put_2 ?_
  refine lv_if_ne (tgt := 12) hx hb dd_MO_put_5 rfl (fun h_1 => absurd (by decide) h_1) (fun _ => ?_)
  refine lv_iconst (v := nI 1) hx hb dd_MO_put_8 (by decide) ?_
  refine lv_goto (tgt := 42) hx hb dd_MO_put_9 rfl ?_
  refine pf_MO_68 hx hb hts hown hK hP hD hS 0 rfl rfl rfl (Nat.le_of_ble_eq_true rfl) dd_MO_put_42 (fun H locs hP hD hS => ?_)
  have hP : va_P g.1 vwCl [oc_o h 11 [.int (nI 1), .ref m_tape, .int (nI 0), .ref m_words, .int (nI 0), .int (nI 0), .int (nI 0), .ref m_mixed, .ref m_signs, .int (nI 0), .int (nI 0), .ref m_places, .int (nI 0), .int (nI 0), .int (nI 0), .int (nI 0), .ref m_row, .ref m_lost, .ref m_powers, .ref m_sums, .ref m_counted, .ref m_gone, .ref m_above, .ref m_below, .ref m_old, .ref m_now, .ref m_work, .ref m_isWrong, .ref m_out, .int (nI 0), .ref m_digits, .int (nI 0)]] H := hP
  have hD : va_D A [oc_o h 11 [.int (nI 1), .ref m_tape, .int (nI 0), .ref m_words, .int (nI 0), .int (nI 0), .int (nI 0), .ref m_mixed, .ref m_signs, .int (nI 0), .int (nI 0), .ref m_places, .int (nI 0), .int (nI 0), .int (nI 0), .int (nI 0), .ref m_row, .ref m_lost, .ref m_powers, .ref m_sums, .ref m_counted, .ref m_gone, .ref m_above, .ref m_below, .ref m_old, .ref m_now, .ref m_work, .ref m_isWrong, .ref m_out, .int (nI 0), .ref m_digits, .int (nI 0)]] := hD
  refine lv_aload_n hx hb dd_MO_put_45 rfl (lv_at hl 0 rfl) ?_
  refine gf_MO_68 hx hb hts hown hK hP 0 rfl rfl dd_MO_put_46 ?_
  refine lv_if_ne (tgt := 64) hx hb dd_MO_put_49 rfl (fun _ => ?_) (fun h_2 => absurd h_2 (by decide))
  exact xr_v hx hb hr hlk hQ hP hD hS () trivial [0] (by decide) rfl (Nat.le_of_ble_eq_true rfl) (Nat.le_of_ble_eq_true rfl) dd_MO_put_64

set_option maxHeartbeats 4000000 in
set_option maxRecDepth 100000 in
theorem cm_solved (l : Launch) (g : xg_G) (h : Nat) (m_tape : Nat) (m_words : Nat) (m_mixed : Nat) (m_signs : Nat) (m_places : Nat) (m_row : Nat) (m_lost : Nat) (m_powers : Nat) (m_sums : Nat) (m_counted : Nat) (m_gone : Nat) (m_above : Nat) (m_below : Nat) (m_old : Nat) (m_now : Nat) (m_work : Nat) (m_isWrong : Nat) (m_out : Nat) (m_digits : Nat) (k : Nat) (qk : k < 4) : kc_I l yy_MO_solved cd_MO_solved 2 .int { frames := 0, cells := 0, slots := 0, locals := 0 } g [.ref h, .int (nI k)] [oc_o h 11 [.int (nI 0), .ref m_tape, .int (nI 0), .ref m_words, .int (nI 0), .int (nI 0), .int (nI 0), .ref m_mixed, .ref m_signs, .int (nI 0), .int (nI 0), .ref m_places, .int (nI 0), .int (nI 0), .int (nI 0), .int (nI 0), .ref m_row, .ref m_lost, .ref m_powers, .ref m_sums, .ref m_counted, .ref m_gone, .ref m_above, .ref m_below, .ref m_old, .ref m_now, .ref m_work, .ref m_isWrong, .ref m_out, .int (nI 0), .ref m_digits, .int (nI 0)]] (S := Unit) (fun r0 _ => r0 = nI 0) (fun _ => [oc_o h 11 [.int (nI 0), .ref m_tape, .int (nI 0), .ref m_words, .int (nI 0), .int (nI 0), .int (nI 0), .ref m_mixed, .ref m_signs, .int (nI 0), .int (nI 0), .ref m_places, .int (nI 0), .int (nI 0), .int (nI 0), .int (nI 0), .ref m_row, .ref m_lost, .ref m_powers, .ref m_sums, .ref m_counted, .ref m_gone, .ref m_above, .ref m_below, .ref m_old, .ref m_now, .ref m_work, .ref m_isWrong, .ref m_out, .int (nI 0), .ref m_digits, .int (nI 0)]]) := by
  refine kc_Iof (by decide) (Nat.le_of_ble_eq_true rfl) ?_
  intro p e s m args below meth c A ls Q H locs hQ hB hP hS
  obtain ⟨hx, hb, hr, hlk, hin, hml, hown, hts, hA, hK, hD, hE, hl⟩ := hB
  have hF : xf_F g p m c cd_MO_solved 2 s args "StackedRowsModel" A := ⟨⟨hx, hb, hml, hown, hts⟩, hE, hK, hA⟩
  have hl : lv_has ls 2 [(0, .ref h), (1, .int (nI k))] := hl
  have hown : s.vm.findClass "StackedRowsModel" = some m.cls := hown
  refine lv_aload_n hx hb dd_MO_solved_0 rfl (lv_at hl 0 rfl) ?_
  refine lv_iload_n hx hb dd_MO_solved_1 rfl (lv_at hl 1 rfl) ?_
  refine xb_zlt (tgt := 14) hx hb (by omega) dd_MO_solved_2 rfl ?_
  refine lv_iload_n hx hb dd_MO_solved_5 rfl (lv_at hl 1 rfl) ?_
  refine lv_iconst (v := nI 3) hx hb dd_MO_solved_6 (by decide) ?_
  refine xb_gt (tgt := 14) hx hb (by omega) (by omega) dd_MO_solved_7 rfl (fun h_1 => False.elim (by omega)) (fun h_1 => ?_)
  refine lv_iconst (v := nI 0) hx hb dd_MO_solved_10 (by decide) ?_
  refine lv_goto (tgt := 15) hx hb dd_MO_solved_11 rfl ?_
  refine pf_MO_68 hx hb hts hown hK hP hD hS 0 rfl rfl rfl (Nat.le_of_ble_eq_true rfl) dd_MO_solved_15 (fun H locs hP hD hS => ?_)
  have hP : va_P g.1 vwCl [oc_o h 11 [.int (nI 0), .ref m_tape, .int (nI 0), .ref m_words, .int (nI 0), .int (nI 0), .int (nI 0), .ref m_mixed, .ref m_signs, .int (nI 0), .int (nI 0), .ref m_places, .int (nI 0), .int (nI 0), .int (nI 0), .int (nI 0), .ref m_row, .ref m_lost, .ref m_powers, .ref m_sums, .ref m_counted, .ref m_gone, .ref m_above, .ref m_below, .ref m_old, .ref m_now, .ref m_work, .ref m_isWrong, .ref m_out, .int (nI 0), .ref m_digits, .int (nI 0)]] H := hP
  have hD : va_D A [oc_o h 11 [.int (nI 0), .ref m_tape, .int (nI 0), .ref m_words, .int (nI 0), .int (nI 0), .int (nI 0), .ref m_mixed, .ref m_signs, .int (nI 0), .int (nI 0), .ref m_places, .int (nI 0), .int (nI 0), .int (nI 0), .int (nI 0), .ref m_row, .ref m_lost, .ref m_powers, .ref m_sums, .ref m_counted, .ref m_gone, .ref m_above, .ref m_below, .ref m_old, .ref m_now, .ref m_work, .ref m_isWrong, .ref m_out, .int (nI 0), .ref m_digits, .int (nI 0)]] := hD
  refine lv_aload_n hx hb dd_MO_solved_18 rfl (lv_at hl 0 rfl) ?_
  refine gf_MO_68 hx hb hts hown hK hP 0 rfl rfl dd_MO_solved_19 ?_
  refine lv_if_le (tgt := 27) hx hb dd_MO_solved_22 rfl (fun _ => ?_) (fun h_2 => absurd (by decide) h_2)
  refine lv_iload_n hx hb dd_MO_solved_27 rfl (lv_at hl 1 rfl) ?_
  refine xb_zne (tgt := 38) hx hb (by omega) dd_MO_solved_28 rfl (fun h_3 => ?_) (fun h_3 => ?_)
  · refine lv_iload_n hx hb dd_MO_solved_38 rfl (lv_at hl 1 rfl) ?_
    refine lv_iconst (v := nI 1) hx hb dd_MO_solved_39 (by decide) ?_
    refine xb_ne (tgt := 50) hx hb (by omega) (by omega) dd_MO_solved_40 rfl (fun h_4 => ?_) (fun h_4 => ?_)
    · refine lv_iload_n hx hb dd_MO_solved_50 rfl (lv_at hl 1 rfl) ?_
      refine lv_iconst (v := nI 2) hx hb dd_MO_solved_51 (by decide) ?_
      refine xb_ne (tgt := 62) hx hb (by omega) (by omega) dd_MO_solved_52 rfl (fun h_5 => ?_) (fun h_5 => ?_)
      · refine lv_aload_n hx hb dd_MO_solved_62 rfl (lv_at hl 0 rfl) ?_
        refine gf_MO_228 hx hb hts hown hK hP 0 rfl rfl dd_MO_solved_63 ?_
        exact xr_i hx hb hr hlk hQ hP hD hS () (by first | rfl | exact congrArg nI (by omega)) [0] (by decide) rfl rfl (Nat.le_of_ble_eq_true rfl) (Nat.le_of_ble_eq_true rfl) dd_MO_solved_66
      · refine lv_aload_n hx hb dd_MO_solved_55 rfl (lv_at hl 0 rfl) ?_
        refine gf_MO_192 hx hb hts hown hK hP 0 rfl rfl dd_MO_solved_56 ?_
        refine lv_goto (tgt := 66) hx hb dd_MO_solved_59 rfl ?_
        exact xr_i hx hb hr hlk hQ hP hD hS () (by first | rfl | exact congrArg nI (by omega)) [0] (by decide) rfl rfl (Nat.le_of_ble_eq_true rfl) (Nat.le_of_ble_eq_true rfl) dd_MO_solved_66
    · refine lv_aload_n hx hb dd_MO_solved_43 rfl (lv_at hl 0 rfl) ?_
      refine gf_MO_201 hx hb hts hown hK hP 0 rfl rfl dd_MO_solved_44 ?_
      refine lv_goto (tgt := 66) hx hb dd_MO_solved_47 rfl ?_
      exact xr_i hx hb hr hlk hQ hP hD hS () (by first | rfl | exact congrArg nI (by omega)) [0] (by decide) rfl rfl (Nat.le_of_ble_eq_true rfl) (Nat.le_of_ble_eq_true rfl) dd_MO_solved_66
  · refine lv_aload_n hx hb dd_MO_solved_31 rfl (lv_at hl 0 rfl) ?_
    refine gf_MO_198 hx hb hts hown hK hP 0 rfl rfl dd_MO_solved_32 ?_
    refine lv_goto (tgt := 66) hx hb dd_MO_solved_35 rfl ?_
    exact xr_i hx hb hr hlk hQ hP hD hS () (by first | rfl | exact congrArg nI (by omega)) [0] (by decide) rfl rfl (Nat.le_of_ble_eq_true rfl) (Nat.le_of_ble_eq_true rfl) dd_MO_solved_66

set_option maxHeartbeats 4000000 in
set_option maxRecDepth 100000 in
theorem cm_solvedT (l : Launch) (g : xg_G) (h : Nat) (m_tape : Nat) (m_words : Nat) (m_mixed : Nat) (m_signs : Nat) (m_places : Nat) (m_row : Nat) (m_lost : Nat) (m_powers : Nat) (m_sums : Nat) (m_counted : Nat) (m_gone : Nat) (m_above : Nat) (m_below : Nat) (m_old : Nat) (m_now : Nat) (m_work : Nat) (m_isWrong : Nat) (m_out : Nat) (m_digits : Nat) (x1 : Int32) (qx : x1.toInt < 0 ∨ 4 ≤ x1.toInt) : kc_I l yy_MO_solved cd_MO_solved 2 .int { frames := 0, cells := 0, slots := 0, locals := 0 } g [.ref h, .int x1] [oc_o h 11 [.int (nI 0), .ref m_tape, .int (nI 0), .ref m_words, .int (nI 0), .int (nI 0), .int (nI 0), .ref m_mixed, .ref m_signs, .int (nI 0), .int (nI 0), .ref m_places, .int (nI 0), .int (nI 0), .int (nI 0), .int (nI 0), .ref m_row, .ref m_lost, .ref m_powers, .ref m_sums, .ref m_counted, .ref m_gone, .ref m_above, .ref m_below, .ref m_old, .ref m_now, .ref m_work, .ref m_isWrong, .ref m_out, .int (nI 0), .ref m_digits, .int (nI 0)]] (S := Unit) (fun _ _ => True) (fun _ => [oc_o h 11 [.int (nI 1), .ref m_tape, .int (nI 0), .ref m_words, .int (nI 0), .int (nI 0), .int (nI 0), .ref m_mixed, .ref m_signs, .int (nI 0), .int (nI 0), .ref m_places, .int (nI 0), .int (nI 0), .int (nI 0), .int (nI 0), .ref m_row, .ref m_lost, .ref m_powers, .ref m_sums, .ref m_counted, .ref m_gone, .ref m_above, .ref m_below, .ref m_old, .ref m_now, .ref m_work, .ref m_isWrong, .ref m_out, .int (nI 0), .ref m_digits, .int (nI 0)]]) := by
  refine kc_Iof (by decide) (Nat.le_of_ble_eq_true rfl) ?_
  intro p e s m args below meth c A ls Q H locs hQ hB hP hS
  obtain ⟨hx, hb, hr, hlk, hin, hml, hown, hts, hA, hK, hD, hE, hl⟩ := hB
  have hF : xf_F g p m c cd_MO_solved 2 s args "StackedRowsModel" A := ⟨⟨hx, hb, hml, hown, hts⟩, hE, hK, hA⟩
  have hl : lv_has ls 2 [(0, .ref h), (1, .int x1)] := hl
  have hown : s.vm.findClass "StackedRowsModel" = some m.cls := hown
  refine lv_aload_n hx hb dd_MO_solved_0 rfl (lv_at hl 0 rfl) ?_
  refine lv_iload_n hx hb dd_MO_solved_1 rfl (lv_at hl 1 rfl) ?_
  refine xb_r0lt (tgt := 14) hx hb dd_MO_solved_2 rfl (fun h_1 => ?_) (fun h_1 => ?_)
  · refine lv_iconst (v := nI 1) hx hb dd_MO_solved_14 (by decide) ?_
    refine pf_MO_68 hx hb hts hown hK hP hD hS 0 rfl rfl rfl (Nat.le_of_ble_eq_true rfl) dd_MO_solved_15 (fun H locs hP hD hS => ?_)
    have hP : va_P g.1 vwCl [oc_o h 11 [.int (nI 1), .ref m_tape, .int (nI 0), .ref m_words, .int (nI 0), .int (nI 0), .int (nI 0), .ref m_mixed, .ref m_signs, .int (nI 0), .int (nI 0), .ref m_places, .int (nI 0), .int (nI 0), .int (nI 0), .int (nI 0), .ref m_row, .ref m_lost, .ref m_powers, .ref m_sums, .ref m_counted, .ref m_gone, .ref m_above, .ref m_below, .ref m_old, .ref m_now, .ref m_work, .ref m_isWrong, .ref m_out, .int (nI 0), .ref m_digits, .int (nI 0)]] H := hP
    have hD : va_D A [oc_o h 11 [.int (nI 1), .ref m_tape, .int (nI 0), .ref m_words, .int (nI 0), .int (nI 0), .int (nI 0), .ref m_mixed, .ref m_signs, .int (nI 0), .int (nI 0), .ref m_places, .int (nI 0), .int (nI 0), .int (nI 0), .int (nI 0), .ref m_row, .ref m_lost, .ref m_powers, .ref m_sums, .ref m_counted, .ref m_gone, .ref m_above, .ref m_below, .ref m_old, .ref m_now, .ref m_work, .ref m_isWrong, .ref m_out, .int (nI 0), .ref m_digits, .int (nI 0)]] := hD
    refine lv_aload_n hx hb dd_MO_solved_18 rfl (lv_at hl 0 rfl) ?_
    refine gf_MO_68 hx hb hts hown hK hP 0 rfl rfl dd_MO_solved_19 ?_
    refine lv_if_le (tgt := 27) hx hb dd_MO_solved_22 rfl (fun h_2 => absurd h_2 (by decide)) (fun _ => ?_)
    refine lv_iconst (v := nI 0) hx hb dd_MO_solved_25 (by decide) ?_
    exact xr_i hx hb hr hlk hQ hP hD hS () trivial [0] (by decide) rfl rfl (Nat.le_of_ble_eq_true rfl) (Nat.le_of_ble_eq_true rfl) dd_MO_solved_26
  · refine lv_iload_n hx hb dd_MO_solved_5 rfl (lv_at hl 1 rfl) ?_
    refine lv_iconst (v := nI 3) hx hb dd_MO_solved_6 (by decide) ?_
    refine xb_rgt (tgt := 14) hx hb (by omega) dd_MO_solved_7 rfl (fun h_3 => ?_) (fun h_3 => False.elim (by omega))
    refine lv_iconst (v := nI 1) hx hb dd_MO_solved_14 (by decide) ?_
    refine pf_MO_68 hx hb hts hown hK hP hD hS 0 rfl rfl rfl (Nat.le_of_ble_eq_true rfl) dd_MO_solved_15 (fun H locs hP hD hS => ?_)
    have hP : va_P g.1 vwCl [oc_o h 11 [.int (nI 1), .ref m_tape, .int (nI 0), .ref m_words, .int (nI 0), .int (nI 0), .int (nI 0), .ref m_mixed, .ref m_signs, .int (nI 0), .int (nI 0), .ref m_places, .int (nI 0), .int (nI 0), .int (nI 0), .int (nI 0), .ref m_row, .ref m_lost, .ref m_powers, .ref m_sums, .ref m_counted, .ref m_gone, .ref m_above, .ref m_below, .ref m_old, .ref m_now, .ref m_work, .ref m_isWrong, .ref m_out, .int (nI 0), .ref m_digits, .int (nI 0)]] H := hP
    have hD : va_D A [oc_o h 11 [.int (nI 1), .ref m_tape, .int (nI 0), .ref m_words, .int (nI 0), .int (nI 0), .int (nI 0), .ref m_mixed, .ref m_signs, .int (nI 0), .int (nI 0), .ref m_places, .int (nI 0), .int (nI 0), .int (nI 0), .int (nI 0), .ref m_row, .ref m_lost, .ref m_powers, .ref m_sums, .ref m_counted, .ref m_gone, .ref m_above, .ref m_below, .ref m_old, .ref m_now, .ref m_work, .ref m_isWrong, .ref m_out, .int (nI 0), .ref m_digits, .int (nI 0)]] := hD
    refine lv_aload_n hx hb dd_MO_solved_18 rfl (lv_at hl 0 rfl) ?_
    refine gf_MO_68 hx hb hts hown hK hP 0 rfl rfl dd_MO_solved_19 ?_
    refine lv_if_le (tgt := 27) hx hb dd_MO_solved_22 rfl (fun h_4 => absurd h_4 (by decide)) (fun _ => ?_)
    refine lv_iconst (v := nI 0) hx hb dd_MO_solved_25 (by decide) ?_
    exact xr_i hx hb hr hlk hQ hP hD hS () trivial [0] (by decide) rfl rfl (Nat.le_of_ble_eq_true rfl) (Nat.le_of_ble_eq_true rfl) dd_MO_solved_26

set_option maxHeartbeats 4000000 in
set_option maxRecDepth 100000 in
theorem cm_count (l : Launch) (g : xg_G) (h : Nat) (m_tape : Nat) (m_words : Nat) (m_mixed : Nat) (m_signs : Nat) (m_places : Nat) (m_row : Nat) (m_lost : Nat) (m_powers : Nat) (m_sums : Nat) (m_counted : Nat) (m_gone : Nat) (m_above : Nat) (m_below : Nat) (m_old : Nat) (m_now : Nat) (m_work : Nat) (m_isWrong : Nat) (m_out : Nat) (m_digits : Nat) (k : Nat) (qk : k < 3) : kc_I l yy_MO_count cd_MO_count 2 .int { frames := 0, cells := 0, slots := 0, locals := 0 } g [.ref h, .int (nI k)] [oc_o h 11 [.int (nI 0), .ref m_tape, .int (nI 0), .ref m_words, .int (nI 0), .int (nI 0), .int (nI 0), .ref m_mixed, .ref m_signs, .int (nI 0), .int (nI 0), .ref m_places, .int (nI 0), .int (nI 0), .int (nI 0), .int (nI 0), .ref m_row, .ref m_lost, .ref m_powers, .ref m_sums, .ref m_counted, .ref m_gone, .ref m_above, .ref m_below, .ref m_old, .ref m_now, .ref m_work, .ref m_isWrong, .ref m_out, .int (nI 0), .ref m_digits, .int (nI 0)]] (S := Unit) (fun r0 _ => r0 = nI 0) (fun _ => [oc_o h 11 [.int (nI 0), .ref m_tape, .int (nI 0), .ref m_words, .int (nI 0), .int (nI 0), .int (nI 0), .ref m_mixed, .ref m_signs, .int (nI 0), .int (nI 0), .ref m_places, .int (nI 0), .int (nI 0), .int (nI 0), .int (nI 0), .ref m_row, .ref m_lost, .ref m_powers, .ref m_sums, .ref m_counted, .ref m_gone, .ref m_above, .ref m_below, .ref m_old, .ref m_now, .ref m_work, .ref m_isWrong, .ref m_out, .int (nI 0), .ref m_digits, .int (nI 0)]]) := by
  refine kc_Iof (by decide) (Nat.le_of_ble_eq_true rfl) ?_
  intro p e s m args below meth c A ls Q H locs hQ hB hP hS
  obtain ⟨hx, hb, hr, hlk, hin, hml, hown, hts, hA, hK, hD, hE, hl⟩ := hB
  have hF : xf_F g p m c cd_MO_count 2 s args "StackedRowsModel" A := ⟨⟨hx, hb, hml, hown, hts⟩, hE, hK, hA⟩
  have hl : lv_has ls 2 [(0, .ref h), (1, .int (nI k))] := hl
  have hown : s.vm.findClass "StackedRowsModel" = some m.cls := hown
  refine lv_aload_n hx hb dd_MO_count_0 rfl (lv_at hl 0 rfl) ?_
  refine lv_iload_n hx hb dd_MO_count_1 rfl (lv_at hl 1 rfl) ?_
  refine xb_zlt (tgt := 14) hx hb (by omega) dd_MO_count_2 rfl ?_
  refine lv_iload_n hx hb dd_MO_count_5 rfl (lv_at hl 1 rfl) ?_
  refine lv_iconst (v := nI 2) hx hb dd_MO_count_6 (by decide) ?_
  refine xb_gt (tgt := 14) hx hb (by omega) (by omega) dd_MO_count_7 rfl (fun h_1 => False.elim (by omega)) (fun h_1 => ?_)
  refine lv_iconst (v := nI 0) hx hb dd_MO_count_10 (by decide) ?_
  refine lv_goto (tgt := 15) hx hb dd_MO_count_11 rfl ?_
  refine pf_MO_68 hx hb hts hown hK hP hD hS 0 rfl rfl rfl (Nat.le_of_ble_eq_true rfl) dd_MO_count_15 (fun H locs hP hD hS => ?_)
  have hP : va_P g.1 vwCl [oc_o h 11 [.int (nI 0), .ref m_tape, .int (nI 0), .ref m_words, .int (nI 0), .int (nI 0), .int (nI 0), .ref m_mixed, .ref m_signs, .int (nI 0), .int (nI 0), .ref m_places, .int (nI 0), .int (nI 0), .int (nI 0), .int (nI 0), .ref m_row, .ref m_lost, .ref m_powers, .ref m_sums, .ref m_counted, .ref m_gone, .ref m_above, .ref m_below, .ref m_old, .ref m_now, .ref m_work, .ref m_isWrong, .ref m_out, .int (nI 0), .ref m_digits, .int (nI 0)]] H := hP
  have hD : va_D A [oc_o h 11 [.int (nI 0), .ref m_tape, .int (nI 0), .ref m_words, .int (nI 0), .int (nI 0), .int (nI 0), .ref m_mixed, .ref m_signs, .int (nI 0), .int (nI 0), .ref m_places, .int (nI 0), .int (nI 0), .int (nI 0), .int (nI 0), .ref m_row, .ref m_lost, .ref m_powers, .ref m_sums, .ref m_counted, .ref m_gone, .ref m_above, .ref m_below, .ref m_old, .ref m_now, .ref m_work, .ref m_isWrong, .ref m_out, .int (nI 0), .ref m_digits, .int (nI 0)]] := hD
  refine lv_aload_n hx hb dd_MO_count_18 rfl (lv_at hl 0 rfl) ?_
  refine gf_MO_68 hx hb hts hown hK hP 0 rfl rfl dd_MO_count_19 ?_
  refine lv_if_le (tgt := 29) hx hb dd_MO_count_22 rfl (fun _ => ?_) (fun h_2 => absurd (by decide) h_2)
  refine lv_iload_n hx hb dd_MO_count_29 rfl (lv_at hl 1 rfl) ?_
  refine xb_zne (tgt := 40) hx hb (by omega) dd_MO_count_30 rfl (fun h_3 => ?_) (fun h_3 => ?_)
  · refine lv_iload_n hx hb dd_MO_count_40 rfl (lv_at hl 1 rfl) ?_
    refine lv_iconst (v := nI 1) hx hb dd_MO_count_41 (by decide) ?_
    refine xb_ne (tgt := 52) hx hb (by omega) (by omega) dd_MO_count_42 rfl (fun h_4 => ?_) (fun h_4 => ?_)
    · refine lv_aload_n hx hb dd_MO_count_52 rfl (lv_at hl 0 rfl) ?_
      refine gf_MO_137 hx hb hts hown hK hP 0 rfl rfl dd_MO_count_53 ?_
      exact xr_i hx hb hr hlk hQ hP hD hS () (by first | rfl | exact congrArg nI (by omega)) [0] (by decide) rfl rfl (Nat.le_of_ble_eq_true rfl) (Nat.le_of_ble_eq_true rfl) dd_MO_count_56
    · refine lv_aload_n hx hb dd_MO_count_45 rfl (lv_at hl 0 rfl) ?_
      refine gf_MO_134 hx hb hts hown hK hP 0 rfl rfl dd_MO_count_46 ?_
      refine lv_goto (tgt := 56) hx hb dd_MO_count_49 rfl ?_
      exact xr_i hx hb hr hlk hQ hP hD hS () (by first | rfl | exact congrArg nI (by omega)) [0] (by decide) rfl rfl (Nat.le_of_ble_eq_true rfl) (Nat.le_of_ble_eq_true rfl) dd_MO_count_56
  · refine lv_aload_n hx hb dd_MO_count_33 rfl (lv_at hl 0 rfl) ?_
    refine gf_MO_72 hx hb hts hown hK hP 0 rfl rfl dd_MO_count_34 ?_
    refine lv_goto (tgt := 56) hx hb dd_MO_count_37 rfl ?_
    exact xr_i hx hb hr hlk hQ hP hD hS () (by first | rfl | exact congrArg nI (by omega)) [0] (by decide) rfl rfl (Nat.le_of_ble_eq_true rfl) (Nat.le_of_ble_eq_true rfl) dd_MO_count_56

set_option maxHeartbeats 4000000 in
set_option maxRecDepth 100000 in
theorem cm_countT (l : Launch) (g : xg_G) (h : Nat) (m_tape : Nat) (m_words : Nat) (m_mixed : Nat) (m_signs : Nat) (m_places : Nat) (m_row : Nat) (m_lost : Nat) (m_powers : Nat) (m_sums : Nat) (m_counted : Nat) (m_gone : Nat) (m_above : Nat) (m_below : Nat) (m_old : Nat) (m_now : Nat) (m_work : Nat) (m_isWrong : Nat) (m_out : Nat) (m_digits : Nat) (x1 : Int32) (qx : x1.toInt < 0 ∨ 3 ≤ x1.toInt) : kc_I l yy_MO_count cd_MO_count 2 .int { frames := 0, cells := 0, slots := 0, locals := 0 } g [.ref h, .int x1] [oc_o h 11 [.int (nI 0), .ref m_tape, .int (nI 0), .ref m_words, .int (nI 0), .int (nI 0), .int (nI 0), .ref m_mixed, .ref m_signs, .int (nI 0), .int (nI 0), .ref m_places, .int (nI 0), .int (nI 0), .int (nI 0), .int (nI 0), .ref m_row, .ref m_lost, .ref m_powers, .ref m_sums, .ref m_counted, .ref m_gone, .ref m_above, .ref m_below, .ref m_old, .ref m_now, .ref m_work, .ref m_isWrong, .ref m_out, .int (nI 0), .ref m_digits, .int (nI 0)]] (S := Unit) (fun _ _ => True) (fun _ => [oc_o h 11 [.int (nI 1), .ref m_tape, .int (nI 0), .ref m_words, .int (nI 0), .int (nI 0), .int (nI 0), .ref m_mixed, .ref m_signs, .int (nI 0), .int (nI 0), .ref m_places, .int (nI 0), .int (nI 0), .int (nI 0), .int (nI 0), .ref m_row, .ref m_lost, .ref m_powers, .ref m_sums, .ref m_counted, .ref m_gone, .ref m_above, .ref m_below, .ref m_old, .ref m_now, .ref m_work, .ref m_isWrong, .ref m_out, .int (nI 0), .ref m_digits, .int (nI 0)]]) := by
  refine kc_Iof (by decide) (Nat.le_of_ble_eq_true rfl) ?_
  intro p e s m args below meth c A ls Q H locs hQ hB hP hS
  obtain ⟨hx, hb, hr, hlk, hin, hml, hown, hts, hA, hK, hD, hE, hl⟩ := hB
  have hF : xf_F g p m c cd_MO_count 2 s args "StackedRowsModel" A := ⟨⟨hx, hb, hml, hown, hts⟩, hE, hK, hA⟩
  have hl : lv_has ls 2 [(0, .ref h), (1, .int x1)] := hl
  have hown : s.vm.findClass "StackedRowsModel" = some m.cls := hown
  refine lv_aload_n hx hb dd_MO_count_0 rfl (lv_at hl 0 rfl) ?_
  refine lv_iload_n hx hb dd_MO_count_1 rfl (lv_at hl 1 rfl) ?_
  refine xb_r0lt (tgt := 14) hx hb dd_MO_count_2 rfl (fun h_1 => ?_) (fun h_1 => ?_)
  · refine lv_iconst (v := nI 1) hx hb dd_MO_count_14 (by decide) ?_
    refine pf_MO_68 hx hb hts hown hK hP hD hS 0 rfl rfl rfl (Nat.le_of_ble_eq_true rfl) dd_MO_count_15 (fun H locs hP hD hS => ?_)
    have hP : va_P g.1 vwCl [oc_o h 11 [.int (nI 1), .ref m_tape, .int (nI 0), .ref m_words, .int (nI 0), .int (nI 0), .int (nI 0), .ref m_mixed, .ref m_signs, .int (nI 0), .int (nI 0), .ref m_places, .int (nI 0), .int (nI 0), .int (nI 0), .int (nI 0), .ref m_row, .ref m_lost, .ref m_powers, .ref m_sums, .ref m_counted, .ref m_gone, .ref m_above, .ref m_below, .ref m_old, .ref m_now, .ref m_work, .ref m_isWrong, .ref m_out, .int (nI 0), .ref m_digits, .int (nI 0)]] H := hP
    have hD : va_D A [oc_o h 11 [.int (nI 1), .ref m_tape, .int (nI 0), .ref m_words, .int (nI 0), .int (nI 0), .int (nI 0), .ref m_mixed, .ref m_signs, .int (nI 0), .int (nI 0), .ref m_places, .int (nI 0), .int (nI 0), .int (nI 0), .int (nI 0), .ref m_row, .ref m_lost, .ref m_powers, .ref m_sums, .ref m_counted, .ref m_gone, .ref m_above, .ref m_below, .ref m_old, .ref m_now, .ref m_work, .ref m_isWrong, .ref m_out, .int (nI 0), .ref m_digits, .int (nI 0)]] := hD
    refine lv_aload_n hx hb dd_MO_count_18 rfl (lv_at hl 0 rfl) ?_
    refine gf_MO_68 hx hb hts hown hK hP 0 rfl rfl dd_MO_count_19 ?_
    refine lv_if_le (tgt := 29) hx hb dd_MO_count_22 rfl (fun h_2 => absurd h_2 (by decide)) (fun _ => ?_)
    refine lv_iconst (v := nI 0) hx hb dd_MO_count_25 (by decide) ?_
    refine lv_goto (tgt := 56) hx hb dd_MO_count_26 rfl ?_
    exact xr_i hx hb hr hlk hQ hP hD hS () trivial [0] (by decide) rfl rfl (Nat.le_of_ble_eq_true rfl) (Nat.le_of_ble_eq_true rfl) dd_MO_count_56
  · refine lv_iload_n hx hb dd_MO_count_5 rfl (lv_at hl 1 rfl) ?_
    refine lv_iconst (v := nI 2) hx hb dd_MO_count_6 (by decide) ?_
    refine xb_rgt (tgt := 14) hx hb (by omega) dd_MO_count_7 rfl (fun h_3 => ?_) (fun h_3 => False.elim (by omega))
    refine lv_iconst (v := nI 1) hx hb dd_MO_count_14 (by decide) ?_
    refine pf_MO_68 hx hb hts hown hK hP hD hS 0 rfl rfl rfl (Nat.le_of_ble_eq_true rfl) dd_MO_count_15 (fun H locs hP hD hS => ?_)
    have hP : va_P g.1 vwCl [oc_o h 11 [.int (nI 1), .ref m_tape, .int (nI 0), .ref m_words, .int (nI 0), .int (nI 0), .int (nI 0), .ref m_mixed, .ref m_signs, .int (nI 0), .int (nI 0), .ref m_places, .int (nI 0), .int (nI 0), .int (nI 0), .int (nI 0), .ref m_row, .ref m_lost, .ref m_powers, .ref m_sums, .ref m_counted, .ref m_gone, .ref m_above, .ref m_below, .ref m_old, .ref m_now, .ref m_work, .ref m_isWrong, .ref m_out, .int (nI 0), .ref m_digits, .int (nI 0)]] H := hP
    have hD : va_D A [oc_o h 11 [.int (nI 1), .ref m_tape, .int (nI 0), .ref m_words, .int (nI 0), .int (nI 0), .int (nI 0), .ref m_mixed, .ref m_signs, .int (nI 0), .int (nI 0), .ref m_places, .int (nI 0), .int (nI 0), .int (nI 0), .int (nI 0), .ref m_row, .ref m_lost, .ref m_powers, .ref m_sums, .ref m_counted, .ref m_gone, .ref m_above, .ref m_below, .ref m_old, .ref m_now, .ref m_work, .ref m_isWrong, .ref m_out, .int (nI 0), .ref m_digits, .int (nI 0)]] := hD
    refine lv_aload_n hx hb dd_MO_count_18 rfl (lv_at hl 0 rfl) ?_
    refine gf_MO_68 hx hb hts hown hK hP 0 rfl rfl dd_MO_count_19 ?_
    refine lv_if_le (tgt := 29) hx hb dd_MO_count_22 rfl (fun h_4 => absurd h_4 (by decide)) (fun _ => ?_)
    refine lv_iconst (v := nI 0) hx hb dd_MO_count_25 (by decide) ?_
    refine lv_goto (tgt := 56) hx hb dd_MO_count_26 rfl ?_
    exact xr_i hx hb hr hlk hQ hP hD hS () trivial [0] (by decide) rfl rfl (Nat.le_of_ble_eq_true rfl) (Nat.le_of_ble_eq_true rfl) dd_MO_count_56

set_option maxHeartbeats 4000000 in
set_option maxRecDepth 100000 in
theorem cm_makeA (l : Launch) (g : xg_G) (h : Nat) (m_tape : Nat) (m_words : Nat) (m_mixed : Nat) (m_signs : Nat) (m_places : Nat) (m_row : Nat) (m_lost : Nat) (m_powers : Nat) (m_sums : Nat) (m_counted : Nat) (m_gone : Nat) (m_above : Nat) (m_below : Nat) (m_old : Nat) (m_now : Nat) (m_work : Nat) (m_isWrong : Nat) (m_out : Nat) (m_digits : Nat) (x1 : Int32) (x2 : Int32) (qx : x1.toInt < 0 ∨ 8 < x1.toInt ∨ x2.toInt < 1 ∨ 30 < x2.toInt) : kc_I l yy_MO_make cd_MO_make 7 .int { frames := 0, cells := 0, slots := 0, locals := 0 } g [.ref h, .int x1, .int x2] [oc_o h 11 [.int (nI 0), .ref m_tape, .int (nI 0), .ref m_words, .int (nI 0), .int (nI 0), .int (nI 0), .ref m_mixed, .ref m_signs, .int (nI 0), .int (nI 0), .ref m_places, .int (nI 0), .int (nI 0), .int (nI 0), .int (nI 0), .ref m_row, .ref m_lost, .ref m_powers, .ref m_sums, .ref m_counted, .ref m_gone, .ref m_above, .ref m_below, .ref m_old, .ref m_now, .ref m_work, .ref m_isWrong, .ref m_out, .int (nI 0), .ref m_digits, .int (nI 0)]] (S := Unit) (fun _ _ => True) (fun _ => [oc_o h 11 [.int (nI 1), .ref m_tape, .int (nI 0), .ref m_words, .int (nI 0), .int (nI 0), .int (nI 0), .ref m_mixed, .ref m_signs, .int (nI 0), .int (nI 0), .ref m_places, .int (nI 0), .int (nI 0), .int (nI 0), .int (nI 0), .ref m_row, .ref m_lost, .ref m_powers, .ref m_sums, .ref m_counted, .ref m_gone, .ref m_above, .ref m_below, .ref m_old, .ref m_now, .ref m_work, .ref m_isWrong, .ref m_out, .int (nI 0), .ref m_digits, .int (nI 0)]]) := by
  refine kc_Iof (by decide) (Nat.le_of_ble_eq_true rfl) ?_
  intro p e s m args below meth c A ls Q H locs hQ hB hP hS
  obtain ⟨hx, hb, hr, hlk, hin, hml, hown, hts, hA, hK, hD, hE, hl⟩ := hB
  have hF : xf_F g p m c cd_MO_make 7 s args "StackedRowsModel" A := ⟨⟨hx, hb, hml, hown, hts⟩, hE, hK, hA⟩
  have hl : lv_has ls 7 [(0, .ref h), (1, .int x1), (2, .int x2)] := hl
  have hown : s.vm.findClass "StackedRowsModel" = some m.cls := hown
  refine lv_aload_n hx hb dd_MO_make_0 rfl (lv_at hl 0 rfl) ?_
  refine lv_iload_n hx hb dd_MO_make_1 rfl (lv_at hl 1 rfl) ?_
  refine xb_r0lt (tgt := 26) hx hb dd_MO_make_2 rfl (fun h_1 => ?_) (fun h_1 => ?_)
  · refine lv_iconst (v := nI 1) hx hb dd_MO_make_26 (by decide) ?_
    refine pf_MO_68 hx hb hts hown hK hP hD hS 0 rfl rfl rfl (Nat.le_of_ble_eq_true rfl) dd_MO_make_27 (fun H locs hP hD hS => ?_)
    have hP : va_P g.1 vwCl [oc_o h 11 [.int (nI 1), .ref m_tape, .int (nI 0), .ref m_words, .int (nI 0), .int (nI 0), .int (nI 0), .ref m_mixed, .ref m_signs, .int (nI 0), .int (nI 0), .ref m_places, .int (nI 0), .int (nI 0), .int (nI 0), .int (nI 0), .ref m_row, .ref m_lost, .ref m_powers, .ref m_sums, .ref m_counted, .ref m_gone, .ref m_above, .ref m_below, .ref m_old, .ref m_now, .ref m_work, .ref m_isWrong, .ref m_out, .int (nI 0), .ref m_digits, .int (nI 0)]] H := hP
    have hD : va_D A [oc_o h 11 [.int (nI 1), .ref m_tape, .int (nI 0), .ref m_words, .int (nI 0), .int (nI 0), .int (nI 0), .ref m_mixed, .ref m_signs, .int (nI 0), .int (nI 0), .ref m_places, .int (nI 0), .int (nI 0), .int (nI 0), .int (nI 0), .ref m_row, .ref m_lost, .ref m_powers, .ref m_sums, .ref m_counted, .ref m_gone, .ref m_above, .ref m_below, .ref m_old, .ref m_now, .ref m_work, .ref m_isWrong, .ref m_out, .int (nI 0), .ref m_digits, .int (nI 0)]] := hD
    refine lv_aload_n hx hb dd_MO_make_30 rfl (lv_at hl 0 rfl) ?_
    refine gf_MO_68 hx hb hts hown hK hP 0 rfl rfl dd_MO_make_31 ?_
    refine lv_if_le (tgt := 39) hx hb dd_MO_make_34 rfl (fun h_2 => absurd h_2 (by decide)) (fun _ => ?_)
    refine lv_iconst (v := nI 0) hx hb dd_MO_make_37 (by decide) ?_
    exact xr_i hx hb hr hlk hQ hP hD hS () trivial [0] (by decide) rfl rfl (Nat.le_of_ble_eq_true rfl) (Nat.le_of_ble_eq_true rfl) dd_MO_make_38
  · refine lv_iload_n hx hb dd_MO_make_5 rfl (lv_at hl 1 rfl) ?_
    refine lv_bipush (v := nI 8) hx hb dd_MO_make_6 (by decide) ?_
    refine xb_rgt (tgt := 26) hx hb (by omega) dd_MO_make_8 rfl (fun h_3 => ?_) (fun h_3 => ?_)
    · refine lv_iconst (v := nI 1) hx hb dd_MO_make_26 (by decide) ?_
      refine pf_MO_68 hx hb hts hown hK hP hD hS 0 rfl rfl rfl (Nat.le_of_ble_eq_true rfl) dd_MO_make_27 (fun H locs hP hD hS => ?_)
      have hP : va_P g.1 vwCl [oc_o h 11 [.int (nI 1), .ref m_tape, .int (nI 0), .ref m_words, .int (nI 0), .int (nI 0), .int (nI 0), .ref m_mixed, .ref m_signs, .int (nI 0), .int (nI 0), .ref m_places, .int (nI 0), .int (nI 0), .int (nI 0), .int (nI 0), .ref m_row, .ref m_lost, .ref m_powers, .ref m_sums, .ref m_counted, .ref m_gone, .ref m_above, .ref m_below, .ref m_old, .ref m_now, .ref m_work, .ref m_isWrong, .ref m_out, .int (nI 0), .ref m_digits, .int (nI 0)]] H := hP
      have hD : va_D A [oc_o h 11 [.int (nI 1), .ref m_tape, .int (nI 0), .ref m_words, .int (nI 0), .int (nI 0), .int (nI 0), .ref m_mixed, .ref m_signs, .int (nI 0), .int (nI 0), .ref m_places, .int (nI 0), .int (nI 0), .int (nI 0), .int (nI 0), .ref m_row, .ref m_lost, .ref m_powers, .ref m_sums, .ref m_counted, .ref m_gone, .ref m_above, .ref m_below, .ref m_old, .ref m_now, .ref m_work, .ref m_isWrong, .ref m_out, .int (nI 0), .ref m_digits, .int (nI 0)]] := hD
      refine lv_aload_n hx hb dd_MO_make_30 rfl (lv_at hl 0 rfl) ?_
      refine gf_MO_68 hx hb hts hown hK hP 0 rfl rfl dd_MO_make_31 ?_
      refine lv_if_le (tgt := 39) hx hb dd_MO_make_34 rfl (fun h_4 => absurd h_4 (by decide)) (fun _ => ?_)
      refine lv_iconst (v := nI 0) hx hb dd_MO_make_37 (by decide) ?_
      exact xr_i hx hb hr hlk hQ hP hD hS () trivial [0] (by decide) rfl rfl (Nat.le_of_ble_eq_true rfl) (Nat.le_of_ble_eq_true rfl) dd_MO_make_38
    · refine lv_iload_n hx hb dd_MO_make_11 rfl (lv_at hl 2 rfl) ?_
      refine lv_iconst (v := nI 1) hx hb dd_MO_make_12 (by decide) ?_
      refine xb_rlt (tgt := 26) hx hb (by omega) dd_MO_make_13 rfl (fun h_5 => ?_) (fun h_5 => ?_)
      · refine lv_iconst (v := nI 1) hx hb dd_MO_make_26 (by decide) ?_
        refine pf_MO_68 hx hb hts hown hK hP hD hS 0 rfl rfl rfl (Nat.le_of_ble_eq_true rfl) dd_MO_make_27 (fun H locs hP hD hS => ?_)
        have hP : va_P g.1 vwCl [oc_o h 11 [.int (nI 1), .ref m_tape, .int (nI 0), .ref m_words, .int (nI 0), .int (nI 0), .int (nI 0), .ref m_mixed, .ref m_signs, .int (nI 0), .int (nI 0), .ref m_places, .int (nI 0), .int (nI 0), .int (nI 0), .int (nI 0), .ref m_row, .ref m_lost, .ref m_powers, .ref m_sums, .ref m_counted, .ref m_gone, .ref m_above, .ref m_below, .ref m_old, .ref m_now, .ref m_work, .ref m_isWrong, .ref m_out, .int (nI 0), .ref m_digits, .int (nI 0)]] H := hP
        have hD : va_D A [oc_o h 11 [.int (nI 1), .ref m_tape, .int (nI 0), .ref m_words, .int (nI 0), .int (nI 0), .int (nI 0), .ref m_mixed, .ref m_signs, .int (nI 0), .int (nI 0), .ref m_places, .int (nI 0), .int (nI 0), .int (nI 0), .int (nI 0), .ref m_row, .ref m_lost, .ref m_powers, .ref m_sums, .ref m_counted, .ref m_gone, .ref m_above, .ref m_below, .ref m_old, .ref m_now, .ref m_work, .ref m_isWrong, .ref m_out, .int (nI 0), .ref m_digits, .int (nI 0)]] := hD
        refine lv_aload_n hx hb dd_MO_make_30 rfl (lv_at hl 0 rfl) ?_
        refine gf_MO_68 hx hb hts hown hK hP 0 rfl rfl dd_MO_make_31 ?_
        refine lv_if_le (tgt := 39) hx hb dd_MO_make_34 rfl (fun h_6 => absurd h_6 (by decide)) (fun _ => ?_)
        refine lv_iconst (v := nI 0) hx hb dd_MO_make_37 (by decide) ?_
        exact xr_i hx hb hr hlk hQ hP hD hS () trivial [0] (by decide) rfl rfl (Nat.le_of_ble_eq_true rfl) (Nat.le_of_ble_eq_true rfl) dd_MO_make_38
      · refine lv_iload_n hx hb dd_MO_make_16 rfl (lv_at hl 2 rfl) ?_
        refine lv_bipush (v := nI 30) hx hb dd_MO_make_17 (by decide) ?_
        refine xb_rgt (tgt := 26) hx hb (by omega) dd_MO_make_19 rfl (fun h_7 => ?_) (fun h_7 => False.elim (by omega))
        refine lv_iconst (v := nI 1) hx hb dd_MO_make_26 (by decide) ?_
        refine pf_MO_68 hx hb hts hown hK hP hD hS 0 rfl rfl rfl (Nat.le_of_ble_eq_true rfl) dd_MO_make_27 (fun H locs hP hD hS => ?_)
        have hP : va_P g.1 vwCl [oc_o h 11 [.int (nI 1), .ref m_tape, .int (nI 0), .ref m_words, .int (nI 0), .int (nI 0), .int (nI 0), .ref m_mixed, .ref m_signs, .int (nI 0), .int (nI 0), .ref m_places, .int (nI 0), .int (nI 0), .int (nI 0), .int (nI 0), .ref m_row, .ref m_lost, .ref m_powers, .ref m_sums, .ref m_counted, .ref m_gone, .ref m_above, .ref m_below, .ref m_old, .ref m_now, .ref m_work, .ref m_isWrong, .ref m_out, .int (nI 0), .ref m_digits, .int (nI 0)]] H := hP
        have hD : va_D A [oc_o h 11 [.int (nI 1), .ref m_tape, .int (nI 0), .ref m_words, .int (nI 0), .int (nI 0), .int (nI 0), .ref m_mixed, .ref m_signs, .int (nI 0), .int (nI 0), .ref m_places, .int (nI 0), .int (nI 0), .int (nI 0), .int (nI 0), .ref m_row, .ref m_lost, .ref m_powers, .ref m_sums, .ref m_counted, .ref m_gone, .ref m_above, .ref m_below, .ref m_old, .ref m_now, .ref m_work, .ref m_isWrong, .ref m_out, .int (nI 0), .ref m_digits, .int (nI 0)]] := hD
        refine lv_aload_n hx hb dd_MO_make_30 rfl (lv_at hl 0 rfl) ?_
        refine gf_MO_68 hx hb hts hown hK hP 0 rfl rfl dd_MO_make_31 ?_
        refine lv_if_le (tgt := 39) hx hb dd_MO_make_34 rfl (fun h_8 => absurd h_8 (by decide)) (fun _ => ?_)
        refine lv_iconst (v := nI 0) hx hb dd_MO_make_37 (by decide) ?_
        exact xr_i hx hb hr hlk hQ hP hD hS () trivial [0] (by decide) rfl rfl (Nat.le_of_ble_eq_true rfl) (Nat.le_of_ble_eq_true rfl) dd_MO_make_38

set_option maxHeartbeats 4000000 in
set_option maxRecDepth 100000 in
theorem cm_makeU (l : Launch) (g : xg_G) (h : Nat) (m_tape : Nat) (m_words : Nat) (m_mixed : Nat) (m_signs : Nat) (m_places : Nat) (m_row : Nat) (m_lost : Nat) (m_powers : Nat) (m_sums : Nat) (m_counted : Nat) (m_gone : Nat) (m_above : Nat) (m_below : Nat) (m_old : Nat) (m_now : Nat) (m_work : Nat) (m_isWrong : Nat) (m_out : Nat) (m_digits : Nat) (L : Nat) (cc : Nat) (K : Nat) (rr : Nat) (qL : L ≤ 8) (qK : K = 2 ^ (L + 1)) (qK2 : 2 ≤ K ∧ K ≤ 512) (qc : 1 ≤ cc) (qc2 : cc ≤ 30) (qr : rr = xr_hh (1 + K) cc) (qu : 90 < rr ∨ 928 < rr * cc) (qv : rr ≤ 513) : kc_I l yy_MO_make cd_MO_make 7 .int { frames := 1, cells := 0, slots := 0, locals := 25 } g [.ref h, .int (nI L), .int (nI cc)] [oc_o h 11 [.int (nI 0), .ref m_tape, .int (nI 0), .ref m_words, .int (nI 0), .int (nI 0), .int (nI 0), .ref m_mixed, .ref m_signs, .int (nI 0), .int (nI 0), .ref m_places, .int (nI 0), .int (nI 0), .int (nI 0), .int (nI 0), .ref m_row, .ref m_lost, .ref m_powers, .ref m_sums, .ref m_counted, .ref m_gone, .ref m_above, .ref m_below, .ref m_old, .ref m_now, .ref m_work, .ref m_isWrong, .ref m_out, .int (nI 0), .ref m_digits, .int (nI 0)]] (S := Unit) (fun _ _ => True) (fun _ => [oc_o h 11 [.int (nI 2), .ref m_tape, .int (nI 0), .ref m_words, .int (nI 0), .int (nI 0), .int (nI 0), .ref m_mixed, .ref m_signs, .int (nI 0), .int (nI 0), .ref m_places, .int (nI 0), .int (nI 0), .int (nI 0), .int (nI 0), .ref m_row, .ref m_lost, .ref m_powers, .ref m_sums, .ref m_counted, .ref m_gone, .ref m_above, .ref m_below, .ref m_old, .ref m_now, .ref m_work, .ref m_isWrong, .ref m_out, .int (nI 0), .ref m_digits, .int (nI 0)]]) := by
  refine kc_Iof (by decide) (Nat.le_of_ble_eq_true rfl) ?_
  intro p e s m args below meth c A ls Q H locs hQ hB hP hS
  obtain ⟨hx, hb, hr, hlk, hin, hml, hown, hts, hA, hK, hD, hE, hl⟩ := hB
  have hF : xf_F g p m c cd_MO_make 7 s args "StackedRowsModel" A := ⟨⟨hx, hb, hml, hown, hts⟩, hE, hK, hA⟩
  have hl : lv_has ls 7 [(0, .ref h), (1, .int (nI L)), (2, .int (nI cc))] := hl
  have hown : s.vm.findClass "StackedRowsModel" = some m.cls := hown
  refine lv_aload_n hx hb dd_MO_make_0 rfl (lv_at hl 0 rfl) ?_
  refine lv_iload_n hx hb dd_MO_make_1 rfl (lv_at hl 1 rfl) ?_
  refine xb_zlt (tgt := 26) hx hb (by omega) dd_MO_make_2 rfl ?_
  refine lv_iload_n hx hb dd_MO_make_5 rfl (lv_at hl 1 rfl) ?_
  refine lv_bipush (v := nI 8) hx hb dd_MO_make_6 (by decide) ?_
  refine xb_gt (tgt := 26) hx hb (by omega) (by omega) dd_MO_make_8 rfl (fun h_1 => False.elim (by omega)) (fun h_1 => ?_)
  refine lv_iload_n hx hb dd_MO_make_11 rfl (lv_at hl 2 rfl) ?_
  refine lv_iconst (v := nI 1) hx hb dd_MO_make_12 (by decide) ?_
  refine xb_lt (tgt := 26) hx hb (by omega) (by omega) dd_MO_make_13 rfl (fun h_2 => False.elim (by omega)) (fun h_2 => ?_)
  refine lv_iload_n hx hb dd_MO_make_16 rfl (lv_at hl 2 rfl) ?_
  refine lv_bipush (v := nI 30) hx hb dd_MO_make_17 (by decide) ?_
  refine xb_gt (tgt := 26) hx hb (by omega) (by omega) dd_MO_make_19 rfl (fun h_3 => False.elim (by omega)) (fun h_3 => ?_)
  refine lv_iconst (v := nI 0) hx hb dd_MO_make_22 (by decide) ?_
  refine lv_goto (tgt := 27) hx hb dd_MO_make_23 rfl ?_
  refine pf_MO_68 hx hb hts hown hK hP hD hS 0 rfl rfl rfl (Nat.le_of_ble_eq_true rfl) dd_MO_make_27 (fun H locs hP hD hS => ?_)
  have hP : va_P g.1 vwCl [oc_o h 11 [.int (nI 0), .ref m_tape, .int (nI 0), .ref m_words, .int (nI 0), .int (nI 0), .int (nI 0), .ref m_mixed, .ref m_signs, .int (nI 0), .int (nI 0), .ref m_places, .int (nI 0), .int (nI 0), .int (nI 0), .int (nI 0), .ref m_row, .ref m_lost, .ref m_powers, .ref m_sums, .ref m_counted, .ref m_gone, .ref m_above, .ref m_below, .ref m_old, .ref m_now, .ref m_work, .ref m_isWrong, .ref m_out, .int (nI 0), .ref m_digits, .int (nI 0)]] H := hP
  have hD : va_D A [oc_o h 11 [.int (nI 0), .ref m_tape, .int (nI 0), .ref m_words, .int (nI 0), .int (nI 0), .int (nI 0), .ref m_mixed, .ref m_signs, .int (nI 0), .int (nI 0), .ref m_places, .int (nI 0), .int (nI 0), .int (nI 0), .int (nI 0), .ref m_row, .ref m_lost, .ref m_powers, .ref m_sums, .ref m_counted, .ref m_gone, .ref m_above, .ref m_below, .ref m_old, .ref m_now, .ref m_work, .ref m_isWrong, .ref m_out, .int (nI 0), .ref m_digits, .int (nI 0)]] := hD
  refine lv_aload_n hx hb dd_MO_make_30 rfl (lv_at hl 0 rfl) ?_
  refine gf_MO_68 hx hb hts hown hK hP 0 rfl rfl dd_MO_make_31 ?_
  refine lv_if_le (tgt := 39) hx hb dd_MO_make_34 rfl (fun _ => ?_) (fun h_4 => absurd (by decide) h_4)
  refine lv_aload_n hx hb dd_MO_make_39 rfl (lv_at hl 0 rfl) ?_
  refine xc_Vv (wr := []) (k1 := 0) (k2 := 0) (As := []) (rest := []) (k := 0) hF hP hD hS (cm_writeAll l g h m_tape m_words m_mixed m_signs m_places m_row m_lost m_powers m_sums m_counted m_gone m_above m_below m_old m_now m_work m_isWrong m_out m_digits) (xt_V ml_MO_131 wi_MO_writeAll wx_MO_writeAll wn_MO wc_MO_writeAll) (by decide) 0 rfl rfl rfl [0] [] ⟨rfl, rfl, by decide, by decide, by decide⟩ ⟨⟨Nat.le_of_ble_eq_true rfl, Nat.le_of_ble_eq_true rfl⟩, rfl, rfl, Nat.le_of_ble_eq_true rfl, Nat.le_of_ble_eq_true rfl⟩ rfl hl.1 rfl (Nat.le_of_ble_eq_true rfl) dd_MO_make_40 (fun u H locs hp hP hD hS => ?_)
  have hP : va_P g.1 vwCl [oc_o h 11 [.int (nI 0), .ref m_tape, .int (nI 0), .ref m_words, .int (nI 0), .int (nI 0), .int (nI 0), .ref m_mixed, .ref m_signs, .int (nI 0), .int (nI 0), .ref m_places, .int (nI 0), .int (nI 0), .int (nI 0), .int (nI 0), .ref m_row, .ref m_lost, .ref m_powers, .ref m_sums, .ref m_counted, .ref m_gone, .ref m_above, .ref m_below, .ref m_old, .ref m_now, .ref m_work, .ref m_isWrong, .ref m_out, .int (nI 0), .ref m_digits, .int (nI 0)]] H := hP
  have hD : va_D A [oc_o h 11 [.int (nI 0), .ref m_tape, .int (nI 0), .ref m_words, .int (nI 0), .int (nI 0), .int (nI 0), .ref m_mixed, .ref m_signs, .int (nI 0), .int (nI 0), .ref m_places, .int (nI 0), .int (nI 0), .int (nI 0), .int (nI 0), .ref m_row, .ref m_lost, .ref m_powers, .ref m_sums, .ref m_counted, .ref m_gone, .ref m_above, .ref m_below, .ref m_old, .ref m_now, .ref m_work, .ref m_isWrong, .ref m_out, .int (nI 0), .ref m_digits, .int (nI 0)]] := hD
  refine lv_iconst (v := nI 2) hx hb dd_MO_make_43 (by decide) ?_
  refine lv_iload_n hx hb dd_MO_make_44 rfl (lv_at hl 1 rfl) ?_
  refine lv_ishl hx hb dd_MO_make_45 (xi_eq (v := nI K) (xr_shl qL qK) ?_)
  refine lv_istore_n (lv' := [(3, .int (nI K)), (0, .ref h), (1, .int (nI L)), (2, .int (nI cc))]) hx hb dd_MO_make_46 rfl hl (by decide) rfl (fun ls hl => ?_)
  refine lv_iconst (v := nI 1) hx hb dd_MO_make_47 (by decide) ?_
  refine lv_aload_n hx hb dd_MO_make_48 rfl (lv_at hl 1 rfl) ?_
  refine gf_MO_89 hx hb hts hown hK hP 0 rfl rfl dd_MO_make_49 ?_
  refine xi_iadd hx hb dd_MO_make_52 ?_
  refine lv_iload_n hx hb dd_MO_make_53 rfl (lv_at hl 0 rfl) ?_
  refine xi_iadd hx hb dd_MO_make_54 ?_
  refine lv_iload_n hx hb dd_MO_make_55 rfl (lv_at hl 3 rfl) ?_
  refine xi_iadd hx hb dd_MO_make_56 ?_
  refine lv_iconst (v := nI 1) hx hb dd_MO_make_57 (by decide) ?_
  refine xi_isub hx hb (by omega) dd_MO_make_58 ?_
  refine lv_iload_n hx hb dd_MO_make_59 rfl (lv_at hl 3 rfl) ?_
  refine xi_idiv hx hb (by omega) (by omega) (by omega) dd_MO_make_60 ?_
  refine lv_istore (lv' := [(4, .int (nI (((1 + K + cc) - 1) / cc))), (3, .int (nI K)), (0, .ref h), (1, .int (nI L)), (2, .int (nI cc))]) hx hb dd_MO_make_61 hl (by decide) rfl (fun ls hl => ?_)
  refine lv_iload hx hb dd_MO_make_63 (lv_at hl 0 rfl) ?_
  refine lv_iconst (v := nI 3) hx hb dd_MO_make_65 (by decide) ?_
  have qd9 : (1 + K + cc - 1) / cc ≤ 600 := Nat.le_trans (Nat.div_le_self _ _) (by omega)
  refine xb_ge (tgt := 73) hx hb (by omega) (by omega) dd_MO_make_66 rfl (fun qh9 => ?_) (fun qh9 => ?_)
  · refine lv_iload hx hb dd_MO_make_73 (lv_at hl 0 rfl) ?_
    refine xi_eq (v := nI rr) (congrArg nI (by first | exact xr_a qr qh9 | exact xr_b qr qh9)) ?_
    refine lv_istore (lv' := [(4, .int (nI rr)), (3, .int (nI K)), (0, .ref h), (1, .int (nI L)), (2, .int (nI cc))]) hx hb dd_MO_make_75 hl (by decide) rfl (fun ls hl => ?_)
    refine lv_aload_n hx hb dd_MO_make_77 rfl (lv_at hl 2 rfl) ?_
    refine lv_iload hx hb dd_MO_make_78 (lv_at hl 0 rfl) ?_
    refine lv_bipush (v := nI 90) hx hb dd_MO_make_80 (by decide) ?_
    refine xb_gt (tgt := 95) hx hb (by omega) (by omega) dd_MO_make_82 rfl (fun qa9 => ?_) (fun qa9 => ?_)
    · refine lv_iconst (v := nI 2) hx hb dd_MO_make_95 (by decide) ?_
      refine lv_goto (tgt := 100) hx hb dd_MO_make_96 rfl ?_
      refine pf_MO_68 hx hb hts hown hK hP hD hS 0 rfl rfl rfl (Nat.le_of_ble_eq_true rfl) dd_MO_make_100 (fun H locs hP hD hS => ?_)
      have hP : va_P g.1 vwCl [oc_o h 11 [.int (nI 2), .ref m_tape, .int (nI 0), .ref m_words, .int (nI 0), .int (nI 0), .int (nI 0), .ref m_mixed, .ref m_signs, .int (nI 0), .int (nI 0), .ref m_places, .int (nI 0), .int (nI 0), .int (nI 0), .int (nI 0), .ref m_row, .ref m_lost, .ref m_powers, .ref m_sums, .ref m_counted, .ref m_gone, .ref m_above, .ref m_below, .ref m_old, .ref m_now, .ref m_work, .ref m_isWrong, .ref m_out, .int (nI 0), .ref m_digits, .int (nI 0)]] H := hP
      have hD : va_D A [oc_o h 11 [.int (nI 2), .ref m_tape, .int (nI 0), .ref m_words, .int (nI 0), .int (nI 0), .int (nI 0), .ref m_mixed, .ref m_signs, .int (nI 0), .int (nI 0), .ref m_places, .int (nI 0), .int (nI 0), .int (nI 0), .int (nI 0), .ref m_row, .ref m_lost, .ref m_powers, .ref m_sums, .ref m_counted, .ref m_gone, .ref m_above, .ref m_below, .ref m_old, .ref m_now, .ref m_work, .ref m_isWrong, .ref m_out, .int (nI 0), .ref m_digits, .int (nI 0)]] := hD
      refine lv_aload_n hx hb dd_MO_make_103 rfl (lv_at hl 2 rfl) ?_
      refine gf_MO_68 hx hb hts hown hK hP 0 rfl rfl dd_MO_make_104 ?_
      refine lv_if_le (tgt := 112) hx hb dd_MO_make_107 rfl (fun h_6 => absurd h_6 (by decide)) (fun _ => ?_)
      refine lv_iconst (v := nI 0) hx hb dd_MO_make_110 (by decide) ?_
      exact xr_i hx hb hr hlk hQ hP hD hS () trivial [0] (by decide) rfl rfl (Nat.le_of_ble_eq_true rfl) (Nat.le_of_ble_eq_true rfl) dd_MO_make_111
    · refine lv_iload hx hb dd_MO_make_85 (lv_at hl 0 rfl) ?_
      have q93 : rr * cc ≤ 513 * 30 := Nat.mul_le_mul qv qc2
      refine lv_iload_n hx hb dd_MO_make_87 rfl (lv_at hl 4 rfl) ?_
      refine xi_imul hx hb dd_MO_make_88 ?_
      refine lv_sipush (v := nI 928) hx hb dd_MO_make_89 (by decide) ?_
      refine xb_le (tgt := 99) hx hb (by omega) (by omega) dd_MO_make_92 rfl (fun h_7 => False.elim (by omega)) (fun h_7 => ?_)
      refine lv_iconst (v := nI 2) hx hb dd_MO_make_95 (by decide) ?_
      refine lv_goto (tgt := 100) hx hb dd_MO_make_96 rfl ?_
      refine pf_MO_68 hx hb hts hown hK hP hD hS 0 rfl rfl rfl (Nat.le_of_ble_eq_true rfl) dd_MO_make_100 (fun H locs hP hD hS => ?_)
      have hP : va_P g.1 vwCl [oc_o h 11 [.int (nI 2), .ref m_tape, .int (nI 0), .ref m_words, .int (nI 0), .int (nI 0), .int (nI 0), .ref m_mixed, .ref m_signs, .int (nI 0), .int (nI 0), .ref m_places, .int (nI 0), .int (nI 0), .int (nI 0), .int (nI 0), .ref m_row, .ref m_lost, .ref m_powers, .ref m_sums, .ref m_counted, .ref m_gone, .ref m_above, .ref m_below, .ref m_old, .ref m_now, .ref m_work, .ref m_isWrong, .ref m_out, .int (nI 0), .ref m_digits, .int (nI 0)]] H := hP
      have hD : va_D A [oc_o h 11 [.int (nI 2), .ref m_tape, .int (nI 0), .ref m_words, .int (nI 0), .int (nI 0), .int (nI 0), .ref m_mixed, .ref m_signs, .int (nI 0), .int (nI 0), .ref m_places, .int (nI 0), .int (nI 0), .int (nI 0), .int (nI 0), .ref m_row, .ref m_lost, .ref m_powers, .ref m_sums, .ref m_counted, .ref m_gone, .ref m_above, .ref m_below, .ref m_old, .ref m_now, .ref m_work, .ref m_isWrong, .ref m_out, .int (nI 0), .ref m_digits, .int (nI 0)]] := hD
      refine lv_aload_n hx hb dd_MO_make_103 rfl (lv_at hl 2 rfl) ?_
      refine gf_MO_68 hx hb hts hown hK hP 0 rfl rfl dd_MO_make_104 ?_
      refine lv_if_le (tgt := 112) hx hb dd_MO_make_107 rfl (fun h_8 => absurd h_8 (by decide)) (fun _ => ?_)
      refine lv_iconst (v := nI 0) hx hb dd_MO_make_110 (by decide) ?_
      exact xr_i hx hb hr hlk hQ hP hD hS () trivial [0] (by decide) rfl rfl (Nat.le_of_ble_eq_true rfl) (Nat.le_of_ble_eq_true rfl) dd_MO_make_111
  · refine lv_iconst (v := nI 3) hx hb dd_MO_make_69 (by decide) ?_
    refine lv_goto (tgt := 75) hx hb dd_MO_make_70 rfl ?_
    refine xi_eq (v := nI rr) (congrArg nI (by first | exact xr_a qr qh9 | exact xr_b qr qh9)) ?_
    refine lv_istore (lv' := [(4, .int (nI rr)), (3, .int (nI K)), (0, .ref h), (1, .int (nI L)), (2, .int (nI cc))]) hx hb dd_MO_make_75 hl (by decide) rfl (fun ls hl => ?_)
    refine lv_aload_n hx hb dd_MO_make_77 rfl (lv_at hl 2 rfl) ?_
    refine lv_iload hx hb dd_MO_make_78 (lv_at hl 0 rfl) ?_
    refine lv_bipush (v := nI 90) hx hb dd_MO_make_80 (by decide) ?_
    refine xb_gt (tgt := 95) hx hb (by omega) (by omega) dd_MO_make_82 rfl (fun qa9 => ?_) (fun qa9 => ?_)
    · refine lv_iconst (v := nI 2) hx hb dd_MO_make_95 (by decide) ?_
      refine lv_goto (tgt := 100) hx hb dd_MO_make_96 rfl ?_
      refine pf_MO_68 hx hb hts hown hK hP hD hS 0 rfl rfl rfl (Nat.le_of_ble_eq_true rfl) dd_MO_make_100 (fun H locs hP hD hS => ?_)
      have hP : va_P g.1 vwCl [oc_o h 11 [.int (nI 2), .ref m_tape, .int (nI 0), .ref m_words, .int (nI 0), .int (nI 0), .int (nI 0), .ref m_mixed, .ref m_signs, .int (nI 0), .int (nI 0), .ref m_places, .int (nI 0), .int (nI 0), .int (nI 0), .int (nI 0), .ref m_row, .ref m_lost, .ref m_powers, .ref m_sums, .ref m_counted, .ref m_gone, .ref m_above, .ref m_below, .ref m_old, .ref m_now, .ref m_work, .ref m_isWrong, .ref m_out, .int (nI 0), .ref m_digits, .int (nI 0)]] H := hP
      have hD : va_D A [oc_o h 11 [.int (nI 2), .ref m_tape, .int (nI 0), .ref m_words, .int (nI 0), .int (nI 0), .int (nI 0), .ref m_mixed, .ref m_signs, .int (nI 0), .int (nI 0), .ref m_places, .int (nI 0), .int (nI 0), .int (nI 0), .int (nI 0), .ref m_row, .ref m_lost, .ref m_powers, .ref m_sums, .ref m_counted, .ref m_gone, .ref m_above, .ref m_below, .ref m_old, .ref m_now, .ref m_work, .ref m_isWrong, .ref m_out, .int (nI 0), .ref m_digits, .int (nI 0)]] := hD
      refine lv_aload_n hx hb dd_MO_make_103 rfl (lv_at hl 2 rfl) ?_
      refine gf_MO_68 hx hb hts hown hK hP 0 rfl rfl dd_MO_make_104 ?_
      refine lv_if_le (tgt := 112) hx hb dd_MO_make_107 rfl (fun h_9 => absurd h_9 (by decide)) (fun _ => ?_)
      refine lv_iconst (v := nI 0) hx hb dd_MO_make_110 (by decide) ?_
      exact xr_i hx hb hr hlk hQ hP hD hS () trivial [0] (by decide) rfl rfl (Nat.le_of_ble_eq_true rfl) (Nat.le_of_ble_eq_true rfl) dd_MO_make_111
    · refine lv_iload hx hb dd_MO_make_85 (lv_at hl 0 rfl) ?_
      have q93 : rr * cc ≤ 513 * 30 := Nat.mul_le_mul qv qc2
      refine lv_iload_n hx hb dd_MO_make_87 rfl (lv_at hl 4 rfl) ?_
      refine xi_imul hx hb dd_MO_make_88 ?_
      refine lv_sipush (v := nI 928) hx hb dd_MO_make_89 (by decide) ?_
      refine xb_le (tgt := 99) hx hb (by omega) (by omega) dd_MO_make_92 rfl (fun h_10 => False.elim (by omega)) (fun h_10 => ?_)
      refine lv_iconst (v := nI 2) hx hb dd_MO_make_95 (by decide) ?_
      refine lv_goto (tgt := 100) hx hb dd_MO_make_96 rfl ?_
      refine pf_MO_68 hx hb hts hown hK hP hD hS 0 rfl rfl rfl (Nat.le_of_ble_eq_true rfl) dd_MO_make_100 (fun H locs hP hD hS => ?_)
      have hP : va_P g.1 vwCl [oc_o h 11 [.int (nI 2), .ref m_tape, .int (nI 0), .ref m_words, .int (nI 0), .int (nI 0), .int (nI 0), .ref m_mixed, .ref m_signs, .int (nI 0), .int (nI 0), .ref m_places, .int (nI 0), .int (nI 0), .int (nI 0), .int (nI 0), .ref m_row, .ref m_lost, .ref m_powers, .ref m_sums, .ref m_counted, .ref m_gone, .ref m_above, .ref m_below, .ref m_old, .ref m_now, .ref m_work, .ref m_isWrong, .ref m_out, .int (nI 0), .ref m_digits, .int (nI 0)]] H := hP
      have hD : va_D A [oc_o h 11 [.int (nI 2), .ref m_tape, .int (nI 0), .ref m_words, .int (nI 0), .int (nI 0), .int (nI 0), .ref m_mixed, .ref m_signs, .int (nI 0), .int (nI 0), .ref m_places, .int (nI 0), .int (nI 0), .int (nI 0), .int (nI 0), .ref m_row, .ref m_lost, .ref m_powers, .ref m_sums, .ref m_counted, .ref m_gone, .ref m_above, .ref m_below, .ref m_old, .ref m_now, .ref m_work, .ref m_isWrong, .ref m_out, .int (nI 0), .ref m_digits, .int (nI 0)]] := hD
      refine lv_aload_n hx hb dd_MO_make_103 rfl (lv_at hl 2 rfl) ?_
      refine gf_MO_68 hx hb hts hown hK hP 0 rfl rfl dd_MO_make_104 ?_
      refine lv_if_le (tgt := 112) hx hb dd_MO_make_107 rfl (fun h_11 => absurd h_11 (by decide)) (fun _ => ?_)
      refine lv_iconst (v := nI 0) hx hb dd_MO_make_110 (by decide) ?_
      exact xr_i hx hb hr hlk hQ hP hD hS () trivial [0] (by decide) rfl rfl (Nat.le_of_ble_eq_true rfl) (Nat.le_of_ble_eq_true rfl) dd_MO_make_111
