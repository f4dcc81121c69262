set_option maxHeartbeats 4000000 in
set_option maxRecDepth 100000 in
theorem ch_feed (l : Launch) (htr : l.stackTraces = false) (g : xg_G) (h : Nat) (tp : Nat) (wt : Nat) (ck : Nat) (sy : Nat) (sv : Nat) (rw : Nat) (lt : Nat) (tb : Nat) (o : Nat) (x : Nat) (n : Nat) (d : Nat) (e9 : Nat) (x1 : Int32) (x2 : Int32) (x3 : Int32) (x4 : Int32) (x5 : Int32) (ot : Nat) (f9 : Nat → Int64) : kc_W l yy_LW_feed cd_LW_feed 8 { frames := 3, cells := 0, slots := 0, locals := 68 } [(0, 16, 19, 13)] g [.ref h, .int x1, .int x2, .int x3, .int x4, .int x5, .ref ot] [oc_o h 0 [.ref tp, .ref wt, .ref ck, .ref sy, .ref sv, .ref rw, .ref lt], oc_o tp 8 [.ref tb, .int (nI 0)], oc_i g tb 1200 (fun _ => 0), oc_o wt 10 [.ref tp, .ref o, .ref x, .ref n, .ref d, .ref e9, .int (nI 900), .int (nI 0)], oc_l g ot 1 f9] (S := (Nat → Int64)) (fun r0 u0 => r0 = nI 0 ∧ u0 0 = (nI 20).toInt64) (fun u0 => [oc_l g ot 1 u0]) := by
  refine kc_Wof (by decide) (Nat.le_of_ble_eq_true rfl) ?_
  intro p e s m args below meth c A ls Q H locs hQ hB hP hS htab
  obtain ⟨hx, hb, hr, hlk, hin, hml, hown, hts, hA, hK, hD, hE, hl⟩ := hB
  have hF : xf_F g p m c cd_LW_feed 8 s args "StackedRowsLaw" A := ⟨⟨hx, hb, hml, hown, hts⟩, hE, hK, hA⟩
  have hl : lv_has ls 8 [(0, .ref h), (1, .int x1), (2, .int x2), (3, .int x3), (4, .int x4), (5, .int x5), (6, .ref ot)] := hl
  have hown : s.vm.findClass "StackedRowsLaw" = some m.cls := hown
  refine lv_aload hx hb dd_LW_feed_0 (lv_at hl 6 rfl) ?_
  refine lv_iconst (v := nI 0) hx hb dd_LW_feed_2 (by decide) ?_
  refine lv_aload_n hx hb dd_LW_feed_3 rfl (lv_at hl 0 rfl) ?_
  refine lv_iload_n hx hb dd_LW_feed_4 rfl (lv_at hl 1 rfl) ?_
  refine lv_iload_n hx hb dd_LW_feed_5 rfl (lv_at hl 2 rfl) ?_
  refine lv_iload_n hx hb dd_LW_feed_6 rfl (lv_at hl 3 rfl) ?_
  refine lv_iload hx hb dd_LW_feed_7 (lv_at hl 4 rfl) ?_
  refine lv_iload hx hb dd_LW_feed_9 (lv_at hl 5 rfl) ?_
  refine xc_Vi (wr := [oc_l g ot 1 f9]) (k1 := 0) (k2 := 0) (As := [.int x1, .int x2, .int x3, .int x4, .int x5]) (rest := [.int (nI 0), .ref ot]) (k := 5) hF hP hD hS (cf_feed l g h tp wt ck sy sv rw lt tb o x n d e9 x1 x2 x3 x4 x5) (xt_V ml_LW_7 wi_SR_feed wx_SR_feed wn_SR wc_SR_feed) (by decide) 0 rfl rfl rfl [0, 1, 2, 3] [4] ⟨rfl, rfl, by decide, by decide, by decide⟩ ⟨⟨Nat.le_of_ble_eq_true rfl, Nat.le_of_ble_eq_true rfl⟩, rfl, rfl, Nat.le_of_ble_eq_true rfl, Nat.le_of_ble_eq_true rfl⟩ rfl hl.1 rfl (Nat.le_of_ble_eq_true rfl) dd_LW_feed_11 (fun r_1 u H locs hp hP hD hS => ?_)
  obtain rfl := hp
  have hP : va_P g.1 vwCl [oc_l g ot 1 f9] H := hP
  have hD : va_D A [oc_l g ot 1 f9] := hD
  refine lv_i2l hx hb dd_LW_feed_14 rfl ?_
  refine xa_stL hx hb hK hP hD hS 0 rfl (j := 0) (by omega) (by omega) dd_LW_feed_15 (fun f_2 H locs hf_2 hP hD hS => ?_)
  have hP : va_P g.1 vwCl [oc_l g ot 1 f_2] H := hP
  have hD : va_D A [oc_l g ot 1 f_2] := hD
  refine lv_goto (tgt := 23) hx hb dd_LW_feed_16 rfl ?_
  refine lv_iconst (v := nI 0) hx hb dd_LW_feed_23 (by decide) ?_
  exact xr_i hx hb hr hlk hQ hP hD hS (f_2) ⟨(by first | rfl | exact congrArg nI (by omega)), (by first | rfl | omega | assumption)⟩ [0] (by decide) rfl rfl (Nat.le_of_ble_eq_true rfl) (Nat.le_of_ble_eq_true rfl) dd_LW_feed_24

set_option maxHeartbeats 4000000 in
set_option maxRecDepth 100000 in
theorem ch_end0 (l : Launch) (htr : l.stackTraces = false) (g : xg_G) (h : Nat) (tp : Nat) (wt : Nat) (ck : Nat) (sy : Nat) (sv : Nat) (rw : Nat) (lt : Nat) (tb : Nat) (o : Nat) (x : Nat) (n : Nat) (d : Nat) (e9 : Nat) : kc_W l yy_LW_end cd_LW_end 3 { frames := 2, cells := 0, slots := 0, locals := 42 } [(0, 5, 8, 19)] g [.ref h, .int (nI 0)] [oc_o h 0 [.ref tp, .ref wt, .ref ck, .ref sy, .ref sv, .ref rw, .ref lt], oc_o tp 8 [.ref tb, .int (nI 0)], oc_o wt 10 [.ref tp, .ref o, .ref x, .ref n, .ref d, .ref e9, .int (nI 900), .int (nI 0)]] (S := Unit) (fun r0 _ => r0 = nI 0) (fun _ => []) := by
  refine kc_Wof (by decide) (Nat.le_of_ble_eq_true rfl) ?_
  intro p e s m args below meth c A ls Q H locs hQ hB hP hS htab
  obtain ⟨hx, hb, hr, hlk, hin, hml, hown, hts, hA, hK, hD, hE, hl⟩ := hB
  have hF : xf_F g p m c cd_LW_end 3 s args "StackedRowsLaw" A := ⟨⟨hx, hb, hml, hown, hts⟩, hE, hK, hA⟩
  have hl : lv_has ls 3 [(0, .ref h), (1, .int (nI 0))] := hl
  have hown : s.vm.findClass "StackedRowsLaw" = some m.cls := hown
  refine lv_aload_n hx hb dd_LW_end_0 rfl (lv_at hl 0 rfl) ?_
  refine lv_iload_n hx hb dd_LW_end_1 rfl (lv_at hl 1 rfl) ?_
  refine xc_Vv (wr := []) (k1 := 0) (k2 := 0) (As := [.int (nI 0)]) (rest := []) (k := 1) hF hP hD hS (cf_end0 l g h tp wt ck sy sv rw lt tb o x n d e9) (xt_V ml_LW_15 wi_SR_end wx_SR_end wn_SR wc_SR_end) (by decide) 0 rfl rfl rfl [0, 1, 2] [] ⟨rfl, rfl, by decide, by decide, by decide⟩ ⟨⟨Nat.le_of_ble_eq_true rfl, Nat.le_of_ble_eq_true rfl⟩, rfl, rfl, Nat.le_of_ble_eq_true rfl, Nat.le_of_ble_eq_true rfl⟩ rfl hl.1 rfl (Nat.le_of_ble_eq_true rfl) dd_LW_end_2 (fun u H locs hp hP hD hS => ?_)
  have hP : va_P g.1 vwCl [] H := hP
  have hD : va_D A [] := hD
  refine lv_goto (tgt := 11) hx hb dd_LW_end_5 rfl ?_
  refine lv_iconst (v := nI 0) hx hb dd_LW_end_11 (by decide) ?_
  exact xr_i hx hb hr hlk hQ hP hD hS () (by first | rfl | exact congrArg nI (by omega)) [] (by decide) rfl rfl (Nat.le_of_ble_eq_true rfl) (Nat.le_of_ble_eq_true rfl) dd_LW_end_12

set_option maxHeartbeats 4000000 in
set_option maxRecDepth 100000 in
theorem ch_endT (l : Launch) (htr : l.stackTraces = false) (g : xg_G) (h : Nat) (tp : Nat) (wt : Nat) (ck : Nat) (sy : Nat) (sv : Nat) (rw : Nat) (lt : Nat) (tb : Nat) (x1 : Int32) (qx : x1.toInt < 0 ∨ 0 < x1.toInt) : kc_W l yy_LW_end cd_LW_end 3 { frames := 7, cells := 1, slots := 6, locals := 110 } [(0, 5, 8, 19)] g [.ref h, .int x1] [oc_o h 0 [.ref tp, .ref wt, .ref ck, .ref sy, .ref sv, .ref rw, .ref lt], oc_o tp 8 [.ref tb, .int (nI 0)]] (S := Unit) (fun r0 _ => r0 = nI 1) (fun _ => []) := by
  refine kc_Wof (by decide) (Nat.le_of_ble_eq_true rfl) ?_
  intro p e s m args below meth c A ls Q H locs hQ hB hP hS htab
  obtain ⟨hx, hb, hr, hlk, hin, hml, hown, hts, hA, hK, hD, hE, hl⟩ := hB
  have hF : xf_F g p m c cd_LW_end 3 s args "StackedRowsLaw" A := ⟨⟨hx, hb, hml, hown, hts⟩, hE, hK, hA⟩
  have hl : lv_has ls 3 [(0, .ref h), (1, .int x1)] := hl
  have hown : s.vm.findClass "StackedRowsLaw" = some m.cls := hown
  refine lv_aload_n hx hb dd_LW_end_0 rfl (lv_at hl 0 rfl) ?_
  refine lv_iload_n hx hb dd_LW_end_1 rfl (lv_at hl 1 rfl) ?_
  refine xc_VT (wr := []) (k1 := 1) (k2 := 6) (As := [.int x1]) (rest := []) (k := 1) hF hP hD hS (cf_endT l htr g h tp wt ck sy sv rw lt tb x1 (qx)) (xt_V ml_LW_15 wi_SR_end wx_SR_end wn_SR wc_SR_end) (by decide) 0 rfl rfl rfl [0, 1] [] ⟨rfl, rfl, by decide, by decide, by decide⟩ ⟨⟨Nat.le_of_ble_eq_true rfl, Nat.le_of_ble_eq_true rfl⟩, rfl, rfl, Nat.le_of_ble_eq_true rfl, Nat.le_of_ble_eq_true rfl⟩ rfl hl.1 rfl (Nat.le_of_ble_eq_true rfl) dd_LW_end_2 (pre := []) (z := (0, 5, 8, 19)) (post := []) htab (fun r hr9 => by cases hr9) ⟨by decide, by decide⟩ cl_LW_19 (fun x_2 H locs hP hD hS => ?_)
  have hP : va_P g.1 vwCl [] H := hP
  have hD : va_D A [] := hD
  refine lv_astore_n (lv' := [(2, .ref x_2), (0, .ref h), (1, .int x1)]) hx hb dd_LW_end_8 rfl hl (by decide) rfl (fun ls hl => ?_)
  refine lv_iconst (v := nI 1) hx hb dd_LW_end_9 (by decide) ?_
  exact xr_i hx hb hr hlk hQ hP hD hS () (by first | rfl | exact congrArg nI (by omega)) [] (by decide) rfl rfl (Nat.le_of_ble_eq_true rfl) (Nat.le_of_ble_eq_true rfl) dd_LW_end_10

set_option maxHeartbeats 4000000 in
set_option maxRecDepth 100000 in
theorem ch_byteT (l : Launch) (htr : l.stackTraces = false) (g : xg_G) (h : Nat) (tp : Nat) (wt : Nat) (ck : Nat) (sy : Nat) (sv : Nat) (rw : Nat) (lt : Nat) (tb : Nat) (x1 : Int32) (ot : Nat) (f9 : Nat → Int64) : kc_W l yy_LW_byteAt cd_LW_byteAt 4 { frames := 7, cells := 1, slots := 6, locals := 110 } [(0, 9, 12, 25)] g [.ref h, .int x1, .ref ot] [oc_o h 0 [.ref tp, .ref wt, .ref ck, .ref sy, .ref sv, .ref rw, .ref lt], oc_o tp 8 [.ref tb, .int (nI 0)], oc_l g ot 1 f9] (S := (Nat → Int64)) (fun r0 _ => r0 = nI 1) (fun u0 => [oc_l g ot 1 u0]) := by
  refine kc_Wof (by decide) (Nat.le_of_ble_eq_true rfl) ?_
  intro p e s m args below meth c A ls Q H locs hQ hB hP hS htab
  obtain ⟨hx, hb, hr, hlk, hin, hml, hown, hts, hA, hK, hD, hE, hl⟩ := hB
  have hF : xf_F g p m c cd_LW_byteAt 4 s args "StackedRowsLaw" A := ⟨⟨hx, hb, hml, hown, hts⟩, hE, hK, hA⟩
  have hl : lv_has ls 4 [(0, .ref h), (1, .int x1), (2, .ref ot)] := hl
  have hown : s.vm.findClass "StackedRowsLaw" = some m.cls := hown
  refine lv_aload_n hx hb dd_LW_byteAt_0 rfl (lv_at hl 2 rfl) ?_
  refine lv_iconst (v := nI 0) hx hb dd_LW_byteAt_1 (by decide) ?_
  refine lv_aload_n hx hb dd_LW_byteAt_2 rfl (lv_at hl 0 rfl) ?_
  refine lv_iload_n hx hb dd_LW_byteAt_3 rfl (lv_at hl 1 rfl) ?_
  refine xc_VT (wr := [oc_l g ot 1 f9]) (k1 := 1) (k2 := 6) (As := [.int x1]) (rest := [.int (nI 0), .ref ot]) (k := 1) hF hP hD hS (cf_byteT l htr g h tp wt ck sy sv rw lt tb x1) (xt_V ml_LW_21 wi_SR_byteAt wx_SR_byteAt wn_SR wc_SR_byteAt) (by decide) 0 rfl rfl rfl [0, 1] [2] ⟨rfl, rfl, by decide, by decide, by decide⟩ ⟨⟨Nat.le_of_ble_eq_true rfl, Nat.le_of_ble_eq_true rfl⟩, rfl, rfl, Nat.le_of_ble_eq_true rfl, Nat.le_of_ble_eq_true rfl⟩ rfl hl.1 rfl (Nat.le_of_ble_eq_true rfl) dd_LW_byteAt_4 (pre := []) (z := (0, 9, 12, 25)) (post := []) htab (fun r hr9 => by cases hr9) ⟨by decide, by decide⟩ cl_LW_25 (fun x_2 H locs hP hD hS => ?_)
  have hP : va_P g.1 vwCl [oc_l g ot 1 f9] H := hP
  have hD : va_D A [oc_l g ot 1 f9] := hD
  refine lv_astore_n (lv' := [(3, .ref x_2), (0, .ref h), (1, .int x1), (2, .ref ot)]) hx hb dd_LW_byteAt_12 rfl hl (by decide) rfl (fun ls hl => ?_)
  refine lv_iconst (v := nI 1) hx hb dd_LW_byteAt_13 (by decide) ?_
  exact xr_i hx hb hr hlk hQ hP hD hS (f9) (by first | rfl | exact congrArg nI (by omega)) [0] (by decide) rfl rfl (Nat.le_of_ble_eq_true rfl) (Nat.le_of_ble_eq_true rfl) dd_LW_byteAt_14

set_option maxHeartbeats 4000000 in
set_option maxRecDepth 100000 in
theorem ch_wordT (l : Launch) (htr : l.stackTraces = false) (g : xg_G) (h : Nat) (tp : Nat) (wt : Nat) (ck : Nat) (sy : Nat) (sv : Nat) (rw : Nat) (lt : Nat) (tb : Nat) (o : Nat) (x : Nat) (n : Nat) (d : Nat) (e9 : Nat) (b : Nat) (v : Value) (x1 : Int32) (ot : Nat) (f9 : Nat → Int64) : kc_W l yy_LW_codeword cd_LW_codeword 4 { frames := 7, cells := 1, slots := 6, locals := 110 } [(0, 9, 12, 25)] g [.ref h, .int x1, .ref ot] [oc_o h 0 [.ref tp, .ref wt, .ref ck, .ref sy, .ref sv, .ref rw, .ref lt], oc_o tp 8 [.ref tb, .int (nI 0)], oc_o wt 10 [.ref tp, .ref o, .ref x, .ref n, .ref d, .ref e9, .int (nI 900), .int (nI 0)], oc_o o 3 [.ref b, .int (nI 0)], oc_o x 9 [.ref o, v, .int (-1)], oc_i g d 1201 (fun _ => 0), oc_i g e9 1201 (fun _ => 0), oc_l g ot 1 f9] (S := (Nat → Int64)) (fun r0 _ => r0 = nI 1) (fun u0 => [oc_l g ot 1 u0]) := by
  refine kc_Wof (by decide) (Nat.le_of_ble_eq_true rfl) ?_
  intro p e s m args below meth c A ls Q H locs hQ hB hP hS htab
  obtain ⟨hx, hb, hr, hlk, hin, hml, hown, hts, hA, hK, hD, hE, hl⟩ := hB
  have hF : xf_F g p m c cd_LW_codeword 4 s args "StackedRowsLaw" A := ⟨⟨hx, hb, hml, hown, hts⟩, hE, hK, hA⟩
  have hl : lv_has ls 4 [(0, .ref h), (1, .int x1), (2, .ref ot)] := hl
  have hown : s.vm.findClass "StackedRowsLaw" = some m.cls := hown
  refine lv_aload_n hx hb dd_LW_codeword_0 rfl (lv_at hl 2 rfl) ?_
  refine lv_iconst (v := nI 0) hx hb dd_LW_codeword_1 (by decide) ?_
  refine lv_aload_n hx hb dd_LW_codeword_2 rfl (lv_at hl 0 rfl) ?_
  refine lv_iload_n hx hb dd_LW_codeword_3 rfl (lv_at hl 1 rfl) ?_
  refine xc_VT (wr := [oc_l g ot 1 f9]) (k1 := 1) (k2 := 6) (As := [.int x1]) (rest := [.int (nI 0), .ref ot]) (k := 1) hF hP hD hS (cf_wordT l htr g h tp wt ck sy sv rw lt tb o x n d e9 b v x1) (xt_V ml_LW_27 wi_SR_codeword wx_SR_codeword wn_SR wc_SR_codeword) (by decide) 0 rfl rfl rfl [0, 1, 2, 3, 4, 5, 6] [7] ⟨rfl, rfl, by decide, by decide, by decide⟩ ⟨⟨Nat.le_of_ble_eq_true rfl, Nat.le_of_ble_eq_true rfl⟩, rfl, rfl, Nat.le_of_ble_eq_true rfl, Nat.le_of_ble_eq_true rfl⟩ rfl hl.1 rfl (Nat.le_of_ble_eq_true rfl) dd_LW_codeword_4 (pre := []) (z := (0, 9, 12, 25)) (post := []) htab (fun r hr9 => by cases hr9) ⟨by decide, by decide⟩ cl_LW_25 (fun x_2 H locs hP hD hS => ?_)
  have hP : va_P g.1 vwCl [oc_l g ot 1 f9] H := hP
  have hD : va_D A [oc_l g ot 1 f9] := hD
  refine lv_astore_n (lv' := [(3, .ref x_2), (0, .ref h), (1, .int x1), (2, .ref ot)]) hx hb dd_LW_codeword_12 rfl hl (by decide) rfl (fun ls hl => ?_)
  refine lv_iconst (v := nI 1) hx hb dd_LW_codeword_13 (by decide) ?_
  exact xr_i hx hb hr hlk hQ hP hD hS (f9) (by first | rfl | exact congrArg nI (by omega)) [0] (by decide) rfl rfl (Nat.le_of_ble_eq_true rfl) (Nat.le_of_ble_eq_true rfl) dd_LW_codeword_14

set_option maxHeartbeats 4000000 in
set_option maxRecDepth 100000 in
theorem ch_makeA (l : Launch) (htr : l.stackTraces = false) (g : xg_G) (h : Nat) (tp : Nat) (wt : Nat) (ck : Nat) (sy : Nat) (sv : Nat) (rw : Nat) (lt : Nat) (x1 : Int32) (x2 : Int32) (ot : Nat) (f9 : Nat → Int64) (qx : x1.toInt < 0 ∨ 8 < x1.toInt ∨ x2.toInt < 1 ∨ 30 < x2.toInt) : kc_W l yy_LW_make cd_LW_make 5 { frames := 7, cells := 1, slots := 6, locals := 114 } [(0, 10, 13, 19), (0, 10, 17, 13)] g [.ref h, .int x1, .int x2, .ref ot] [oc_o h 0 [.ref tp, .ref wt, .ref ck, .ref sy, .ref sv, .ref rw, .ref lt], oc_l g ot 1 f9] (S := (Nat → Int64)) (fun r0 _ => r0 = nI 1) (fun u0 => [oc_l g ot 1 u0]) := by
  refine kc_Wof (by decide) (Nat.le_of_ble_eq_true rfl) ?_
  intro p e s m args below meth c A ls Q H locs hQ hB hP hS htab
  obtain ⟨hx, hb, hr, hlk, hin, hml, hown, hts, hA, hK, hD, hE, hl⟩ := hB
  have hF : xf_F g p m c cd_LW_make 5 s args "StackedRowsLaw" A := ⟨⟨hx, hb, hml, hown, hts⟩, hE, hK, hA⟩
  have hl : lv_has ls 5 [(0, .ref h), (1, .int x1), (2, .int x2), (3, .ref ot)] := hl
  have hown : s.vm.findClass "StackedRowsLaw" = some m.cls := hown
  refine lv_aload_n hx hb dd_LW_make_0 rfl (lv_at hl 3 rfl) ?_
  refine lv_iconst (v := nI 0) hx hb dd_LW_make_1 (by decide) ?_
  refine lv_aload_n hx hb dd_LW_make_2 rfl (lv_at hl 0 rfl) ?_
  refine lv_iload_n hx hb dd_LW_make_3 rfl (lv_at hl 1 rfl) ?_
  refine lv_iload_n hx hb dd_LW_make_4 rfl (lv_at hl 2 rfl) ?_
  refine xc_VT (wr := [oc_l g ot 1 f9]) (k1 := 1) (k2 := 6) (As := [.int x1, .int x2]) (rest := [.int (nI 0), .ref ot]) (k := 2) hF hP hD hS (cf_makeA l htr g h tp wt ck sy sv rw lt x1 x2 (qx)) (xt_V ml_LW_30 wi_SR_make wx_SR_make wn_SR wc_SR_make) (by decide) 0 rfl rfl rfl [0] [1] ⟨rfl, rfl, by decide, by decide, by decide⟩ ⟨⟨Nat.le_of_ble_eq_true rfl, Nat.le_of_ble_eq_true rfl⟩, rfl, rfl, Nat.le_of_ble_eq_true rfl, Nat.le_of_ble_eq_true rfl⟩ rfl hl.1 rfl (Nat.le_of_ble_eq_true rfl) dd_LW_make_5 (pre := []) (z := (0, 10, 13, 19)) (post := [(0, 10, 17, 13)]) htab (fun r hr9 => by cases hr9) ⟨by decide, by decide⟩ cl_LW_19 (fun x_2 H locs hP hD hS => ?_)
  have hP : va_P g.1 vwCl [oc_l g ot 1 f9] H := hP
  have hD : va_D A [oc_l g ot 1 f9] := hD
  refine lv_astore (lv' := [(4, .ref x_2), (0, .ref h), (1, .int x1), (2, .int x2), (3, .ref ot)]) hx hb dd_LW_make_13 hl (by decide) rfl (fun ls hl => ?_)
  refine lv_iconst (v := nI 1) hx hb dd_LW_make_15 (by decide) ?_
  exact xr_i hx hb hr hlk hQ hP hD hS (f9) (by first | rfl | exact congrArg nI (by omega)) [0] (by decide) rfl rfl (Nat.le_of_ble_eq_true rfl) (Nat.le_of_ble_eq_true rfl) dd_LW_make_16

set_option maxHeartbeats 4000000 in
set_option maxRecDepth 100000 in
theorem ch_makeU (l : Launch) (htr : l.stackTraces = false) (g : xg_G) (h : Nat) (tp : Nat) (wt : Nat) (ck : Nat) (sy : Nat) (sv : Nat) (rw : Nat) (lt : Nat) (tb : Nat) (o : Nat) (x : Nat) (n : Nat) (d : Nat) (e9 : Nat) (b : Nat) (v : Value) (L : Nat) (cc : Nat) (K : Nat) (rr : Nat) (ot : Nat) (f9 : Nat → Int64) (qL : L ≤ 8) (qK : K = 2 ^ (L + 1)) (qK2 : 2 ≤ K ∧ K ≤ 512) (qc : 1 ≤ cc) (qc2 : cc ≤ 30) (qr : rr = xr_hh (1 + K) cc) (qu : 90 < rr ∨ 928 < rr * cc) : kc_W l yy_LW_make cd_LW_make 5 { frames := 7, cells := 1, slots := 6, locals := 114 } [(0, 10, 13, 19), (0, 10, 17, 13)] g [.ref h, .int (nI L), .int (nI cc), .ref ot] [oc_o h 0 [.ref tp, .ref wt, .ref ck, .ref sy, .ref sv, .ref rw, .ref lt], oc_o tp 8 [.ref tb, .int (nI 0)], oc_o wt 10 [.ref tp, .ref o, .ref x, .ref n, .ref d, .ref e9, .int (nI 900), .int (nI 0)], oc_o o 3 [.ref b, .int (nI 0)], oc_o x 9 [.ref o, v, .int (-1)], oc_i g d 1201 (fun _ => 0), oc_i g e9 1201 (fun _ => 0), oc_l g ot 1 f9] (S := (Nat → Int64)) (fun r0 _ => r0 = nI 2) (fun u0 => [oc_l g ot 1 u0]) := by
  refine kc_Wof (by decide) (Nat.le_of_ble_eq_true rfl) ?_
  intro p e s m args below meth c A ls Q H locs hQ hB hP hS htab
  obtain ⟨hx, hb, hr, hlk, hin, hml, hown, hts, hA, hK, hD, hE, hl⟩ := hB
  have hF : xf_F g p m c cd_LW_make 5 s args "StackedRowsLaw" A := ⟨⟨hx, hb, hml, hown, hts⟩, hE, hK, hA⟩
  have hl : lv_has ls 5 [(0, .ref h), (1, .int (nI L)), (2, .int (nI cc)), (3, .ref ot)] := hl
  have hown : s.vm.findClass "StackedRowsLaw" = some m.cls := hown
  refine lv_aload_n hx hb dd_LW_make_0 rfl (lv_at hl 3 rfl) ?_
  refine lv_iconst (v := nI 0) hx hb dd_LW_make_1 (by decide) ?_
  refine lv_aload_n hx hb dd_LW_make_2 rfl (lv_at hl 0 rfl) ?_
  refine lv_iload_n hx hb dd_LW_make_3 rfl (lv_at hl 1 rfl) ?_
  refine lv_iload_n hx hb dd_LW_make_4 rfl (lv_at hl 2 rfl) ?_
  refine xc_VT (wr := [oc_l g ot 1 f9]) (k1 := 1) (k2 := 6) (As := [.int (nI L), .int (nI cc)]) (rest := [.int (nI 0), .ref ot]) (k := 2) hF hP hD hS (cf_makeU l htr g h tp wt ck sy sv rw lt tb o x n d e9 b v L cc K rr (qL) (qK) (qK2) (qc) (qc2) (qr) (qu)) (xt_V ml_LW_30 wi_SR_make wx_SR_make wn_SR wc_SR_make) (by decide) 0 rfl rfl rfl [0, 1, 2, 3, 4, 5, 6] [7] ⟨rfl, rfl, by decide, by decide, by decide⟩ ⟨⟨Nat.le_of_ble_eq_true rfl, Nat.le_of_ble_eq_true rfl⟩, rfl, rfl, Nat.le_of_ble_eq_true rfl, Nat.le_of_ble_eq_true rfl⟩ rfl hl.1 rfl (Nat.le_of_ble_eq_true rfl) dd_LW_make_5 (pre := [(0, 10, 13, 19)]) (z := (0, 10, 17, 13)) (post := []) htab (fun r hr9 => by cases List.mem_singleton.mp hr9; exact ⟨⟨by decide, by decide⟩, by decide, _, cl_LW_19, hE.2.2.2.2.1⟩) ⟨by decide, by decide⟩ cl_LW_13 (fun x_2 H locs hP hD hS => ?_)
  have hP : va_P g.1 vwCl [oc_l g ot 1 f9] H := hP
  have hD : va_D A [oc_l g ot 1 f9] := hD
  refine lv_astore (lv' := [(4, .ref x_2), (0, .ref h), (1, .int (nI L)), (2, .int (nI cc)), (3, .ref ot)]) hx hb dd_LW_make_17 hl (by decide) rfl (fun ls hl => ?_)
  refine lv_iconst (v := nI 2) hx hb dd_LW_make_19 (by decide) ?_
  exact xr_i hx hb hr hlk hQ hP hD hS (f9) (by first | rfl | exact congrArg nI (by omega)) [0] (by decide) rfl rfl (Nat.le_of_ble_eq_true rfl) (Nat.le_of_ble_eq_true rfl) dd_LW_make_20

set_option maxHeartbeats 4000000 in
set_option maxRecDepth 100000 in
theorem ch_make (l : Launch) (htr : l.stackTraces = false) (g : xg_G) (h : Nat) (tp : Nat) (wt : Nat) (ck : Nat) (sy : Nat) (sv : Nat) (rw : Nat) (lt : Nat) (tb : Nat) (o : Nat) (x : Nat) (n : Nat) (d : Nat) (e9 : Nat) (b : Nat) (v : Value) (fc : Nat) (p9 : Nat) (L : Nat) (cc : Nat) (K : Nat) (rr : Nat) (ot : Nat) (f9 : Nat → Int64) (qL : L ≤ 8) (qK : K = 2 ^ (L + 1)) (qK2 : 2 ≤ K ∧ K ≤ 512) (qc : 1 ≤ cc) (qc2 : cc ≤ 30) (qr : rr = xr_hh (1 + K) cc) (qr2 : 3 ≤ rr ∧ rr ≤ 90) (qn : rr * cc ≤ 928) (qn2 : K + 1 ≤ rr * cc) : kc_W l yy_LW_make cd_LW_make 5 { frames := 4, cells := 0, slots := 0, locals := 95 } [(0, 10, 13, 19), (0, 10, 17, 13)] g [.ref h, .int (nI L), .int (nI cc), .ref ot] [oc_o h 0 [.ref tp, .ref wt, .ref ck, .ref sy, .ref sv, .ref rw, .ref lt], oc_o tp 8 [.ref tb, .int (nI 0)], oc_o wt 10 [.ref tp, .ref o, .ref x, .ref n, .ref d, .ref e9, .int (nI 900), .int (nI 0)], oc_o o 3 [.ref b, .int (nI 0)], oc_o x 9 [.ref o, v, .int (-1)], oc_i g d 1201 (fun _ => 0), oc_i g e9 1201 (fun _ => 0), oc_o ck 2 [.ref fc], oc_i g fc 513 (fun _ => 0), oc_o sy 7 [.ref p9, .int (nI 0), .int (nI 0)], oc_i g p9 1108 (fun _ => 0), oc_i g rw 928 (fun _ => 0), oc_l g ot 1 f9] (S := (Nat → Int64)) (fun r0 u0 => r0 = nI 0 ∧ u0 0 = (nI rr).toInt64) (fun u0 => [oc_l g ot 1 u0]) := by
  refine kc_Wof (by decide) (Nat.le_of_ble_eq_true rfl) ?_
  intro p e s m args below meth c A ls Q H locs hQ hB hP hS htab
  obtain ⟨hx, hb, hr, hlk, hin, hml, hown, hts, hA, hK, hD, hE, hl⟩ := hB
  have hF : xf_F g p m c cd_LW_make 5 s args "StackedRowsLaw" A := ⟨⟨hx, hb, hml, hown, hts⟩, hE, hK, hA⟩
  have hl : lv_has ls 5 [(0, .ref h), (1, .int (nI L)), (2, .int (nI cc)), (3, .ref ot)] := hl
  have hown : s.vm.findClass "StackedRowsLaw" = some m.cls := hown
  refine lv_aload_n hx hb dd_LW_make_0 rfl (lv_at hl 3 rfl) ?_
  refine lv_iconst (v := nI 0) hx hb dd_LW_make_1 (by decide) ?_
  refine lv_aload_n hx hb dd_LW_make_2 rfl (lv_at hl 0 rfl) ?_
  refine lv_iload_n hx hb dd_LW_make_3 rfl (lv_at hl 1 rfl) ?_
  refine lv_iload_n hx hb dd_LW_make_4 rfl (lv_at hl 2 rfl) ?_
  refine xc_Vi (wr := [oc_l g ot 1 f9]) (k1 := 0) (k2 := 0) (As := [.int (nI L), .int (nI cc)]) (rest := [.int (nI 0), .ref ot]) (k := 2) hF hP hD hS (cf_make l g h tp wt ck sy sv rw lt tb o x n d e9 b v fc p9 L cc K rr (qL) (qK) (qK2) (qc) (qc2) (qr) (qr2) (qn) (qn2)) (xt_V ml_LW_30 wi_SR_make wx_SR_make wn_SR wc_SR_make) (by decide) 0 rfl rfl rfl [0, 1, 2, 3, 4, 5, 6, 7, 8, 9, 10, 11] [12] ⟨rfl, rfl, by decide, by decide, by decide⟩ ⟨⟨Nat.le_of_ble_eq_true rfl, Nat.le_of_ble_eq_true rfl⟩, rfl, rfl, Nat.le_of_ble_eq_true rfl, Nat.le_of_ble_eq_true rfl⟩ rfl hl.1 rfl (Nat.le_of_ble_eq_true rfl) dd_LW_make_5 (fun r_1 u H locs hp hP hD hS => ?_)
  obtain rfl := hp
  have hP : va_P g.1 vwCl [oc_l g ot 1 f9] H := hP
  have hD : va_D A [oc_l g ot 1 f9] := hD
  refine lv_i2l hx hb dd_LW_make_8 rfl ?_
  refine xa_stL hx hb hK hP hD hS 0 rfl (j := 0) (by omega) (by omega) dd_LW_make_9 (fun f_2 H locs hf_2 hP hD hS => ?_)
  have hP : va_P g.1 vwCl [oc_l g ot 1 f_2] H := hP
  have hD : va_D A [oc_l g ot 1 f_2] := hD
  refine lv_goto (tgt := 21) hx hb dd_LW_make_10 rfl ?_
  refine lv_iconst (v := nI 0) hx hb dd_LW_make_21 (by decide) ?_
  exact xr_i hx hb hr hlk hQ hP hD hS (f_2) ⟨(by first | rfl | exact congrArg nI (by omega)), (by first | rfl | omega | assumption)⟩ [0] (by decide) rfl rfl (Nat.le_of_ble_eq_true rfl) (Nat.le_of_ble_eq_true rfl) dd_LW_make_22

set_option maxHeartbeats 4000000 in
set_option maxRecDepth 100000 in
theorem ch_blank (l : Launch) (htr : l.stackTraces = false) (g : xg_G) (h : Nat) (tp : Nat) (wt : Nat) (ck : Nat) (sy : Nat) (sv : Nat) (rw : Nat) (lt : Nat) (p9 : Nat) (rr : Nat) (cc : Nat) (qr : 3 ≤ rr) (qr2 : rr ≤ 90) (qc : 1 ≤ cc) (qc2 : cc ≤ 30) (qn : rr * cc ≤ 928) : kc_W l yy_LW_blank cd_LW_blank 4 { frames := 3, cells := 0, slots := 0, locals := 67 } [(0, 6, 9, 19)] g [.ref h, .int (nI rr), .int (nI cc)] [oc_o h 0 [.ref tp, .ref wt, .ref ck, .ref sy, .ref sv, .ref rw, .ref lt], oc_o sy 7 [.ref p9, .int (nI 0), .int (nI 0)], oc_i g p9 1108 (fun _ => 0)] (S := Unit) (fun r0 _ => r0 = nI 0) (fun _ => []) := by
  refine kc_Wof (by decide) (Nat.le_of_ble_eq_true rfl) ?_
  intro p e s m args below meth c A ls Q H locs hQ hB hP hS htab
  obtain ⟨hx, hb, hr, hlk, hin, hml, hown, hts, hA, hK, hD, hE, hl⟩ := hB
  have hF : xf_F g p m c cd_LW_blank 4 s args "StackedRowsLaw" A := ⟨⟨hx, hb, hml, hown, hts⟩, hE, hK, hA⟩
  have hl : lv_has ls 4 [(0, .ref h), (1, .int (nI rr)), (2, .int (nI cc))] := hl
  have hown : s.vm.findClass "StackedRowsLaw" = some m.cls := hown
  refine lv_aload_n hx hb dd_LW_blank_0 rfl (lv_at hl 0 rfl) ?_
  refine lv_iload_n hx hb dd_LW_blank_1 rfl (lv_at hl 1 rfl) ?_
  refine lv_iload_n hx hb dd_LW_blank_2 rfl (lv_at hl 2 rfl) ?_
  refine xc_Vv (wr := []) (k1 := 0) (k2 := 0) (As := [.int (nI rr), .int (nI cc)]) (rest := []) (k := 2) hF hP hD hS (cf_blank l g h tp wt ck sy sv rw lt p9 rr cc (qr) (qr2) (qc) (qc2) (qn)) (xt_V ml_LW_34 wi_SR_blank wx_SR_blank wn_SR wc_SR_blank) (by decide) 0 rfl rfl rfl [0, 1, 2] [] ⟨rfl, rfl, by decide, by decide, by decide⟩ ⟨⟨Nat.le_of_ble_eq_true rfl, Nat.le_of_ble_eq_true rfl⟩, rfl, rfl, Nat.le_of_ble_eq_true rfl, Nat.le_of_ble_eq_true rfl⟩ rfl hl.1 rfl (Nat.le_of_ble_eq_true rfl) dd_LW_blank_3 (fun u H locs hp hP hD hS => ?_)
  have hP : va_P g.1 vwCl [] H := hP
  have hD : va_D A [] := hD
  refine lv_goto (tgt := 12) hx hb dd_LW_blank_6 rfl ?_
  refine lv_iconst (v := nI 0) hx hb dd_LW_blank_12 (by decide) ?_
  exact xr_i hx hb hr hlk hQ hP hD hS () (by first | rfl | exact congrArg nI (by omega)) [] (by decide) rfl rfl (Nat.le_of_ble_eq_true rfl) (Nat.le_of_ble_eq_true rfl) dd_LW_blank_13

set_option maxHeartbeats 4000000 in
set_option maxRecDepth 100000 in
theorem ch_blankA (l : Launch) (htr : l.stackTraces = false) (g : xg_G) (h : Nat) (tp : Nat) (wt : Nat) (ck : Nat) (sy : Nat) (sv : Nat) (rw : Nat) (lt : Nat) (x1 : Int32) (x2 : Int32) (qx : x1.toInt < 3 ∨ 90 < x1.toInt ∨ x2.toInt < 1 ∨ 30 < x2.toInt) : kc_W l yy_LW_blank cd_LW_blank 4 { frames := 7, cells := 1, slots := 6, locals := 111 } [(0, 6, 9, 19)] g [.ref h, .int x1, .int x2] [oc_o h 0 [.ref tp, .ref wt, .ref ck, .ref sy, .ref sv, .ref rw, .ref lt]] (S := Unit) (fun r0 _ => r0 = nI 1) (fun _ => []) := by
  refine kc_Wof (by decide) (Nat.le_of_ble_eq_true rfl) ?_
  intro p e s m args below meth c A ls Q H locs hQ hB hP hS htab
  obtain ⟨hx, hb, hr, hlk, hin, hml, hown, hts, hA, hK, hD, hE, hl⟩ := hB
  have hF : xf_F g p m c cd_LW_blank 4 s args "StackedRowsLaw" A := ⟨⟨hx, hb, hml, hown, hts⟩, hE, hK, hA⟩
  have hl : lv_has ls 4 [(0, .ref h), (1, .int x1), (2, .int x2)] := hl
  have hown : s.vm.findClass "StackedRowsLaw" = some m.cls := hown
  refine lv_aload_n hx hb dd_LW_blank_0 rfl (lv_at hl 0 rfl) ?_
  refine lv_iload_n hx hb dd_LW_blank_1 rfl (lv_at hl 1 rfl) ?_
  refine lv_iload_n hx hb dd_LW_blank_2 rfl (lv_at hl 2 rfl) ?_
  refine xc_VT (wr := []) (k1 := 1) (k2 := 6) (As := [.int x1, .int x2]) (rest := []) (k := 2) hF hP hD hS (cf_blankA l htr g h tp wt ck sy sv rw lt x1 x2 (qx)) (xt_V ml_LW_34 wi_SR_blank wx_SR_blank wn_SR wc_SR_blank) (by decide) 0 rfl rfl rfl [0] [] ⟨rfl, rfl, by decide, by decide, by decide⟩ ⟨⟨Nat.le_of_ble_eq_true rfl, Nat.le_of_ble_eq_true rfl⟩, rfl, rfl, Nat.le_of_ble_eq_true rfl, Nat.le_of_ble_eq_true rfl⟩ rfl hl.1 rfl (Nat.le_of_ble_eq_true rfl) dd_LW_blank_3 (pre := []) (z := (0, 6, 9, 19)) (post := []) htab (fun r hr9 => by cases hr9) ⟨by decide, by decide⟩ cl_LW_19 (fun x_2 H locs hP hD hS => ?_)
  have hP : va_P g.1 vwCl [] H := hP
  have hD : va_D A [] := hD
  refine lv_astore_n (lv' := [(3, .ref x_2), (0, .ref h), (1, .int x1), (2, .int x2)]) hx hb dd_LW_blank_9 rfl hl (by decide) rfl (fun ls hl => ?_)
  refine lv_iconst (v := nI 1) hx hb dd_LW_blank_10 (by decide) ?_
  exact xr_i hx hb hr hlk hQ hP hD hS () (by first | rfl | exact congrArg nI (by omega)) [] (by decide) rfl rfl (Nat.le_of_ble_eq_true rfl) (Nat.le_of_ble_eq_true rfl) dd_LW_blank_11

set_option maxHeartbeats 4000000 in
set_option maxRecDepth 100000 in
theorem ch_blankB (l : Launch) (htr : l.stackTraces = false) (g : xg_G) (h : Nat) (tp : Nat) (wt : Nat) (ck : Nat) (sy : Nat) (sv : Nat) (rw : Nat) (lt : Nat) (rr : Nat) (cc : Nat) (qr : 3 ≤ rr) (qr2 : rr ≤ 90) (qc : 1 ≤ cc) (qc2 : cc ≤ 30) (qn : 928 < rr * cc) (qn2 : rr * cc ≤ 2700) : kc_W l yy_LW_blank cd_LW_blank 4 { frames := 7, cells := 1, slots := 6, locals := 111 } [(0, 6, 9, 19)] g [.ref h, .int (nI rr), .int (nI cc)] [oc_o h 0 [.ref tp, .ref wt, .ref ck, .ref sy, .ref sv, .ref rw, .ref lt]] (S := Unit) (fun r0 _ => r0 = nI 1) (fun _ => []) := by
  refine kc_Wof (by decide) (Nat.le_of_ble_eq_true rfl) ?_
  intro p e s m args below meth c A ls Q H locs hQ hB hP hS htab
  obtain ⟨hx, hb, hr, hlk, hin, hml, hown, hts, hA, hK, hD, hE, hl⟩ := hB
  have hF : xf_F g p m c cd_LW_blank 4 s args "StackedRowsLaw" A := ⟨⟨hx, hb, hml, hown, hts⟩, hE, hK, hA⟩
  have hl : lv_has ls 4 [(0, .ref h), (1, .int (nI rr)), (2, .int (nI cc))] := hl
  have hown : s.vm.findClass "StackedRowsLaw" = some m.cls := hown
  refine lv_aload_n hx hb dd_LW_blank_0 rfl (lv_at hl 0 rfl) ?_
  refine lv_iload_n hx hb dd_LW_blank_1 rfl (lv_at hl 1 rfl) ?_
  refine lv_iload_n hx hb dd_LW_blank_2 rfl (lv_at hl 2 rfl) ?_
  refine xc_VT (wr := []) (k1 := 1) (k2 := 6) (As := [.int (nI rr), .int (nI cc)]) (rest := []) (k := 2) hF hP hD hS (cf_blankB l htr g h tp wt ck sy sv rw lt rr cc (qr) (qr2) (qc) (qc2) (qn) (qn2)) (xt_V ml_LW_34 wi_SR_blank wx_SR_blank wn_SR wc_SR_blank) (by decide) 0 rfl rfl rfl [0] [] ⟨rfl, rfl, by decide, by decide, by decide⟩ ⟨⟨Nat.le_of_ble_eq_true rfl, Nat.le_of_ble_eq_true rfl⟩, rfl, rfl, Nat.le_of_ble_eq_true rfl, Nat.le_of_ble_eq_true rfl⟩ rfl hl.1 rfl (Nat.le_of_ble_eq_true rfl) dd_LW_blank_3 (pre := []) (z := (0, 6, 9, 19)) (post := []) htab (fun r hr9 => by cases hr9) ⟨by decide, by decide⟩ cl_LW_19 (fun x_2 H locs hP hD hS => ?_)
  have hP : va_P g.1 vwCl [] H := hP
  have hD : va_D A [] := hD
  refine lv_astore_n (lv' := [(3, .ref x_2), (0, .ref h), (1, .int (nI rr)), (2, .int (nI cc))]) hx hb dd_LW_blank_9 rfl hl (by decide) rfl (fun ls hl => ?_)
  refine lv_iconst (v := nI 1) hx hb dd_LW_blank_10 (by decide) ?_
  exact xr_i hx hb hr hlk hQ hP hD hS () (by first | rfl | exact congrArg nI (by omega)) [] (by decide) rfl rfl (Nat.le_of_ble_eq_true rfl) (Nat.le_of_ble_eq_true rfl) dd_LW_blank_11

set_option maxHeartbeats 4000000 in
set_option maxRecDepth 100000 in
theorem ch_placeT (l : Launch) (htr : l.stackTraces = false) (g : xg_G) (h : Nat) (tp : Nat) (wt : Nat) (ck : Nat) (sy : Nat) (sv : Nat) (rw : Nat) (lt : Nat) (p9 : Nat) (x1 : Int32) (x2 : Int32) (ot : Nat) (f9 : Nat → Int64) : kc_W l yy_LW_place cd_LW_place 5 { frames := 7, cells := 1, slots := 6, locals := 111 } [(0, 10, 13, 41), (0, 10, 17, 25)] g [.ref h, .int x1, .int x2, .ref ot] [oc_o h 0 [.ref tp, .ref wt, .ref ck, .ref sy, .ref sv, .ref rw, .ref lt], oc_o sy 7 [.ref p9, .int (nI 0), .int (nI 0)], oc_l g ot 1 f9] (S := (Nat → Int64)) (fun r0 _ => r0 = nI 1) (fun u0 => [oc_l g ot 1 u0]) := by
  refine kc_Wof (by decide) (Nat.le_of_ble_eq_true rfl) ?_
  intro p e s m args below meth c A ls Q H locs hQ hB hP hS htab
  obtain ⟨hx, hb, hr, hlk, hin, hml, hown, hts, hA, hK, hD, hE, hl⟩ := hB
  have hF : xf_F g p m c cd_LW_place 5 s args "StackedRowsLaw" A := ⟨⟨hx, hb, hml, hown, hts⟩, hE, hK, hA⟩
  have hl : lv_has ls 5 [(0, .ref h), (1, .int x1), (2, .int x2), (3, .ref ot)] := hl
  have hown : s.vm.findClass "StackedRowsLaw" = some m.cls := hown
  refine lv_aload_n hx hb dd_LW_place_0 rfl (lv_at hl 3 rfl) ?_
  refine lv_iconst (v := nI 0) hx hb dd_LW_place_1 (by decide) ?_
  refine lv_aload_n hx hb dd_LW_place_2 rfl (lv_at hl 0 rfl) ?_
  refine lv_iload_n hx hb dd_LW_place_3 rfl (lv_at hl 1 rfl) ?_
  refine lv_iload_n hx hb dd_LW_place_4 rfl (lv_at hl 2 rfl) ?_
  refine xc_VT (wr := [oc_l g ot 1 f9]) (k1 := 1) (k2 := 6) (As := [.int x1, .int x2]) (rest := [.int (nI 0), .ref ot]) (k := 2) hF hP hD hS (cf_place l htr g h tp wt ck sy sv rw lt p9 x1 x2) (xt_V ml_LW_38 wi_SR_place wx_SR_place wn_SR wc_SR_place) (by decide) 0 rfl rfl rfl [0, 1] [2] ⟨rfl, rfl, by decide, by decide, by decide⟩ ⟨⟨Nat.le_of_ble_eq_true rfl, Nat.le_of_ble_eq_true rfl⟩, rfl, rfl, Nat.le_of_ble_eq_true rfl, Nat.le_of_ble_eq_true rfl⟩ rfl hl.1 rfl (Nat.le_of_ble_eq_true rfl) dd_LW_place_5 (pre := []) (z := (0, 10, 13, 41)) (post := [(0, 10, 17, 25)]) htab (fun r hr9 => by cases hr9) ⟨by decide, by decide⟩ cl_LW_41 (fun x_2 H locs hP hD hS => ?_)
  have hP : va_P g.1 vwCl [oc_l g ot 1 f9] H := hP
  have hD : va_D A [oc_l g ot 1 f9] := hD
  refine lv_astore (lv' := [(4, .ref x_2), (0, .ref h), (1, .int x1), (2, .int x2), (3, .ref ot)]) hx hb dd_LW_place_13 hl (by decide) rfl (fun ls hl => ?_)
  refine lv_iconst (v := nI 1) hx hb dd_LW_place_15 (by decide) ?_
  exact xr_i hx hb hr hlk hQ hP hD hS (f9) (by first | rfl | exact congrArg nI (by omega)) [0] (by decide) rfl rfl (Nat.le_of_ble_eq_true rfl) (Nat.le_of_ble_eq_true rfl) dd_LW_place_16

set_option maxHeartbeats 4000000 in
set_option maxRecDepth 100000 in
theorem ch_putT (l : Launch) (htr : l.stackTraces = false) (g : xg_G) (h : Nat) (tp : Nat) (wt : Nat) (ck : Nat) (sy : Nat) (sv : Nat) (rw : Nat) (lt : Nat) (p9 : Nat) (x1 : Int32) (x2 : Int32) (x3 : Int32) : kc_W l yy_LW_put cd_LW_put 5 { frames := 7, cells := 1, slots := 6, locals := 112 } [(0, 7, 10, 41), (0, 7, 14, 25), (0, 7, 18, 19)] g [.ref h, .int x1, .int x2, .int x3] [oc_o h 0 [.ref tp, .ref wt, .ref ck, .ref sy, .ref sv, .ref rw, .ref lt], oc_o sy 7 [.ref p9, .int (nI 0), .int (nI 0)]] (S := Unit) (fun r0 _ => r0 = nI 1) (fun _ => []) := by
  refine kc_Wof (by decide) (Nat.le_of_ble_eq_true rfl) ?_
  intro p e s m args below meth c A ls Q H locs hQ hB hP hS htab
  obtain ⟨hx, hb, hr, hlk, hin, hml, hown, hts, hA, hK, hD, hE, hl⟩ := hB
  have hF : xf_F g p m c cd_LW_put 5 s args "StackedRowsLaw" A := ⟨⟨hx, hb, hml, hown, hts⟩, hE, hK, hA⟩
  have hl : lv_has ls 5 [(0, .ref h), (1, .int x1), (2, .int x2), (3, .int x3)] := hl
  have hown : s.vm.findClass "StackedRowsLaw" = some m.cls := hown
  refine lv_aload_n hx hb dd_LW_put_0 rfl (lv_at hl 0 rfl) ?_
  refine lv_iload_n hx hb dd_LW_put_1 rfl (lv_at hl 1 rfl) ?_
  refine lv_iload_n hx hb dd_LW_put_2 rfl (lv_at hl 2 rfl) ?_
  refine lv_iload_n hx hb dd_LW_put_3 rfl (lv_at hl 3 rfl) ?_
  refine xc_VT (wr := []) (k1 := 1) (k2 := 6) (As := [.int x1, .int x2, .int x3]) (rest := []) (k := 3) hF hP hD hS (cf_put l htr g h tp wt ck sy sv rw lt p9 x1 x2 x3) (xt_V ml_LW_43 wi_SR_put wx_SR_put wn_SR wc_SR_put) (by decide) 0 rfl rfl rfl [0, 1] [] ⟨rfl, rfl, by decide, by decide, by decide⟩ ⟨⟨Nat.le_of_ble_eq_true rfl, Nat.le_of_ble_eq_true rfl⟩, rfl, rfl, Nat.le_of_ble_eq_true rfl, Nat.le_of_ble_eq_true rfl⟩ rfl hl.1 rfl (Nat.le_of_ble_eq_true rfl) dd_LW_put_4 (pre := []) (z := (0, 7, 10, 41)) (post := [(0, 7, 14, 25), (0, 7, 18, 19)]) htab (fun r hr9 => by cases hr9) ⟨by decide, by decide⟩ cl_LW_41 (fun x_2 H locs hP hD hS => ?_)
  have hP : va_P g.1 vwCl [] H := hP
  have hD : va_D A [] := hD
  refine lv_astore (lv' := [(4, .ref x_2), (0, .ref h), (1, .int x1), (2, .int x2), (3, .int x3)]) hx hb dd_LW_put_10 hl (by decide) rfl (fun ls hl => ?_)
  refine lv_iconst (v := nI 1) hx hb dd_LW_put_12 (by decide) ?_
  exact xr_i hx hb hr hlk hQ hP hD hS () (by first | rfl | exact congrArg nI (by omega)) [] (by decide) rfl rfl (Nat.le_of_ble_eq_true rfl) (Nat.le_of_ble_eq_true rfl) dd_LW_put_13

set_option maxHeartbeats 4000000 in
set_option maxRecDepth 100000 in
theorem ch_solveT (l : Launch) (htr : l.stackTraces = false) (g : xg_G) (h : Nat) (tp : Nat) (wt : Nat) (ck : Nat) (sy : Nat) (sv : Nat) (rw : Nat) (lt : Nat) (p9 : Nat) (ot : Nat) (f9 : Nat → Int64) : kc_W l yy_LW_solve cd_LW_solve 3 { frames := 7, cells := 1, slots := 6, locals := 110 } [(0, 8, 11, 41), (0, 8, 14, 13)] g [.ref h, .ref ot] [oc_o h 0 [.ref tp, .ref wt, .ref ck, .ref sy, .ref sv, .ref rw, .ref lt], oc_o sy 7 [.ref p9, .int (nI 0), .int (nI 0)], oc_l g ot 1 f9] (S := (Nat → Int64)) (fun r0 _ => r0 = nI 1) (fun u0 => [oc_l g ot 1 u0]) := by
  refine kc_Wof (by decide) (Nat.le_of_ble_eq_true rfl) ?_
  intro p e s m args below meth c A ls Q H locs hQ hB hP hS htab
  obtain ⟨hx, hb, hr, hlk, hin, hml, hown, hts, hA, hK, hD, hE, hl⟩ := hB
  have hF : xf_F g p m c cd_LW_solve 3 s args "StackedRowsLaw" A := ⟨⟨hx, hb, hml, hown, hts⟩, hE, hK, hA⟩
  have hl : lv_has ls 3 [(0, .ref h), (1, .ref ot)] := hl
  have hown : s.vm.findClass "StackedRowsLaw" = some m.cls := hown
  refine lv_aload_n hx hb dd_LW_solve_0 rfl (lv_at hl 1 rfl) ?_
  refine lv_iconst (v := nI 0) hx hb dd_LW_solve_1 (by decide) ?_
  refine lv_aload_n hx hb dd_LW_solve_2 rfl (lv_at hl 0 rfl) ?_
  refine xc_VT (wr := [oc_l g ot 1 f9]) (k1 := 1) (k2 := 6) (As := []) (rest := [.int (nI 0), .ref ot]) (k := 0) hF hP hD hS (cf_solve l htr g h tp wt ck sy sv rw lt p9) (xt_V ml_LW_47 wi_SR_solve wx_SR_solve wn_SR wc_SR_solve) (by decide) 0 rfl rfl rfl [0, 1] [2] ⟨rfl, rfl, by decide, by decide, by decide⟩ ⟨⟨Nat.le_of_ble_eq_true rfl, Nat.le_of_ble_eq_true rfl⟩, rfl, rfl, Nat.le_of_ble_eq_true rfl, Nat.le_of_ble_eq_true rfl⟩ rfl hl.1 rfl (Nat.le_of_ble_eq_true rfl) dd_LW_solve_3 (pre := []) (z := (0, 8, 11, 41)) (post := [(0, 8, 14, 13)]) htab (fun r hr9 => by cases hr9) ⟨by decide, by decide⟩ cl_LW_41 (fun x_2 H locs hP hD hS => ?_)
  have hP : va_P g.1 vwCl [oc_l g ot 1 f9] H := hP
  have hD : va_D A [oc_l g ot 1 f9] := hD
  refine lv_astore_n (lv' := [(2, .ref x_2), (0, .ref h), (1, .ref ot)]) hx hb dd_LW_solve_11 rfl hl (by decide) rfl (fun ls hl => ?_)
  refine lv_iconst (v := nI 1) hx hb dd_LW_solve_12 (by decide) ?_
  exact xr_i hx hb hr hlk hQ hP hD hS (f9) (by first | rfl | exact congrArg nI (by omega)) [0] (by decide) rfl rfl (Nat.le_of_ble_eq_true rfl) (Nat.le_of_ble_eq_true rfl) dd_LW_solve_13

set_option maxHeartbeats 4000000 in
set_option maxRecDepth 100000 in
theorem ch_solved (l : Launch) (htr : l.stackTraces = false) (g : xg_G) (h : Nat) (tp : Nat) (wt : Nat) (ck : Nat) (sy : Nat) (sv : Nat) (rw : Nat) (lt : Nat) (k : Nat) (ot : Nat) (f9 : Nat → Int64) (qk : k < 4) : kc_W l yy_LW_solved cd_LW_solved 4 { frames := 1, cells := 0, slots := 0, locals := 21 } [(0, 9, 12, 25)] g [.ref h, .int (nI k), .ref ot] [oc_o h 0 [.ref tp, .ref wt, .ref ck, .ref sy, .ref sv, .ref rw, .ref lt], oc_i g lt 4 (fun _ => 0), oc_l g ot 1 f9] (S := (Nat → Int64)) (fun r0 u0 => r0 = nI 0 ∧ u0 0 = (nI 0).toInt64) (fun u0 => [oc_l g ot 1 u0]) := by
  refine kc_Wof (by decide) (Nat.le_of_ble_eq_true rfl) ?_
  intro p e s m args below meth c A ls Q H locs hQ hB hP hS htab
  obtain ⟨hx, hb, hr, hlk, hin, hml, hown, hts, hA, hK, hD, hE, hl⟩ := hB
  have hF : xf_F g p m c cd_LW_solved 4 s args "StackedRowsLaw" A := ⟨⟨hx, hb, hml, hown, hts⟩, hE, hK, hA⟩
  have hl : lv_has ls 4 [(0, .ref h), (1, .int (nI k)), (2, .ref ot)] := hl
  have hown : s.vm.findClass "StackedRowsLaw" = some m.cls := hown
  refine lv_aload_n hx hb dd_LW_solved_0 rfl (lv_at hl 2 rfl) ?_
  refine lv_iconst (v := nI 0) hx hb dd_LW_solved_1 (by decide) ?_
  refine lv_aload_n hx hb dd_LW_solved_2 rfl (lv_at hl 0 rfl) ?_
  refine lv_iload_n hx hb dd_LW_solved_3 rfl (lv_at hl 1 rfl) ?_
  refine xc_Vi (wr := [oc_l g ot 1 f9]) (k1 := 0) (k2 := 0) (As := [.int (nI k)]) (rest := [.int (nI 0), .ref ot]) (k := 1) hF hP hD hS (cf_solved l g h tp wt ck sy sv rw lt k (qk)) (xt_V ml_LW_51 wi_SR_solved wx_SR_solved wn_SR wc_SR_solved) (by decide) 0 rfl rfl rfl [0, 1] [2] ⟨rfl, rfl, by decide, by decide, by decide⟩ ⟨⟨Nat.le_of_ble_eq_true rfl, Nat.le_of_ble_eq_true rfl⟩, rfl, rfl, Nat.le_of_ble_eq_true rfl, Nat.le_of_ble_eq_true rfl⟩ rfl hl.1 rfl (Nat.le_of_ble_eq_true rfl) dd_LW_solved_4 (fun r_1 u H locs hp hP hD hS => ?_)
  obtain rfl := hp
  have hP : va_P g.1 vwCl [oc_l g ot 1 f9] H := hP
  have hD : va_D A [oc_l g ot 1 f9] := hD
  refine lv_i2l hx hb dd_LW_solved_7 rfl ?_
  refine xa_stL hx hb hK hP hD hS 0 rfl (j := 0) (by omega) (by omega) dd_LW_solved_8 (fun f_2 H locs hf_2 hP hD hS => ?_)
  have hP : va_P g.1 vwCl [oc_l g ot 1 f_2] H := hP
  have hD : va_D A [oc_l g ot 1 f_2] := hD
  refine lv_goto (tgt := 15) hx hb dd_LW_solved_9 rfl ?_
  refine lv_iconst (v := nI 0) hx hb dd_LW_solved_15 (by decide) ?_
  exact xr_i hx hb hr hlk hQ hP hD hS (f_2) ⟨(by first | rfl | exact congrArg nI (by omega)), (by first | rfl | omega | assumption)⟩ [0] (by decide) rfl rfl (Nat.le_of_ble_eq_true rfl) (Nat.le_of_ble_eq_true rfl) dd_LW_solved_16

set_option maxHeartbeats 4000000 in
set_option maxRecDepth 100000 in
theorem ch_solvedT (l : Launch) (htr : l.stackTraces = false) (g : xg_G) (h : Nat) (tp : Nat) (wt : Nat) (ck : Nat) (sy : Nat) (sv : Nat) (rw : Nat) (lt : Nat) (x1 : Int32) (ot : Nat) (f9 : Nat → Int64) (qx : x1.toInt < 0 ∨ 4 ≤ x1.toInt) : kc_W l yy_LW_solved cd_LW_solved 4 { frames := 7, cells := 1, slots := 6, locals := 110 } [(0, 9, 12, 25)] g [.ref h, .int x1, .ref ot] [oc_o h 0 [.ref tp, .ref wt, .ref ck, .ref sy, .ref sv, .ref rw, .ref lt], oc_i g lt 4 (fun _ => 0), oc_l g ot 1 f9] (S := (Nat → Int64)) (fun r0 _ => r0 = nI 1) (fun u0 => [oc_l g ot 1 u0]) := by
  refine kc_Wof (by decide) (Nat.le_of_ble_eq_true rfl) ?_
  intro p e s m args below meth c A ls Q H locs hQ hB hP hS htab
  obtain ⟨hx, hb, hr, hlk, hin, hml, hown, hts, hA, hK, hD, hE, hl⟩ := hB
  have hF : xf_F g p m c cd_LW_solved 4 s args "StackedRowsLaw" A := ⟨⟨hx, hb, hml, hown, hts⟩, hE, hK, hA⟩
  have hl : lv_has ls 4 [(0, .ref h), (1, .int x1), (2, .ref ot)] := hl
  have hown : s.vm.findClass "StackedRowsLaw" = some m.cls := hown
  refine lv_aload_n hx hb dd_LW_solved_0 rfl (lv_at hl 2 rfl) ?_
  refine lv_iconst (v := nI 0) hx hb dd_LW_solved_1 (by decide) ?_
  refine lv_aload_n hx hb dd_LW_solved_2 rfl (lv_at hl 0 rfl) ?_
  refine lv_iload_n hx hb dd_LW_solved_3 rfl (lv_at hl 1 rfl) ?_
  refine xc_VT (wr := [oc_l g ot 1 f9]) (k1 := 1) (k2 := 6) (As := [.int x1]) (rest := [.int (nI 0), .ref ot]) (k := 1) hF hP hD hS (cf_solvedT l htr g h tp wt ck sy sv rw lt x1 (qx)) (xt_V ml_LW_51 wi_SR_solved wx_SR_solved wn_SR wc_SR_solved) (by decide) 0 rfl rfl rfl [0, 1] [2] ⟨rfl, rfl, by decide, by decide, by decide⟩ ⟨⟨Nat.le_of_ble_eq_true rfl, Nat.le_of_ble_eq_true rfl⟩, rfl, rfl, Nat.le_of_ble_eq_true rfl, Nat.le_of_ble_eq_true rfl⟩ rfl hl.1 rfl (Nat.le_of_ble_eq_true rfl) dd_LW_solved_4 (pre := []) (z := (0, 9, 12, 25)) (post := []) htab (fun r hr9 => by cases hr9) ⟨by decide, by decide⟩ cl_LW_25 (fun x_2 H locs hP hD hS => ?_)
  have hP : va_P g.1 vwCl [oc_l g ot 1 f9] H := hP
  have hD : va_D A [oc_l g ot 1 f9] := hD
  refine lv_astore_n (lv' := [(3, .ref x_2), (0, .ref h), (1, .int x1), (2, .ref ot)]) hx hb dd_LW_solved_12 rfl hl (by decide) rfl (fun ls hl => ?_)
  refine lv_iconst (v := nI 1) hx hb dd_LW_solved_13 (by decide) ?_
  exact xr_i hx hb hr hlk hQ hP hD hS (f9) (by first | rfl | exact congrArg nI (by omega)) [0] (by decide) rfl rfl (Nat.le_of_ble_eq_true rfl) (Nat.le_of_ble_eq_true rfl) dd_LW_solved_14

set_option maxHeartbeats 4000000 in
set_option maxRecDepth 100000 in
theorem ch_count (l : Launch) (htr : l.stackTraces = false) (g : xg_G) (h : Nat) (tp : Nat) (wt : Nat) (ck : Nat) (sy : Nat) (sv : Nat) (rw : Nat) (lt : Nat) (tb : Nat) (p9 : Nat) (k : Nat) (ot : Nat) (f9 : Nat → Int64) (qk : k < 3) : kc_W l yy_LW_count cd_LW_count 4 { frames := 2, cells := 0, slots := 0, locals := 41 } [(0, 9, 12, 19)] g [.ref h, .int (nI k), .ref ot] [oc_o h 0 [.ref tp, .ref wt, .ref ck, .ref sy, .ref sv, .ref rw, .ref lt], oc_o tp 8 [.ref tb, .int (nI 0)], oc_o sy 7 [.ref p9, .int (nI 0), .int (nI 0)], oc_l g ot 1 f9] (S := (Nat → Int64)) (fun r0 u0 => r0 = nI 0 ∧ u0 0 = (nI 0).toInt64) (fun u0 => [oc_l g ot 1 u0]) := by
  refine kc_Wof (by decide) (Nat.le_of_ble_eq_true rfl) ?_
  intro p e s m args below meth c A ls Q H locs hQ hB hP hS htab
  obtain ⟨hx, hb, hr, hlk, hin, hml, hown, hts, hA, hK, hD, hE, hl⟩ := hB
  have hF : xf_F g p m c cd_LW_count 4 s args "StackedRowsLaw" A := ⟨⟨hx, hb, hml, hown, hts⟩, hE, hK, hA⟩
  have hl : lv_has ls 4 [(0, .ref h), (1, .int (nI k)), (2, .ref ot)] := hl
  have hown : s.vm.findClass "StackedRowsLaw" = some m.cls := hown
  refine lv_aload_n hx hb dd_LW_count_0 rfl (lv_at hl 2 rfl) ?_
  refine lv_iconst (v := nI 0) hx hb dd_LW_count_1 (by decide) ?_
  refine lv_aload_n hx hb dd_LW_count_2 rfl (lv_at hl 0 rfl) ?_
  refine lv_iload_n hx hb dd_LW_count_3 rfl (lv_at hl 1 rfl) ?_
  refine xc_Vi (wr := [oc_l g ot 1 f9]) (k1 := 0) (k2 := 0) (As := [.int (nI k)]) (rest := [.int (nI 0), .ref ot]) (k := 1) hF hP hD hS (cf_count l g h tp wt ck sy sv rw lt tb p9 k (qk)) (xt_V ml_LW_54 wi_SR_count wx_SR_count wn_SR wc_SR_count) (by decide) 0 rfl rfl rfl [0, 1, 2] [3] ⟨rfl, rfl, by decide, by decide, by decide⟩ ⟨⟨Nat.le_of_ble_eq_true rfl, Nat.le_of_ble_eq_true rfl⟩, rfl, rfl, Nat.le_of_ble_eq_true rfl, Nat.le_of_ble_eq_true rfl⟩ rfl hl.1 rfl (Nat.le_of_ble_eq_true rfl) dd_LW_count_4 (fun r_1 u H locs hp hP hD hS => ?_)
  obtain rfl := hp
  have hP : va_P g.1 vwCl [oc_l g ot 1 f9] H := hP
  have hD : va_D A [oc_l g ot 1 f9] := hD
  refine lv_i2l hx hb dd_LW_count_7 rfl ?_
  refine xa_stL hx hb hK hP hD hS 0 rfl (j := 0) (by omega) (by omega) dd_LW_count_8 (fun f_2 H locs hf_2 hP hD hS => ?_)
  have hP : va_P g.1 vwCl [oc_l g ot 1 f_2] H := hP
  have hD : va_D A [oc_l g ot 1 f_2] := hD
  refine lv_goto (tgt := 15) hx hb dd_LW_count_9 rfl ?_
  refine lv_iconst (v := nI 0) hx hb dd_LW_count_15 (by decide) ?_
  exact xr_i hx hb hr hlk hQ hP hD hS (f_2) ⟨(by first | rfl | exact congrArg nI (by omega)), (by first | rfl | omega | assumption)⟩ [0] (by decide) rfl rfl (Nat.le_of_ble_eq_true rfl) (Nat.le_of_ble_eq_true rfl) dd_LW_count_16

set_option maxHeartbeats 4000000 in
set_option maxRecDepth 100000 in
theorem ch_countT (l : Launch) (htr : l.stackTraces = false) (g : xg_G) (h : Nat) (tp : Nat) (wt : Nat) (ck : Nat) (sy : Nat) (sv : Nat) (rw : Nat) (lt : Nat) (x1 : Int32) (ot : Nat) (f9 : Nat → Int64) (qx : x1.toInt < 0 ∨ 3 ≤ x1.toInt) : kc_W l yy_LW_count cd_LW_count 4 { frames := 7, cells := 1, slots := 6, locals := 110 } [(0, 9, 12, 19)] g [.ref h, .int x1, .ref ot] [oc_o h 0 [.ref tp, .ref wt, .ref ck, .ref sy, .ref sv, .ref rw, .ref lt], oc_l g ot 1 f9] (S := (Nat → Int64)) (fun r0 _ => r0 = nI 1) (fun u0 => [oc_l g ot 1 u0]) := by
  refine kc_Wof (by decide) (Nat.le_of_ble_eq_true rfl) ?_
  intro p e s m args below meth c A ls Q H locs hQ hB hP hS htab
  obtain ⟨hx, hb, hr, hlk, hin, hml, hown, hts, hA, hK, hD, hE, hl⟩ := hB
  have hF : xf_F g p m c cd_LW_count 4 s args "StackedRowsLaw" A := ⟨⟨hx, hb, hml, hown, hts⟩, hE, hK, hA⟩
  have hl : lv_has ls 4 [(0, .ref h), (1, .int x1), (2, .ref ot)] := hl
  have hown : s.vm.findClass "StackedRowsLaw" = some m.cls := hown
  refine lv_aload_n hx hb dd_LW_count_0 rfl (lv_at hl 2 rfl) ?_
  refine lv_iconst (v := nI 0) hx hb dd_LW_count_1 (by decide) ?_
  refine lv_aload_n hx hb dd_LW_count_2 rfl (lv_at hl 0 rfl) ?_
  refine lv_iload_n hx hb dd_LW_count_3 rfl (lv_at hl 1 rfl) ?_
  refine xc_VT (wr := [oc_l g ot 1 f9]) (k1 := 1) (k2 := 6) (As := [.int x1]) (rest := [.int (nI 0), .ref ot]) (k := 1) hF hP hD hS (cf_countT l htr g h tp wt ck sy sv rw lt x1 (qx)) (xt_V ml_LW_54 wi_SR_count wx_SR_count wn_SR wc_SR_count) (by decide) 0 rfl rfl rfl [0] [1] ⟨rfl, rfl, by decide, by decide, by decide⟩ ⟨⟨Nat.le_of_ble_eq_true rfl, Nat.le_of_ble_eq_true rfl⟩, rfl, rfl, Nat.le_of_ble_eq_true rfl, Nat.le_of_ble_eq_true rfl⟩ rfl hl.1 rfl (Nat.le_of_ble_eq_true rfl) dd_LW_count_4 (pre := []) (z := (0, 9, 12, 19)) (post := []) htab (fun r hr9 => by cases hr9) ⟨by decide, by decide⟩ cl_LW_19 (fun x_2 H locs hP hD hS => ?_)
  have hP : va_P g.1 vwCl [oc_l g ot 1 f9] H := hP
  have hD : va_D A [oc_l g ot 1 f9] := hD
  refine lv_astore_n (lv' := [(3, .ref x_2), (0, .ref h), (1, .int x1), (2, .ref ot)]) hx hb dd_LW_count_12 rfl hl (by decide) rfl (fun ls hl => ?_)
  refine lv_iconst (v := nI 1) hx hb dd_LW_count_13 (by decide) ?_
  exact xr_i hx hb hr hlk hQ hP hD hS (f9) (by first | rfl | exact congrArg nI (by omega)) [0] (by decide) rfl rfl (Nat.le_of_ble_eq_true rfl) (Nat.le_of_ble_eq_true rfl) dd_LW_count_14
