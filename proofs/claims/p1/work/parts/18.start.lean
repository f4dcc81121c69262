set_option maxHeartbeats 4000000 in
set_option maxRecDepth 100000 in
theorem lc_short {p : Program} {e : Env} {s : State} {m : MethodId} {below : List Frame} {meth : Method} {c : Code} {A : Nat → Prop} {H : Heap} {locs : List Loc} {ls : Array Slot} {b L : Nat} {xs : Nat → Int32} (l : Launch) (htr : l.stackTraces = false) (g : xg_G) (hB : xl_B g p s m meth c b L xs A) (hL6 : L < 6) (hP : va_P g.1 vwCl [] H) (hD : va_D A []) (hS : va_S A s.heap H locs) (hl : lv_has ls 7 [(0, .ref b)]) : W p l e room_1 s m #[Value.ref b] below meth c H locs 0 0 (lw_Z below #[Value.ref b] s) (F0 m 0 ls []) := by
  obtain ⟨hx, hb, hr, hlk, hml, hown, hts, hX, hbl, hbA, hAf, hA, hK, hE⟩ := id hB
  have hF : xf_F g p m c cd_LW_law 7 s #[Value.ref b] "StackedRowsLaw" A := ⟨⟨hx, hb, hml, hown, hts⟩, hE, hK, hA⟩
  refine nw_LW_8 (k1 := 1) (k2 := 7) hx hb hts hown hK hP hD hS hA rfl rfl (Nat.le_of_ble_eq_true rfl) (Nat.le_of_ble_eq_true rfl) dd_LW_law_0 (fun q_1 H hP hD hS => ?_)
  have hP : va_P g.1 vwCl [oc_o q_1 0 [.null, .null, .null, .null, .null, .null, .null]] H := hP
  have hD : va_D A [oc_o q_1 0 [.null, .null, .null, .null, .null, .null, .null]] := hD
  refine lv_dup hx hb dd_LW_law_3 rfl ?_
  refine xc_Iv (wr := []) (k1 := 31) (k2 := 13456) (As := []) (rest := [.ref q_1]) (k := 0) hF hP hD hS (ct_sr_init l g q_1) wc_SR_init wn_SR ml_LW_57 wi_SR_init rfl (by decide) [0] [] ⟨rfl, rfl, by decide, by decide, by decide⟩ ⟨⟨Nat.le_of_ble_eq_true rfl, Nat.le_of_ble_eq_true rfl⟩, rfl, rfl, Nat.le_of_ble_eq_true rfl, Nat.le_of_ble_eq_true rfl⟩ rfl hl.1 rfl (Nat.le_of_ble_eq_true rfl) dd_LW_law_4 (fun u H locs hp hP hD hS => ?_)
  obtain ⟨tp_2, wt_3, ck_4, sy_5, sv_6, rw_7, lt_8, tb_9, o_10, x_11, n_12, d_13, e_14, b_15, fc_16, p_17, v_18⟩ := u
  have hP : va_P g.1 vwCl [oc_o q_1 0 [.ref tp_2, .ref wt_3, .ref ck_4, .ref sy_5, .ref sv_6, .ref rw_7, .ref lt_8], oc_o tp_2 8 [.ref tb_9, .int (nI 0)], oc_i g tb_9 1200 (fun _ => 0), oc_o wt_3 10 [.ref tp_2, .ref o_10, .ref x_11, .ref n_12, .ref d_13, .ref e_14, .int (nI 900), .int (nI 0)], oc_o o_10 3 [.ref b_15, .int (nI 0)], oc_o x_11 9 [.ref o_10, v_18, .int (-1)], oc_i g d_13 1201 (fun _ => 0), oc_i g e_14 1201 (fun _ => 0), oc_o ck_4 2 [.ref fc_16], oc_i g fc_16 513 (fun _ => 0), oc_o sy_5 7 [.ref p_17, .int (nI 0), .int (nI 0)], oc_i g p_17 1108 (fun _ => 0), oc_i g rw_7 928 (fun _ => 0), oc_i g lt_8 4 (fun _ => 0)] H := hP
  have hD : va_D A [oc_o q_1 0 [.ref tp_2, .ref wt_3, .ref ck_4, .ref sy_5, .ref sv_6, .ref rw_7, .ref lt_8], oc_o tp_2 8 [.ref tb_9, .int (nI 0)], oc_i g tb_9 1200 (fun _ => 0), oc_o wt_3 10 [.ref tp_2, .ref o_10, .ref x_11, .ref n_12, .ref d_13, .ref e_14, .int (nI 900), .int (nI 0)], oc_o o_10 3 [.ref b_15, .int (nI 0)], oc_o x_11 9 [.ref o_10, v_18, .int (-1)], oc_i g d_13 1201 (fun _ => 0), oc_i g e_14 1201 (fun _ => 0), oc_o ck_4 2 [.ref fc_16], oc_i g fc_16 513 (fun _ => 0), oc_o sy_5 7 [.ref p_17, .int (nI 0), .int (nI 0)], oc_i g p_17 1108 (fun _ => 0), oc_i g rw_7 928 (fun _ => 0), oc_i g lt_8 4 (fun _ => 0)] := hD
  refine lv_astore_n (lv' := [(1, .ref q_1), (0, .ref b)]) hx hb dd_LW_law_7 rfl hl (by decide) rfl (fun ls hl => ?_)
  refine nw_LW_58 (k1 := 32) (k2 := 13488) hx hb hts hown hK hP hD hS hA rfl rfl (Nat.le_of_ble_eq_true rfl) (Nat.le_of_ble_eq_true rfl) dd_LW_law_8 (fun q_20 H hP hD hS => ?_)
  have hP : va_P g.1 vwCl [oc_o q_1 0 [.ref tp_2, .ref wt_3, .ref ck_4, .ref sy_5, .ref sv_6, .ref rw_7, .ref lt_8], oc_o tp_2 8 [.ref tb_9, .int (nI 0)], oc_i g tb_9 1200 (fun _ => 0), oc_o wt_3 10 [.ref tp_2, .ref o_10, .ref x_11, .ref n_12, .ref d_13, .ref e_14, .int (nI 900), .int (nI 0)], oc_o o_10 3 [.ref b_15, .int (nI 0)], oc_o x_11 9 [.ref o_10, v_18, .int (-1)], oc_i g d_13 1201 (fun _ => 0), oc_i g e_14 1201 (fun _ => 0), oc_o ck_4 2 [.ref fc_16], oc_i g fc_16 513 (fun _ => 0), oc_o sy_5 7 [.ref p_17, .int (nI 0), .int (nI 0)], oc_i g p_17 1108 (fun _ => 0), oc_i g rw_7 928 (fun _ => 0), oc_i g lt_8 4 (fun _ => 0), oc_o q_20 11 [.int (nI 0), .null, .int (nI 0), .null, .int (nI 0), .int (nI 0), .int (nI 0), .null, .null, .int (nI 0), .int (nI 0), .null, .int (nI 0), .int (nI 0), .int (nI 0), .int (nI 0), .null, .null, .null, .null, .null, .null, .null, .null, .null, .null, .null, .null, .null, .int (nI 0), .null, .int (nI 0)]] H := hP
  have hD : va_D A [oc_o q_1 0 [.ref tp_2, .ref wt_3, .ref ck_4, .ref sy_5, .ref sv_6, .ref rw_7, .ref lt_8], oc_o tp_2 8 [.ref tb_9, .int (nI 0)], oc_i g tb_9 1200 (fun _ => 0), oc_o wt_3 10 [.ref tp_2, .ref o_10, .ref x_11, .ref n_12, .ref d_13, .ref e_14, .int (nI 900), .int (nI 0)], oc_o o_10 3 [.ref b_15, .int (nI 0)], oc_o x_11 9 [.ref o_10, v_18, .int (-1)], oc_i g d_13 1201 (fun _ => 0), oc_i g e_14 1201 (fun _ => 0), oc_o ck_4 2 [.ref fc_16], oc_i g fc_16 513 (fun _ => 0), oc_o sy_5 7 [.ref p_17, .int (nI 0), .int (nI 0)], oc_i g p_17 1108 (fun _ => 0), oc_i g rw_7 928 (fun _ => 0), oc_i g lt_8 4 (fun _ => 0), oc_o q_20 11 [.int (nI 0), .null, .int (nI 0), .null, .int (nI 0), .int (nI 0), .int (nI 0), .null, .null, .int (nI 0), .int (nI 0), .null, .int (nI 0), .int (nI 0), .int (nI 0), .int (nI 0), .null, .null, .null, .null, .null, .null, .null, .null, .null, .null, .null, .null, .null, .int (nI 0), .null, .int (nI 0)]] := hD
  refine lv_dup hx hb dd_LW_law_11 rfl ?_
  refine xc_Iv (wr := [oc_o q_1 0 [.ref tp_2, .ref wt_3, .ref ck_4, .ref sy_5, .ref sv_6, .ref rw_7, .ref lt_8], oc_o tp_2 8 [.ref tb_9, .int (nI 0)], oc_i g tb_9 1200 (fun _ => 0), oc_o wt_3 10 [.ref tp_2, .ref o_10, .ref x_11, .ref n_12, .ref d_13, .ref e_14, .int (nI 900), .int (nI 0)], oc_o o_10 3 [.ref b_15, .int (nI 0)], oc_o x_11 9 [.ref o_10, v_18, .int (-1)], oc_i g d_13 1201 (fun _ => 0), oc_i g e_14 1201 (fun _ => 0), oc_o ck_4 2 [.ref fc_16], oc_i g fc_16 513 (fun _ => 0), oc_o sy_5 7 [.ref p_17, .int (nI 0), .int (nI 0)], oc_i g p_17 1108 (fun _ => 0), oc_i g rw_7 928 (fun _ => 0), oc_i g lt_8 4 (fun _ => 0)]) (k1 := 51) (k2 := 39815) (As := []) (rest := [.ref q_20]) (k := 0) hF hP hD hS (cm_init l g q_20) wc_MO_init wn_MO ml_LW_60 wi_MO_init rfl (by decide) [14] [0, 1, 2, 3, 4, 5, 6, 7, 8, 9, 10, 11, 12, 13] ⟨rfl, rfl, by decide, by decide, by decide⟩ ⟨⟨Nat.le_of_ble_eq_true rfl, Nat.le_of_ble_eq_true rfl⟩, rfl, rfl, Nat.le_of_ble_eq_true rfl, Nat.le_of_ble_eq_true rfl⟩ rfl hl.1 rfl (Nat.le_of_ble_eq_true rfl) dd_LW_law_12 (fun u H locs hp hP hD hS => ?_)
  obtain ⟨m_tape_21, m_words_22, m_mixed_23, m_signs_24, m_places_25, m_row_26, m_lost_27, m_powers_28, m_sums_29, m_counted_30, m_gone_31, m_above_32, m_below_33, m_old_34, m_now_35, m_work_36, m_isWrong_37, m_out_38, m_digits_39, fp_40⟩ := u
  have hP : va_P g.1 vwCl [oc_o q_1 0 [.ref tp_2, .ref wt_3, .ref ck_4, .ref sy_5, .ref sv_6, .ref rw_7, .ref lt_8], oc_o tp_2 8 [.ref tb_9, .int (nI 0)], oc_i g tb_9 1200 (fun _ => 0), oc_o wt_3 10 [.ref tp_2, .ref o_10, .ref x_11, .ref n_12, .ref d_13, .ref e_14, .int (nI 900), .int (nI 0)], oc_o o_10 3 [.ref b_15, .int (nI 0)], oc_o x_11 9 [.ref o_10, v_18, .int (-1)], oc_i g d_13 1201 (fun _ => 0), oc_i g e_14 1201 (fun _ => 0), oc_o ck_4 2 [.ref fc_16], oc_i g fc_16 513 (fun _ => 0), oc_o sy_5 7 [.ref p_17, .int (nI 0), .int (nI 0)], oc_i g p_17 1108 (fun _ => 0), oc_i g rw_7 928 (fun _ => 0), oc_i g lt_8 4 (fun _ => 0), oc_o q_20 11 [.int (nI 0), .ref m_tape_21, .int (nI 0), .ref m_words_22, .int (nI 0), .int (nI 0), .int (nI 0), .ref m_mixed_23, .ref m_signs_24, .int (nI 0), .int (nI 0), .ref m_places_25, .int (nI 0), .int (nI 0), .int (nI 0), .int (nI 0), .ref m_row_26, .ref m_lost_27, .ref m_powers_28, .ref m_sums_29, .ref m_counted_30, .ref m_gone_31, .ref m_above_32, .ref m_below_33, .ref m_old_34, .ref m_now_35, .ref m_work_36, .ref m_isWrong_37, .ref m_out_38, .int (nI 0), .ref m_digits_39, .int (nI 0)], oc_i g m_tape_21 1220 (fun _ => 0), oc_i g m_places_25 2900 (fun _ => 0), oc_i g m_row_26 928 (fun _ => 0), oc_i g m_powers_28 929 fp_40, oc_i g m_gone_31 1860 (fun _ => 0), oc_i g m_work_36 1860 (fun _ => 0)] H := hP
  have hD : va_D A [oc_o q_1 0 [.ref tp_2, .ref wt_3, .ref ck_4, .ref sy_5, .ref sv_6, .ref rw_7, .ref lt_8], oc_o tp_2 8 [.ref tb_9, .int (nI 0)], oc_i g tb_9 1200 (fun _ => 0), oc_o wt_3 10 [.ref tp_2, .ref o_10, .ref x_11, .ref n_12, .ref d_13, .ref e_14, .int (nI 900), .int (nI 0)], oc_o o_10 3 [.ref b_15, .int (nI 0)], oc_o x_11 9 [.ref o_10, v_18, .int (-1)], oc_i g d_13 1201 (fun _ => 0), oc_i g e_14 1201 (fun _ => 0), oc_o ck_4 2 [.ref fc_16], oc_i g fc_16 513 (fun _ => 0), oc_o sy_5 7 [.ref p_17, .int (nI 0), .int (nI 0)], oc_i g p_17 1108 (fun _ => 0), oc_i g rw_7 928 (fun _ => 0), oc_i g lt_8 4 (fun _ => 0), oc_o q_20 11 [.int (nI 0), .ref m_tape_21, .int (nI 0), .ref m_words_22, .int (nI 0), .int (nI 0), .int (nI 0), .ref m_mixed_23, .ref m_signs_24, .int (nI 0), .int (nI 0), .ref m_places_25, .int (nI 0), .int (nI 0), .int (nI 0), .int (nI 0), .ref m_row_26, .ref m_lost_27, .ref m_powers_28, .ref m_sums_29, .ref m_counted_30, .ref m_gone_31, .ref m_above_32, .ref m_below_33, .ref m_old_34, .ref m_now_35, .ref m_work_36, .ref m_isWrong_37, .ref m_out_38, .int (nI 0), .ref m_digits_39, .int (nI 0)], oc_i g m_tape_21 1220 (fun _ => 0), oc_i g m_places_25 2900 (fun _ => 0), oc_i g m_row_26 928 (fun _ => 0), oc_i g m_powers_28 929 fp_40, oc_i g m_gone_31 1860 (fun _ => 0), oc_i g m_work_36 1860 (fun _ => 0)] := hD
  refine lv_astore_n (lv' := [(2, .ref q_20), (1, .ref q_1), (0, .ref b)]) hx hb dd_LW_law_15 rfl hl (by decide) rfl (fun ls hl => ?_)
  refine lv_iconst (v := nI 1) hx hb dd_LW_law_16 (by decide) ?_
  refine xa_newL (k1 := 52) (k2 := 39816) hx hb (hts _ wa_long) hK hP hD hS hA (by decide) rfl rfl (Nat.le_of_ble_eq_true rfl) (Nat.le_of_ble_eq_true rfl) dd_LW_law_17 (fun q_42 H hP hD hS => ?_)
  have hP : va_P g.1 vwCl [oc_o q_1 0 [.ref tp_2, .ref wt_3, .ref ck_4, .ref sy_5, .ref sv_6, .ref rw_7, .ref lt_8], oc_o tp_2 8 [.ref tb_9, .int (nI 0)], oc_i g tb_9 1200 (fun _ => 0), oc_o wt_3 10 [.ref tp_2, .ref o_10, .ref x_11, .ref n_12, .ref d_13, .ref e_14, .int (nI 900), .int (nI 0)], oc_o o_10 3 [.ref b_15, .int (nI 0)], oc_o x_11 9 [.ref o_10, v_18, .int (-1)], oc_i g d_13 1201 (fun _ => 0), oc_i g e_14 1201 (fun _ => 0), oc_o ck_4 2 [.ref fc_16], oc_i g fc_16 513 (fun _ => 0), oc_o sy_5 7 [.ref p_17, .int (nI 0), .int (nI 0)], oc_i g p_17 1108 (fun _ => 0), oc_i g rw_7 928 (fun _ => 0), oc_i g lt_8 4 (fun _ => 0), oc_o q_20 11 [.int (nI 0), .ref m_tape_21, .int (nI 0), .ref m_words_22, .int (nI 0), .int (nI 0), .int (nI 0), .ref m_mixed_23, .ref m_signs_24, .int (nI 0), .int (nI 0), .ref m_places_25, .int (nI 0), .int (nI 0), .int (nI 0), .int (nI 0), .ref m_row_26, .ref m_lost_27, .ref m_powers_28, .ref m_sums_29, .ref m_counted_30, .ref m_gone_31, .ref m_above_32, .ref m_below_33, .ref m_old_34, .ref m_now_35, .ref m_work_36, .ref m_isWrong_37, .ref m_out_38, .int (nI 0), .ref m_digits_39, .int (nI 0)], oc_i g m_tape_21 1220 (fun _ => 0), oc_i g m_places_25 2900 (fun _ => 0), oc_i g m_row_26 928 (fun _ => 0), oc_i g m_powers_28 929 fp_40, oc_i g m_gone_31 1860 (fun _ => 0), oc_i g m_work_36 1860 (fun _ => 0), oc_l g q_42 1 (fun _ => 0)] H := hP
  have hD : va_D A [oc_o q_1 0 [.ref tp_2, .ref wt_3, .ref ck_4, .ref sy_5, .ref sv_6, .ref rw_7, .ref lt_8], oc_o tp_2 8 [.ref tb_9, .int (nI 0)], oc_i g tb_9 1200 (fun _ => 0), oc_o wt_3 10 [.ref tp_2, .ref o_10, .ref x_11, .ref n_12, .ref d_13, .ref e_14, .int (nI 900), .int (nI 0)], oc_o o_10 3 [.ref b_15, .int (nI 0)], oc_o x_11 9 [.ref o_10, v_18, .int (-1)], oc_i g d_13 1201 (fun _ => 0), oc_i g e_14 1201 (fun _ => 0), oc_o ck_4 2 [.ref fc_16], oc_i g fc_16 513 (fun _ => 0), oc_o sy_5 7 [.ref p_17, .int (nI 0), .int (nI 0)], oc_i g p_17 1108 (fun _ => 0), oc_i g rw_7 928 (fun _ => 0), oc_i g lt_8 4 (fun _ => 0), oc_o q_20 11 [.int (nI 0), .ref m_tape_21, .int (nI 0), .ref m_words_22, .int (nI 0), .int (nI 0), .int (nI 0), .ref m_mixed_23, .ref m_signs_24, .int (nI 0), .int (nI 0), .ref m_places_25, .int (nI 0), .int (nI 0), .int (nI 0), .int (nI 0), .ref m_row_26, .ref m_lost_27, .ref m_powers_28, .ref m_sums_29, .ref m_counted_30, .ref m_gone_31, .ref m_above_32, .ref m_below_33, .ref m_old_34, .ref m_now_35, .ref m_work_36, .ref m_isWrong_37, .ref m_out_38, .int (nI 0), .ref m_digits_39, .int (nI 0)], oc_i g m_tape_21 1220 (fun _ => 0), oc_i g m_places_25 2900 (fun _ => 0), oc_i g m_row_26 928 (fun _ => 0), oc_i g m_powers_28 929 fp_40, oc_i g m_gone_31 1860 (fun _ => 0), oc_i g m_work_36 1860 (fun _ => 0), oc_l g q_42 1 (fun _ => 0)] := hD
  refine lv_astore_n (lv' := [(3, .ref q_42), (2, .ref q_20), (1, .ref q_1), (0, .ref b)]) hx hb dd_LW_law_19 rfl hl (by decide) rfl (fun ls hl => ?_)
  refine lv_iconst (v := nI 0) hx hb dd_LW_law_20 (by decide) ?_
  refine lv_istore (lv' := [(4, .int (nI 0)), (3, .ref q_42), (2, .ref q_20), (1, .ref q_1), (0, .ref b)]) hx hb dd_LW_law_21 hl (by decide) rfl (fun ls hl => ?_)
  refine lv_iload hx hb dd_LW_law_23 (lv_at hl 0 rfl) ?_
  refine lv_aload_n hx hb dd_LW_law_25 rfl (lv_at hl 4 rfl) ?_
  refine va_slen hx hb hX hbl hbA hS dd_LW_law_26 ?_
  refine lv_bipush (v := nI 6) hx hb dd_LW_law_27 (by decide) ?_
  refine lv_isub hx hb dd_LW_law_29 (lv_topi (fun y9 hy9 => ?_))
  refine lv_icmp_gt (tgt := 775) hx hb dd_LW_law_30 rfl (fun _ => ?_) (fun h9 => absurd (by rw [hy9]; exact pk_sneg (by decide) hL6) h9)
  refine lv_iconst (v := nI 1) hx hb dd_LW_law_775 (by decide) ?_
  exact xl_end hx hb hr hlk hAf hS (Nat.le_of_ble_eq_true rfl) (Nat.le_of_ble_eq_true rfl) dd_LW_law_776

set_option maxHeartbeats 4000000 in
set_option maxRecDepth 100000 in
theorem lc_long {p : Program} {e : Env} {s : State} {m : MethodId} {below : List Frame} {meth : Method} {c : Code} {A : Nat → Prop} {H : Heap} {locs : List Loc} {ls : Array Slot} {b L : Nat} {xs : Nat → Int32} (l : Launch) (htr : l.stackTraces = false) (g : xg_G) (hB : xl_B g p s m meth c b L xs A) (hL : L = 6) (hP : va_P g.1 vwCl [] H) (hD : va_D A []) (hS : va_S A s.heap H locs) (hl : lv_has ls 7 [(0, .ref b)]) : W p l e room_1 s m #[Value.ref b] below meth c H locs 0 0 (lw_Z below #[Value.ref b] s) (F0 m 0 ls []) := by
  obtain ⟨hx, hb, hr, hlk, hml, hown, hts, hX, hbl, hbA, hAf, hA, hK, hE⟩ := id hB
  have hF : xf_F g p m c cd_LW_law 7 s #[Value.ref b] "StackedRowsLaw" A := ⟨⟨hx, hb, hml, hown, hts⟩, hE, hK, hA⟩
  refine nw_LW_8 (k1 := 1) (k2 := 7) hx hb hts hown hK hP hD hS hA rfl rfl (Nat.le_of_ble_eq_true rfl) (Nat.le_of_ble_eq_true rfl) dd_LW_law_0 (fun q_1 H hP hD hS => ?_)
  have hP : va_P g.1 vwCl [oc_o q_1 0 [.null, .null, .null, .null, .null, .null, .null]] H := hP
  have hD : va_D A [oc_o q_1 0 [.null, .null, .null, .null, .null, .null, .null]] := hD
  refine lv_dup hx hb dd_LW_law_3 rfl ?_
  refine xc_Iv (wr := []) (k1 := 31) (k2 := 13456) (As := []) (rest := [.ref q_1]) (k := 0) hF hP hD hS (ct_sr_init l g q_1) wc_SR_init wn_SR ml_LW_57 wi_SR_init rfl (by decide) [0] [] ⟨rfl, rfl, by decide, by decide, by decide⟩ ⟨⟨Nat.le_of_ble_eq_true rfl, Nat.le_of_ble_eq_true rfl⟩, rfl, rfl, Nat.le_of_ble_eq_true rfl, Nat.le_of_ble_eq_true rfl⟩ rfl hl.1 rfl (Nat.le_of_ble_eq_true rfl) dd_LW_law_4 (fun u H locs hp hP hD hS => ?_)
  obtain ⟨tp_2, wt_3, ck_4, sy_5, sv_6, rw_7, lt_8, tb_9, o_10, x_11, n_12, d_13, e_14, b_15, fc_16, p_17, v_18⟩ := u
  have hP : va_P g.1 vwCl [oc_o q_1 0 [.ref tp_2, .ref wt_3, .ref ck_4, .ref sy_5, .ref sv_6, .ref rw_7, .ref lt_8], oc_o tp_2 8 [.ref tb_9, .int (nI 0)], oc_i g tb_9 1200 (fun _ => 0), oc_o wt_3 10 [.ref tp_2, .ref o_10, .ref x_11, .ref n_12, .ref d_13, .ref e_14, .int (nI 900), .int (nI 0)], oc_o o_10 3 [.ref b_15, .int (nI 0)], oc_o x_11 9 [.ref o_10, v_18, .int (-1)], oc_i g d_13 1201 (fun _ => 0), oc_i g e_14 1201 (fun _ => 0), oc_o ck_4 2 [.ref fc_16], oc_i g fc_16 513 (fun _ => 0), oc_o sy_5 7 [.ref p_17, .int (nI 0), .int (nI 0)], oc_i g p_17 1108 (fun _ => 0), oc_i g rw_7 928 (fun _ => 0), oc_i g lt_8 4 (fun _ => 0)] H := hP
  have hD : va_D A [oc_o q_1 0 [.ref tp_2, .ref wt_3, .ref ck_4, .ref sy_5, .ref sv_6, .ref rw_7, .ref lt_8], oc_o tp_2 8 [.ref tb_9, .int (nI 0)], oc_i g tb_9 1200 (fun _ => 0), oc_o wt_3 10 [.ref tp_2, .ref o_10, .ref x_11, .ref n_12, .ref d_13, .ref e_14, .int (nI 900), .int (nI 0)], oc_o o_10 3 [.ref b_15, .int (nI 0)], oc_o x_11 9 [.ref o_10, v_18, .int (-1)], oc_i g d_13 1201 (fun _ => 0), oc_i g e_14 1201 (fun _ => 0), oc_o ck_4 2 [.ref fc_16], oc_i g fc_16 513 (fun _ => 0), oc_o sy_5 7 [.ref p_17, .int (nI 0), .int (nI 0)], oc_i g p_17 1108 (fun _ => 0), oc_i g rw_7 928 (fun _ => 0), oc_i g lt_8 4 (fun _ => 0)] := hD
  refine lv_astore_n (lv' := [(1, .ref q_1), (0, .ref b)]) hx hb dd_LW_law_7 rfl hl (by decide) rfl (fun ls hl => ?_)
  refine nw_LW_58 (k1 := 32) (k2 := 13488) hx hb hts hown hK hP hD hS hA rfl rfl (Nat.le_of_ble_eq_true rfl) (Nat.le_of_ble_eq_true rfl) dd_LW_law_8 (fun q_20 H hP hD hS => ?_)
  have hP : va_P g.1 vwCl [oc_o q_1 0 [.ref tp_2, .ref wt_3, .ref ck_4, .ref sy_5, .ref sv_6, .ref rw_7, .ref lt_8], oc_o tp_2 8 [.ref tb_9, .int (nI 0)], oc_i g tb_9 1200 (fun _ => 0), oc_o wt_3 10 [.ref tp_2, .ref o_10, .ref x_11, .ref n_12, .ref d_13, .ref e_14, .int (nI 900), .int (nI 0)], oc_o o_10 3 [.ref b_15, .int (nI 0)], oc_o x_11 9 [.ref o_10, v_18, .int (-1)], oc_i g d_13 1201 (fun _ => 0), oc_i g e_14 1201 (fun _ => 0), oc_o ck_4 2 [.ref fc_16], oc_i g fc_16 513 (fun _ => 0), oc_o sy_5 7 [.ref p_17, .int (nI 0), .int (nI 0)], oc_i g p_17 1108 (fun _ => 0), oc_i g rw_7 928 (fun _ => 0), oc_i g lt_8 4 (fun _ => 0), oc_o q_20 11 [.int (nI 0), .null, .int (nI 0), .null, .int (nI 0), .int (nI 0), .int (nI 0), .null, .null, .int (nI 0), .int (nI 0), .null, .int (nI 0), .int (nI 0), .int (nI 0), .int (nI 0), .null, .null, .null, .null, .null, .null, .null, .null, .null, .null, .null, .null, .null, .int (nI 0), .null, .int (nI 0)]] H := hP
  have hD : va_D A [oc_o q_1 0 [.ref tp_2, .ref wt_3, .ref ck_4, .ref sy_5, .ref sv_6, .ref rw_7, .ref lt_8], oc_o tp_2 8 [.ref tb_9, .int (nI 0)], oc_i g tb_9 1200 (fun _ => 0), oc_o wt_3 10 [.ref tp_2, .ref o_10, .ref x_11, .ref n_12, .ref d_13, .ref e_14, .int (nI 900), .int (nI 0)], oc_o o_10 3 [.ref b_15, .int (nI 0)], oc_o x_11 9 [.ref o_10, v_18, .int (-1)], oc_i g d_13 1201 (fun _ => 0), oc_i g e_14 1201 (fun _ => 0), oc_o ck_4 2 [.ref fc_16], oc_i g fc_16 513 (fun _ => 0), oc_o sy_5 7 [.ref p_17, .int (nI 0), .int (nI 0)], oc_i g p_17 1108 (fun _ => 0), oc_i g rw_7 928 (fun _ => 0), oc_i g lt_8 4 (fun _ => 0), oc_o q_20 11 [.int (nI 0), .null, .int (nI 0), .null, .int (nI 0), .int (nI 0), .int (nI 0), .null, .null, .int (nI 0), .int (nI 0), .null, .int (nI 0), .int (nI 0), .int (nI 0), .int (nI 0), .null, .null, .null, .null, .null, .null, .null, .null, .null, .null, .null, .null, .null, .int (nI 0), .null, .int (nI 0)]] := hD
  refine lv_dup hx hb dd_LW_law_11 rfl ?_
  refine xc_Iv (wr := [oc_o q_1 0 [.ref tp_2, .ref wt_3, .ref ck_4, .ref sy_5, .ref sv_6, .ref rw_7, .ref lt_8], oc_o tp_2 8 [.ref tb_9, .int (nI 0)], oc_i g tb_9 1200 (fun _ => 0), oc_o wt_3 10 [.ref tp_2, .ref o_10, .ref x_11, .ref n_12, .ref d_13, .ref e_14, .int (nI 900), .int (nI 0)], oc_o o_10 3 [.ref b_15, .int (nI 0)], oc_o x_11 9 [.ref o_10, v_18, .int (-1)], oc_i g d_13 1201 (fun _ => 0), oc_i g e_14 1201 (fun _ => 0), oc_o ck_4 2 [.ref fc_16], oc_i g fc_16 513 (fun _ => 0), oc_o sy_5 7 [.ref p_17, .int (nI 0), .int (nI 0)], oc_i g p_17 1108 (fun _ => 0), oc_i g rw_7 928 (fun _ => 0), oc_i g lt_8 4 (fun _ => 0)]) (k1 := 51) (k2 := 39815) (As := []) (rest := [.ref q_20]) (k := 0) hF hP hD hS (cm_init l g q_20) wc_MO_init wn_MO ml_LW_60 wi_MO_init rfl (by decide) [14] [0, 1, 2, 3, 4, 5, 6, 7, 8, 9, 10, 11, 12, 13] ⟨rfl, rfl, by decide, by decide, by decide⟩ ⟨⟨Nat.le_of_ble_eq_true rfl, Nat.le_of_ble_eq_true rfl⟩, rfl, rfl, Nat.le_of_ble_eq_true rfl, Nat.le_of_ble_eq_true rfl⟩ rfl hl.1 rfl (Nat.le_of_ble_eq_true rfl) dd_LW_law_12 (fun u H locs hp hP hD hS => ?_)
  obtain ⟨m_tape_21, m_words_22, m_mixed_23, m_signs_24, m_places_25, m_row_26, m_lost_27, m_powers_28, m_sums_29, m_counted_30, m_gone_31, m_above_32, m_below_33, m_old_34, m_now_35, m_work_36, m_isWrong_37, m_out_38, m_digits_39, fp_40⟩ := u
  have hP : va_P g.1 vwCl [oc_o q_1 0 [.ref tp_2, .ref wt_3, .ref ck_4, .ref sy_5, .ref sv_6, .ref rw_7, .ref lt_8], oc_o tp_2 8 [.ref tb_9, .int (nI 0)], oc_i g tb_9 1200 (fun _ => 0), oc_o wt_3 10 [.ref tp_2, .ref o_10, .ref x_11, .ref n_12, .ref d_13, .ref e_14, .int (nI 900), .int (nI 0)], oc_o o_10 3 [.ref b_15, .int (nI 0)], oc_o x_11 9 [.ref o_10, v_18, .int (-1)], oc_i g d_13 1201 (fun _ => 0), oc_i g e_14 1201 (fun _ => 0), oc_o ck_4 2 [.ref fc_16], oc_i g fc_16 513 (fun _ => 0), oc_o sy_5 7 [.ref p_17, .int (nI 0), .int (nI 0)], oc_i g p_17 1108 (fun _ => 0), oc_i g rw_7 928 (fun _ => 0), oc_i g lt_8 4 (fun _ => 0), oc_o q_20 11 [.int (nI 0), .ref m_tape_21, .int (nI 0), .ref m_words_22, .int (nI 0), .int (nI 0), .int (nI 0), .ref m_mixed_23, .ref m_signs_24, .int (nI 0), .int (nI 0), .ref m_places_25, .int (nI 0), .int (nI 0), .int (nI 0), .int (nI 0), .ref m_row_26, .ref m_lost_27, .ref m_powers_28, .ref m_sums_29, .ref m_counted_30, .ref m_gone_31, .ref m_above_32, .ref m_below_33, .ref m_old_34, .ref m_now_35, .ref m_work_36, .ref m_isWrong_37, .ref m_out_38, .int (nI 0), .ref m_digits_39, .int (nI 0)], oc_i g m_tape_21 1220 (fun _ => 0), oc_i g m_places_25 2900 (fun _ => 0), oc_i g m_row_26 928 (fun _ => 0), oc_i g m_powers_28 929 fp_40, oc_i g m_gone_31 1860 (fun _ => 0), oc_i g m_work_36 1860 (fun _ => 0)] H := hP
  have hD : va_D A [oc_o q_1 0 [.ref tp_2, .ref wt_3, .ref ck_4, .ref sy_5, .ref sv_6, .ref rw_7, .ref lt_8], oc_o tp_2 8 [.ref tb_9, .int (nI 0)], oc_i g tb_9 1200 (fun _ => 0), oc_o wt_3 10 [.ref tp_2, .ref o_10, .ref x_11, .ref n_12, .ref d_13, .ref e_14, .int (nI 900), .int (nI 0)], oc_o o_10 3 [.ref b_15, .int (nI 0)], oc_o x_11 9 [.ref o_10, v_18, .int (-1)], oc_i g d_13 1201 (fun _ => 0), oc_i g e_14 1201 (fun _ => 0), oc_o ck_4 2 [.ref fc_16], oc_i g fc_16 513 (fun _ => 0), oc_o sy_5 7 [.ref p_17, .int (nI 0), .int (nI 0)], oc_i g p_17 1108 (fun _ => 0), oc_i g rw_7 928 (fun _ => 0), oc_i g lt_8 4 (fun _ => 0), oc_o q_20 11 [.int (nI 0), .ref m_tape_21, .int (nI 0), .ref m_words_22, .int (nI 0), .int (nI 0), .int (nI 0), .ref m_mixed_23, .ref m_signs_24, .int (nI 0), .int (nI 0), .ref m_places_25, .int (nI 0), .int (nI 0), .int (nI 0), .int (nI 0), .ref m_row_26, .ref m_lost_27, .ref m_powers_28, .ref m_sums_29, .ref m_counted_30, .ref m_gone_31, .ref m_above_32, .ref m_below_33, .ref m_old_34, .ref m_now_35, .ref m_work_36, .ref m_isWrong_37, .ref m_out_38, .int (nI 0), .ref m_digits_39, .int (nI 0)], oc_i g m_tape_21 1220 (fun _ => 0), oc_i g m_places_25 2900 (fun _ => 0), oc_i g m_row_26 928 (fun _ => 0), oc_i g m_powers_28 929 fp_40, oc_i g m_gone_31 1860 (fun _ => 0), oc_i g m_work_36 1860 (fun _ => 0)] := hD
  refine lv_astore_n (lv' := [(2, .ref q_20), (1, .ref q_1), (0, .ref b)]) hx hb dd_LW_law_15 rfl hl (by decide) rfl (fun ls hl => ?_)
  refine lv_iconst (v := nI 1) hx hb dd_LW_law_16 (by decide) ?_
  refine xa_newL (k1 := 52) (k2 := 39816) hx hb (hts _ wa_long) hK hP hD hS hA (by decide) rfl rfl (Nat.le_of_ble_eq_true rfl) (Nat.le_of_ble_eq_true rfl) dd_LW_law_17 (fun q_42 H hP hD hS => ?_)
  have hP : va_P g.1 vwCl [oc_o q_1 0 [.ref tp_2, .ref wt_3, .ref ck_4, .ref sy_5, .ref sv_6, .ref rw_7, .ref lt_8], oc_o tp_2 8 [.ref tb_9, .int (nI 0)], oc_i g tb_9 1200 (fun _ => 0), oc_o wt_3 10 [.ref tp_2, .ref o_10, .ref x_11, .ref n_12, .ref d_13, .ref e_14, .int (nI 900), .int (nI 0)], oc_o o_10 3 [.ref b_15, .int (nI 0)], oc_o x_11 9 [.ref o_10, v_18, .int (-1)], oc_i g d_13 1201 (fun _ => 0), oc_i g e_14 1201 (fun _ => 0), oc_o ck_4 2 [.ref fc_16], oc_i g fc_16 513 (fun _ => 0), oc_o sy_5 7 [.ref p_17, .int (nI 0), .int (nI 0)], oc_i g p_17 1108 (fun _ => 0), oc_i g rw_7 928 (fun _ => 0), oc_i g lt_8 4 (fun _ => 0), oc_o q_20 11 [.int (nI 0), .ref m_tape_21, .int (nI 0), .ref m_words_22, .int (nI 0), .int (nI 0), .int (nI 0), .ref m_mixed_23, .ref m_signs_24, .int (nI 0), .int (nI 0), .ref m_places_25, .int (nI 0), .int (nI 0), .int (nI 0), .int (nI 0), .ref m_row_26, .ref m_lost_27, .ref m_powers_28, .ref m_sums_29, .ref m_counted_30, .ref m_gone_31, .ref m_above_32, .ref m_below_33, .ref m_old_34, .ref m_now_35, .ref m_work_36, .ref m_isWrong_37, .ref m_out_38, .int (nI 0), .ref m_digits_39, .int (nI 0)], oc_i g m_tape_21 1220 (fun _ => 0), oc_i g m_places_25 2900 (fun _ => 0), oc_i g m_row_26 928 (fun _ => 0), oc_i g m_powers_28 929 fp_40, oc_i g m_gone_31 1860 (fun _ => 0), oc_i g m_work_36 1860 (fun _ => 0), oc_l g q_42 1 (fun _ => 0)] H := hP
  have hD : va_D A [oc_o q_1 0 [.ref tp_2, .ref wt_3, .ref ck_4, .ref sy_5, .ref sv_6, .ref rw_7, .ref lt_8], oc_o tp_2 8 [.ref tb_9, .int (nI 0)], oc_i g tb_9 1200 (fun _ => 0), oc_o wt_3 10 [.ref tp_2, .ref o_10, .ref x_11, .ref n_12, .ref d_13, .ref e_14, .int (nI 900), .int (nI 0)], oc_o o_10 3 [.ref b_15, .int (nI 0)], oc_o x_11 9 [.ref o_10, v_18, .int (-1)], oc_i g d_13 1201 (fun _ => 0), oc_i g e_14 1201 (fun _ => 0), oc_o ck_4 2 [.ref fc_16], oc_i g fc_16 513 (fun _ => 0), oc_o sy_5 7 [.ref p_17, .int (nI 0), .int (nI 0)], oc_i g p_17 1108 (fun _ => 0), oc_i g rw_7 928 (fun _ => 0), oc_i g lt_8 4 (fun _ => 0), oc_o q_20 11 [.int (nI 0), .ref m_tape_21, .int (nI 0), .ref m_words_22, .int (nI 0), .int (nI 0), .int (nI 0), .ref m_mixed_23, .ref m_signs_24, .int (nI 0), .int (nI 0), .ref m_places_25, .int (nI 0), .int (nI 0), .int (nI 0), .int (nI 0), .ref m_row_26, .ref m_lost_27, .ref m_powers_28, .ref m_sums_29, .ref m_counted_30, .ref m_gone_31, .ref m_above_32, .ref m_below_33, .ref m_old_34, .ref m_now_35, .ref m_work_36, .ref m_isWrong_37, .ref m_out_38, .int (nI 0), .ref m_digits_39, .int (nI 0)], oc_i g m_tape_21 1220 (fun _ => 0), oc_i g m_places_25 2900 (fun _ => 0), oc_i g m_row_26 928 (fun _ => 0), oc_i g m_powers_28 929 fp_40, oc_i g m_gone_31 1860 (fun _ => 0), oc_i g m_work_36 1860 (fun _ => 0), oc_l g q_42 1 (fun _ => 0)] := hD
  refine lv_astore_n (lv' := [(3, .ref q_42), (2, .ref q_20), (1, .ref q_1), (0, .ref b)]) hx hb dd_LW_law_19 rfl hl (by decide) rfl (fun ls hl => ?_)
  refine lv_iconst (v := nI 0) hx hb dd_LW_law_20 (by decide) ?_
  refine lv_istore (lv' := [(4, .int (nI 0)), (3, .ref q_42), (2, .ref q_20), (1, .ref q_1), (0, .ref b)]) hx hb dd_LW_law_21 hl (by decide) rfl (fun ls hl => ?_)
  refine lv_iload hx hb dd_LW_law_23 (lv_at hl 0 rfl) ?_
  refine lv_aload_n hx hb dd_LW_law_25 rfl (lv_at hl 4 rfl) ?_
  refine va_slen hx hb hX hbl hbA hS dd_LW_law_26 ?_
  refine xi_eq (v := nI 6) (by rw [hL]; decide) ?_
  refine lv_bipush (v := nI 6) hx hb dd_LW_law_27 (by decide) ?_
  refine xi_isub hx hb (by omega) dd_LW_law_29 ?_
  refine lv_icmp_gt (tgt := 775) hx hb dd_LW_law_30 rfl (fun h_43 => absurd h_43 (by decide)) (fun _ => ?_)
  refine lv_aload_n hx hb dd_LW_law_33 rfl (lv_at hl 4 rfl) ?_
  refine lv_iload hx hb dd_LW_law_34 (lv_at hl 0 rfl) ?_
  refine xa_scr hx hb hX hbl hbA hS (j := 0) (by omega) (by omega) dd_LW_law_36 ?_
  refine lv_bipush (v := nI 15) hx hb dd_LW_law_37 (by decide) ?_
  refine lv_iand hx hb dd_LW_law_39 ?_
  obtain ⟨j, hj, ej⟩ := pk_andE (xs 0) (m := nI 15) 4 (by decide)
  refine xi_eq ej ?_
  have hl : lv_has ls 7 [(4, .int (nI 0)), (3, .ref q_42), (2, .ref q_20), (1, .ref q_1), (0, .ref b)] := lv_sub hl [0, 1, 2, 3, 4] rfl
  rcases (show j = 0 ∨ j = 1 ∨ j = 2 ∨ j = 3 ∨ j = 4 ∨ j = 5 ∨ j = 6 ∨ j = 7 ∨ j = 8 ∨ j = 9 ∨ j = 10 ∨ j = 11 ∨ j = 12 ∨ j = 13 ∨ j = 14 ∨ j = 15 by omega) with rfl | rfl | rfl | rfl | rfl | rfl | rfl | rfl | rfl | rfl | rfl | rfl | rfl | rfl | rfl | rfl
  · refine lv_tableIn (tgt := 104) hx hb dd_LW_law_40 (by decide) (by decide) rfl rfl ?_
    exact lc_feed l htr g q_1 tp_2 wt_3 ck_4 sy_5 sv_6 rw_7 lt_8 tb_9 o_10 x_11 n_12 d_13 e_14 b_15 fc_16 p_17 v_18 q_20 m_tape_21 m_words_22 m_mixed_23 m_signs_24 m_places_25 m_row_26 m_lost_27 m_powers_28 m_sums_29 m_counted_30 m_gone_31 m_above_32 m_below_33 m_old_34 m_now_35 m_work_36 m_isWrong_37 m_out_38 m_digits_39 fp_40 q_42 hB hL hP hD hS hl
  · refine lv_tableIn (tgt := 208) hx hb dd_LW_law_40 (by decide) (by decide) rfl rfl ?_
    rcases xq_z (xs 1) with q1 | qx
    · exact lc_end0 l htr g q_1 tp_2 wt_3 ck_4 sy_5 sv_6 rw_7 lt_8 tb_9 o_10 x_11 n_12 d_13 e_14 b_15 fc_16 p_17 v_18 q_20 m_tape_21 m_words_22 m_mixed_23 m_signs_24 m_places_25 m_row_26 m_lost_27 m_powers_28 m_sums_29 m_counted_30 m_gone_31 m_above_32 m_below_33 m_old_34 m_now_35 m_work_36 m_isWrong_37 m_out_38 m_digits_39 fp_40 q_42 q1 hB hL hP hD hS hl
    · exact lc_endT l htr g q_1 tp_2 wt_3 ck_4 sy_5 sv_6 rw_7 lt_8 tb_9 o_10 x_11 n_12 d_13 e_14 b_15 fc_16 p_17 v_18 q_20 m_tape_21 m_words_22 m_mixed_23 m_signs_24 m_places_25 m_row_26 m_lost_27 m_powers_28 m_sums_29 m_counted_30 m_gone_31 m_above_32 m_below_33 m_old_34 m_now_35 m_work_36 m_isWrong_37 m_out_38 m_digits_39 fp_40 q_42 qx hB hL hP hD hS hl
  · refine lv_tableIn (tgt := 244) hx hb dd_LW_law_40 (by decide) (by decide) rfl rfl ?_
    exact lc_byteT l htr g q_1 tp_2 wt_3 ck_4 sy_5 sv_6 rw_7 lt_8 tb_9 o_10 x_11 n_12 d_13 e_14 b_15 fc_16 p_17 v_18 q_20 m_tape_21 m_words_22 m_mixed_23 m_signs_24 m_places_25 m_row_26 m_lost_27 m_powers_28 m_sums_29 m_counted_30 m_gone_31 m_above_32 m_below_33 m_old_34 m_now_35 m_work_36 m_isWrong_37 m_out_38 m_digits_39 fp_40 q_42 hB hL hP hD hS hl
  · refine lv_tableIn (tgt := 300) hx hb dd_LW_law_40 (by decide) (by decide) rfl rfl ?_
    exact lc_words l htr g q_1 tp_2 wt_3 ck_4 sy_5 sv_6 rw_7 lt_8 tb_9 o_10 x_11 n_12 d_13 e_14 b_15 fc_16 p_17 v_18 q_20 m_tape_21 m_words_22 m_mixed_23 m_signs_24 m_places_25 m_row_26 m_lost_27 m_powers_28 m_sums_29 m_counted_30 m_gone_31 m_above_32 m_below_33 m_old_34 m_now_35 m_work_36 m_isWrong_37 m_out_38 m_digits_39 fp_40 q_42 hB hL hP hD hS hl
  · refine lv_tableIn (tgt := 313) hx hb dd_LW_law_40 (by decide) (by decide) rfl rfl ?_
    exact lc_wordT l htr g q_1 tp_2 wt_3 ck_4 sy_5 sv_6 rw_7 lt_8 tb_9 o_10 x_11 n_12 d_13 e_14 b_15 fc_16 p_17 v_18 q_20 m_tape_21 m_words_22 m_mixed_23 m_signs_24 m_places_25 m_row_26 m_lost_27 m_powers_28 m_sums_29 m_counted_30 m_gone_31 m_above_32 m_below_33 m_old_34 m_now_35 m_work_36 m_isWrong_37 m_out_38 m_digits_39 fp_40 q_42 hB hL hP hD hS hl
  · refine lv_tableIn (tgt := 369) hx hb dd_LW_law_40 (by decide) (by decide) rfl rfl ?_
    rcases xq_rg (xs 1) 0 8 with ⟨LL, q1, -, qL⟩ | qx
    · rcases xq_rg (xs 2) 1 30 with ⟨cc, q2, qc, qc2⟩ | qy
      · obtain ⟨K, qK⟩ : ∃ K, K = 2 ^ (LL + 1) := ⟨_, rfl⟩
        have qK2 := xr_K qL qK
        obtain ⟨rr, qr⟩ : ∃ rr, rr = xr_hh (1 + K) cc := ⟨_, rfl⟩
        have q3 : 3 ≤ rr := by rw [qr]; unfold xr_hh; omega
        by_cases qu : 90 < rr ∨ 928 < rr * cc
        · exact lc_makeU l htr g q_1 tp_2 wt_3 ck_4 sy_5 sv_6 rw_7 lt_8 tb_9 o_10 x_11 n_12 d_13 e_14 b_15 fc_16 p_17 v_18 q_20 m_tape_21 m_words_22 m_mixed_23 m_signs_24 m_places_25 m_row_26 m_lost_27 m_powers_28 m_sums_29 m_counted_30 m_gone_31 m_above_32 m_below_33 m_old_34 m_now_35 m_work_36 m_isWrong_37 m_out_38 m_digits_39 fp_40 q_42 LL cc K rr q1 q2 qL qK qK2 qc qc2 qr qu (xr_w qc qK2.2 qr) hB hL hP hD hS hl
        · exact lc_make l htr g q_1 tp_2 wt_3 ck_4 sy_5 sv_6 rw_7 lt_8 tb_9 o_10 x_11 n_12 d_13 e_14 b_15 fc_16 p_17 v_18 q_20 m_tape_21 m_words_22 m_mixed_23 m_signs_24 m_places_25 m_row_26 m_lost_27 m_powers_28 m_sums_29 m_counted_30 m_gone_31 m_above_32 m_below_33 m_old_34 m_now_35 m_work_36 m_isWrong_37 m_out_38 m_digits_39 fp_40 q_42 LL cc K rr q1 q2 qL qK qK2 qc qc2 qr ⟨q3, by omega⟩ (by omega) (xr_n2 qc qr) hB hL hP hD hS hl
      · exact lc_makeA l htr g q_1 tp_2 wt_3 ck_4 sy_5 sv_6 rw_7 lt_8 tb_9 o_10 x_11 n_12 d_13 e_14 b_15 fc_16 p_17 v_18 q_20 m_tape_21 m_words_22 m_mixed_23 m_signs_24 m_places_25 m_row_26 m_lost_27 m_powers_28 m_sums_29 m_counted_30 m_gone_31 m_above_32 m_below_33 m_old_34 m_now_35 m_work_36 m_isWrong_37 m_out_38 m_digits_39 fp_40 q_42 (by omega) hB hL hP hD hS hl
    · exact lc_makeA l htr g q_1 tp_2 wt_3 ck_4 sy_5 sv_6 rw_7 lt_8 tb_9 o_10 x_11 n_12 d_13 e_14 b_15 fc_16 p_17 v_18 q_20 m_tape_21 m_words_22 m_mixed_23 m_signs_24 m_places_25 m_row_26 m_lost_27 m_powers_28 m_sums_29 m_counted_30 m_gone_31 m_above_32 m_below_33 m_old_34 m_now_35 m_work_36 m_isWrong_37 m_out_38 m_digits_39 fp_40 q_42 (by omega) hB hL hP hD hS hl
  · refine lv_tableIn (tgt := 437) hx hb dd_LW_law_40 (by decide) (by decide) rfl rfl ?_
    rcases xq_rg (xs 1) 3 90 with ⟨rr, q1, qr, qr2⟩ | qx
    · rcases xq_rg (xs 2) 1 30 with ⟨cc, q2, qc, qc2⟩ | qy
      · have qm : rr * cc ≤ 90 * 30 := Nat.mul_le_mul qr2 qc2
        by_cases qn : rr * cc ≤ 928
        · exact lc_blank l htr g q_1 tp_2 wt_3 ck_4 sy_5 sv_6 rw_7 lt_8 tb_9 o_10 x_11 n_12 d_13 e_14 b_15 fc_16 p_17 v_18 q_20 m_tape_21 m_words_22 m_mixed_23 m_signs_24 m_places_25 m_row_26 m_lost_27 m_powers_28 m_sums_29 m_counted_30 m_gone_31 m_above_32 m_below_33 m_old_34 m_now_35 m_work_36 m_isWrong_37 m_out_38 m_digits_39 fp_40 q_42 rr cc q1 q2 qr qr2 qc qc2 qn hB hL hP hD hS hl
        · exact lc_blankB l htr g q_1 tp_2 wt_3 ck_4 sy_5 sv_6 rw_7 lt_8 tb_9 o_10 x_11 n_12 d_13 e_14 b_15 fc_16 p_17 v_18 q_20 m_tape_21 m_words_22 m_mixed_23 m_signs_24 m_places_25 m_row_26 m_lost_27 m_powers_28 m_sums_29 m_counted_30 m_gone_31 m_above_32 m_below_33 m_old_34 m_now_35 m_work_36 m_isWrong_37 m_out_38 m_digits_39 fp_40 q_42 rr cc q1 q2 qr qr2 qc qc2 (by omega) (by omega) hB hL hP hD hS hl
      · exact lc_blankA l htr g q_1 tp_2 wt_3 ck_4 sy_5 sv_6 rw_7 lt_8 tb_9 o_10 x_11 n_12 d_13 e_14 b_15 fc_16 p_17 v_18 q_20 m_tape_21 m_words_22 m_mixed_23 m_signs_24 m_places_25 m_row_26 m_lost_27 m_powers_28 m_sums_29 m_counted_30 m_gone_31 m_above_32 m_below_33 m_old_34 m_now_35 m_work_36 m_isWrong_37 m_out_38 m_digits_39 fp_40 q_42 (by omega) hB hL hP hD hS hl
    · exact lc_blankA l htr g q_1 tp_2 wt_3 ck_4 sy_5 sv_6 rw_7 lt_8 tb_9 o_10 x_11 n_12 d_13 e_14 b_15 fc_16 p_17 v_18 q_20 m_tape_21 m_words_22 m_mixed_23 m_signs_24 m_places_25 m_row_26 m_lost_27 m_powers_28 m_sums_29 m_counted_30 m_gone_31 m_above_32 m_below_33 m_old_34 m_now_35 m_work_36 m_isWrong_37 m_out_38 m_digits_39 fp_40 q_42 (by omega) hB hL hP hD hS hl
  · refine lv_tableIn (tgt := 485) hx hb dd_LW_law_40 (by decide) (by decide) rfl rfl ?_
    exact lc_placeT l htr g q_1 tp_2 wt_3 ck_4 sy_5 sv_6 rw_7 lt_8 tb_9 o_10 x_11 n_12 d_13 e_14 b_15 fc_16 p_17 v_18 q_20 m_tape_21 m_words_22 m_mixed_23 m_signs_24 m_places_25 m_row_26 m_lost_27 m_powers_28 m_sums_29 m_counted_30 m_gone_31 m_above_32 m_below_33 m_old_34 m_now_35 m_work_36 m_isWrong_37 m_out_38 m_digits_39 fp_40 q_42 hB hL hP hD hS hl
  · refine lv_tableIn (tgt := 553) hx hb dd_LW_law_40 (by decide) (by decide) rfl rfl ?_
    exact lc_putT l htr g q_1 tp_2 wt_3 ck_4 sy_5 sv_6 rw_7 lt_8 tb_9 o_10 x_11 n_12 d_13 e_14 b_15 fc_16 p_17 v_18 q_20 m_tape_21 m_words_22 m_mixed_23 m_signs_24 m_places_25 m_row_26 m_lost_27 m_powers_28 m_sums_29 m_counted_30 m_gone_31 m_above_32 m_below_33 m_old_34 m_now_35 m_work_36 m_isWrong_37 m_out_38 m_digits_39 fp_40 q_42 hB hL hP hD hS hl
  · refine lv_tableIn (tgt := 613) hx hb dd_LW_law_40 (by decide) (by decide) rfl rfl ?_
    exact lc_solveT l htr g q_1 tp_2 wt_3 ck_4 sy_5 sv_6 rw_7 lt_8 tb_9 o_10 x_11 n_12 d_13 e_14 b_15 fc_16 p_17 v_18 q_20 m_tape_21 m_words_22 m_mixed_23 m_signs_24 m_places_25 m_row_26 m_lost_27 m_powers_28 m_sums_29 m_counted_30 m_gone_31 m_above_32 m_below_33 m_old_34 m_now_35 m_work_36 m_isWrong_37 m_out_38 m_digits_39 fp_40 q_42 hB hL hP hD hS hl
  · refine lv_tableIn (tgt := 657) hx hb dd_LW_law_40 (by decide) (by decide) rfl rfl ?_
    rcases xq_lt (xs 1) 4 with ⟨k, q1, qk⟩ | qx
    · exact lc_solved l htr g q_1 tp_2 wt_3 ck_4 sy_5 sv_6 rw_7 lt_8 tb_9 o_10 x_11 n_12 d_13 e_14 b_15 fc_16 p_17 v_18 q_20 m_tape_21 m_words_22 m_mixed_23 m_signs_24 m_places_25 m_row_26 m_lost_27 m_powers_28 m_sums_29 m_counted_30 m_gone_31 m_above_32 m_below_33 m_old_34 m_now_35 m_work_36 m_isWrong_37 m_out_38 m_digits_39 fp_40 q_42 k q1 qk hB hL hP hD hS hl
    · exact lc_solvedT l htr g q_1 tp_2 wt_3 ck_4 sy_5 sv_6 rw_7 lt_8 tb_9 o_10 x_11 n_12 d_13 e_14 b_15 fc_16 p_17 v_18 q_20 m_tape_21 m_words_22 m_mixed_23 m_signs_24 m_places_25 m_row_26 m_lost_27 m_powers_28 m_sums_29 m_counted_30 m_gone_31 m_above_32 m_below_33 m_old_34 m_now_35 m_work_36 m_isWrong_37 m_out_38 m_digits_39 fp_40 q_42 qx hB hL hP hD hS hl
  · refine lv_tableIn (tgt := 713) hx hb dd_LW_law_40 (by decide) (by decide) rfl rfl ?_
    rcases xq_lt (xs 1) 3 with ⟨k, q1, qk⟩ | qx
    · exact lc_count l htr g q_1 tp_2 wt_3 ck_4 sy_5 sv_6 rw_7 lt_8 tb_9 o_10 x_11 n_12 d_13 e_14 b_15 fc_16 p_17 v_18 q_20 m_tape_21 m_words_22 m_mixed_23 m_signs_24 m_places_25 m_row_26 m_lost_27 m_powers_28 m_sums_29 m_counted_30 m_gone_31 m_above_32 m_below_33 m_old_34 m_now_35 m_work_36 m_isWrong_37 m_out_38 m_digits_39 fp_40 q_42 k q1 qk hB hL hP hD hS hl
    · exact lc_countT l htr g q_1 tp_2 wt_3 ck_4 sy_5 sv_6 rw_7 lt_8 tb_9 o_10 x_11 n_12 d_13 e_14 b_15 fc_16 p_17 v_18 q_20 m_tape_21 m_words_22 m_mixed_23 m_signs_24 m_places_25 m_row_26 m_lost_27 m_powers_28 m_sums_29 m_counted_30 m_gone_31 m_above_32 m_below_33 m_old_34 m_now_35 m_work_36 m_isWrong_37 m_out_38 m_digits_39 fp_40 q_42 qx hB hL hP hD hS hl
  · refine lv_tableOut (tgt := 769) hx hb dd_LW_law_40 (Or.inr (by decide)) rfl ?_
    exact lc_none l htr g q_1 tp_2 wt_3 ck_4 sy_5 sv_6 rw_7 lt_8 tb_9 o_10 x_11 n_12 d_13 e_14 b_15 fc_16 p_17 v_18 q_20 m_tape_21 m_words_22 m_mixed_23 m_signs_24 m_places_25 m_row_26 m_lost_27 m_powers_28 m_sums_29 m_counted_30 m_gone_31 m_above_32 m_below_33 m_old_34 m_now_35 m_work_36 m_isWrong_37 m_out_38 m_digits_39 fp_40 q_42 hB hL hP hD hS hl
  · refine lv_tableOut (tgt := 769) hx hb dd_LW_law_40 (Or.inr (by decide)) rfl ?_
    exact lc_none l htr g q_1 tp_2 wt_3 ck_4 sy_5 sv_6 rw_7 lt_8 tb_9 o_10 x_11 n_12 d_13 e_14 b_15 fc_16 p_17 v_18 q_20 m_tape_21 m_words_22 m_mixed_23 m_signs_24 m_places_25 m_row_26 m_lost_27 m_powers_28 m_sums_29 m_counted_30 m_gone_31 m_above_32 m_below_33 m_old_34 m_now_35 m_work_36 m_isWrong_37 m_out_38 m_digits_39 fp_40 q_42 hB hL hP hD hS hl
  · refine lv_tableOut (tgt := 769) hx hb dd_LW_law_40 (Or.inr (by decide)) rfl ?_
    exact lc_none l htr g q_1 tp_2 wt_3 ck_4 sy_5 sv_6 rw_7 lt_8 tb_9 o_10 x_11 n_12 d_13 e_14 b_15 fc_16 p_17 v_18 q_20 m_tape_21 m_words_22 m_mixed_23 m_signs_24 m_places_25 m_row_26 m_lost_27 m_powers_28 m_sums_29 m_counted_30 m_gone_31 m_above_32 m_below_33 m_old_34 m_now_35 m_work_36 m_isWrong_37 m_out_38 m_digits_39 fp_40 q_42 hB hL hP hD hS hl
  · refine lv_tableOut (tgt := 769) hx hb dd_LW_law_40 (Or.inr (by decide)) rfl ?_
    exact lc_none l htr g q_1 tp_2 wt_3 ck_4 sy_5 sv_6 rw_7 lt_8 tb_9 o_10 x_11 n_12 d_13 e_14 b_15 fc_16 p_17 v_18 q_20 m_tape_21 m_words_22 m_mixed_23 m_signs_24 m_places_25 m_row_26 m_lost_27 m_powers_28 m_sums_29 m_counted_30 m_gone_31 m_above_32 m_below_33 m_old_34 m_now_35 m_work_36 m_isWrong_37 m_out_38 m_digits_39 fp_40 q_42 hB hL hP hD hS hl

theorem xl_arr {s : State} {args : Array Value} {ty : FieldType} (h1 : ∀ C, ty ≠ .object C) (h : (Cond.arrayClass ty).before args s = true) : ∃ cA : ClassId, ArrOfT s cA ty ∧ va_RA s cA ty := by
  obtain ⟨cA, kA, comp, e1, e2, e3⟩ := Cond.arrayClass_spec h
  refine ⟨cA, fun n z => ⟨fun k h => (by cases h), kA, e2, comp, e3⟩, ?_⟩
  cases ty <;> first | exact e1 | exact absurd rfl (h1 _)
theorem xl_known {s : State} {args : Array Value} (hts : ∀ w ∈ xt_T, w.before args s = true) : ∃ g : xg_G, va_K g.1 vwCl (xg_t g) s := by
  obtain ⟨cI, i1, i2⟩ := xl_arr (ty := .int) (fun _ h => by cases h) (hts _ wa_int)
  obtain ⟨cL, l1, l2⟩ := xl_arr (ty := .long) (fun _ h => by cases h) (hts _ wa_long)
  obtain ⟨cZ, z1, z2⟩ := xl_arr (ty := .boolean) (fun _ h => by cases h) (hts _ wa_boolean)
  have key : ∀ k : Nat, ∃ q : ClassId × (Nat → Nat), ∀ r : vw_C, vwCl[k]? = some r → u_Kn s r.1 r.2.1 r.2.2 q.1 q.2 := by
    intro k
    by_cases hk : k < 12
    · rcases (show k = 0 ∨ k = 1 ∨ k = 2 ∨ k = 3 ∨ k = 4 ∨ k = 5 ∨ k = 6 ∨ k = 7 ∨ k = 8 ∨ k = 9 ∨ k = 10 ∨ k = 11 by omega) with rfl | rfl | rfl | rfl | rfl | rfl | rfl | rfl | rfl | rfl | rfl | rfl
      · obtain ⟨cC, iS, h⟩ := u_known (C := "StackedRows") (T := tk_T0) (N := 7) (n := 7) hts fi_SR (hts _ wk_SR)
        exact ⟨(cC, iS), fun r hr => by cases hr; exact h⟩
      · obtain ⟨cC, iS, h⟩ := u_known (C := "StackedRows$BigNumber") (T := tk_T1) (N := 2) (n := 2) hts fi_BN (hts _ wk_BN)
        exact ⟨(cC, iS), fun r hr => by cases hr; exact h⟩
      · obtain ⟨cC, iS, h⟩ := u_known (C := "StackedRows$Checks") (T := tk_T2) (N := 1) (n := 1) hts fi_CK (hts _ wk_CK)
        exact ⟨(cC, iS), fun r hr => by cases hr; exact h⟩
      · obtain ⟨cC, iS, h⟩ := u_known (C := "StackedRows$Codewords") (T := tk_T3) (N := 2) (n := 2) hts fi_CW (hts _ wk_CW)
        exact ⟨(cC, iS), fun r hr => by cases hr; exact h⟩
      · obtain ⟨cC, iS, h⟩ := u_known (C := "StackedRows$Mender") (T := tk_T4) (N := 9) (n := 9) hts fi_MD (hts _ wk_MD)
        exact ⟨(cC, iS), fun r hr => by cases hr; exact h⟩
      · obtain ⟨cC, iS, h⟩ := u_known (C := "StackedRows$Reader") (T := tk_T5) (N := 8) (n := 8) hts fi_RD (hts _ wk_RD)
        exact ⟨(cC, iS), fun r hr => by cases hr; exact h⟩
      · obtain ⟨cC, iS, h⟩ := u_known (C := "StackedRows$Solver") (T := tk_T6) (N := 9) (n := 9) hts fi_SV (hts _ wk_SV)
        exact ⟨(cC, iS), fun r hr => by cases hr; exact h⟩
      · obtain ⟨cC, iS, h⟩ := u_known (C := "StackedRows$Symbol") (T := tk_T7) (N := 3) (n := 3) hts fi_SY (hts _ wk_SY)
        exact ⟨(cC, iS), fun r hr => by cases hr; exact h⟩
      · obtain ⟨cC, iS, h⟩ := u_known (C := "StackedRows$Tape") (T := tk_T8) (N := 2) (n := 2) hts fi_TP (hts _ wk_TP)
        exact ⟨(cC, iS), fun r hr => by cases hr; exact h⟩
      · obtain ⟨cC, iS, h⟩ := u_known (C := "StackedRows$TextWriter") (T := tk_T9) (N := 3) (n := 3) hts fi_TW (hts _ wk_TW)
        exact ⟨(cC, iS), fun r hr => by cases hr; exact h⟩
      · obtain ⟨cC, iS, h⟩ := u_known (C := "StackedRows$Writer") (T := tk_T10) (N := 8) (n := 8) hts fi_WR (hts _ wk_WR)
        exact ⟨(cC, iS), fun r hr => by cases hr; exact h⟩
      · obtain ⟨cC, iS, h⟩ := u_known (C := "StackedRowsModel") (T := tk_T11) (N := 32) (n := 32) hts fi_MO (hts _ wk_MO)
        exact ⟨(cC, iS), fun r hr => by cases hr; exact h⟩
    · exact ⟨(0, fun _ => 0), fun r hr => absurd (List.getElem?_eq_some_iff.mp hr).1 (by simpa using hk)⟩
  obtain ⟨D, hD⟩ := Classical.axiomOfChoice key
  refine ⟨((fun k => (D k).1, fun k => (D k).2), cI, cL, cZ), fun k r hr => hD k r hr, fun k r hr => ?_⟩
  have h3 := (List.getElem?_eq_some_iff.mp hr).1
  rcases (show k = 0 ∨ k = 1 ∨ k = 2 by simp at h3; omega) with rfl | rfl | rfl <;> cases hr
  · exact ⟨i1, i2⟩
  · exact ⟨l1, l2⟩
  · exact ⟨z1, z2⟩

set_option maxHeartbeats 4000000 in
set_option maxRecDepth 100000 in
/-- from the entry, for every script of at most 6 ints, the law comes to its end with true -/
theorem whole_start {p : Program} {e : Env} {s : State} {m : MethodId} {below : List Frame} {meth : Method} {c : Code} (l : Launch) (htr : l.stackTraces = false) {b L : Nat} {xs : Nat → Int32} (hL : L ≤ 6) (C0 : lw_At p s m meth c b L xs) : W p l e room_1 s m #[Value.ref b] below meth c s.heap [] 0 0 (lw_Z below #[Value.ref b] s) (entryFrame m ([Value.ref b] : List Value).toArray 7) := by
  obtain ⟨hx, hb, hr, hml, hown, hts0, hX, hbl, hlk, hgv⟩ := C0
  have hts := xt_all hts0
  have hfl := flat_of_before _ hgv
  obtain ⟨g, hK⟩ := xl_known hts
  have hA0 : ∀ a : Nat, a < s.heap.size → ¬ (fun q : Nat => s.heap.size ≤ q) a := fun a h h2 => absurd h (Nat.not_lt.mpr h2)
  have hE : xe_E (fun q => s.heap.size ≤ q) s s.heap := by
    refine ⟨va_Zqof (hts0 _ ws_un) (hts _ wn_TH) (hfl _ (by decide +kernel)) hA0, va_Zqof (hts0 _ ws_su) (hts _ wn_TH) (hfl _ (by decide +kernel)) hA0, ?_, va_Nw.of rfl (hts0 _ ws_ng), va_Nc.of (args := #[Value.ref b]) (hfl _ (by decide +kernel)), xs_L.of (hts0 _ ws_un) hA0, xs_L.of (hts0 _ ws_su) hA0, ?_, ?_⟩
    rotate_left
    · intro x hx9
      simp only [xe_ds, List.mem_cons, List.not_mem_nil, or_false] at hx9
      rcases hx9 with rfl | rfl | rfl
      · exact va_Nw.of rfl (hts0 _ ws_d0)
      · exact va_Nw.of rfl (hts0 _ ws_d1)
      · exact va_Nw.of rfl (hts0 _ ws_d2)
    · intro C hC9
      simp only [xe_cs, List.mem_cons, List.not_mem_nil, or_false] at hC9
      rcases hC9 with rfl | rfl | rfl | rfl
      · exact xs_C.of (hts0 _ ws_c0)
      · exact xs_C.of (hts0 _ ws_c1)
      · exact xs_C.of (hts0 _ ws_c2)
      · exact xs_C.of (hts0 _ ws_c3)
    have hex : (Cond.exactly (.static "StackedRows$Letters" "CAPITALS" "LStackedRows$Letters;") "StackedRows$Letters").before #[Value.ref b] s = true := hfl _ (by decide +kernel)
    obtain ⟨a, c9, cell, k, q1, -⟩ := Cond.exactly_spec hex
    exact Or.inr ⟨a, va_Zref (hts0 _ ws_ca) (hts _ wn_LE) q1 hA0⟩
  have hB : xl_B g p s m meth c b L xs (fun q => s.heap.size ≤ q) := ⟨hx, hb, hr, hlk, hml, hown, hts, hX, hbl, Nat.not_le.mpr hbl, fun _ h => h, fun _ h => h, hK, hE⟩
  have hl := lv_entry ([.ref b]) (n := 7) (Nat.le_of_ble_eq_true rfl)
  rw [lg_entry_eq]
  have hl : lv_has ((lg_sl [Value.ref b] ++ List.replicate (7 - (lg_sl [Value.ref b]).length) Slot.unset).toArray) 7 [(0, .ref b)] := hl
  have hP : va_P g.1 vwCl [] s.heap := fun k q h => by cases h
  have hD : va_D (fun q => s.heap.size ≤ q) [] := ⟨fun i j p q h => (by cases h), fun k q h => (by cases h)⟩
  rcases (show L = 6 ∨ L < 6 by omega) with h6 | h6
  · exact lc_long l htr g hB h6 hP hD va_S.rf hl
  · exact lc_short l htr g hB h6 hP hD va_S.rf hl
-- ===== YOUR PART ENDS =====
set_option maxHeartbeats 4000000 in
theorem lw_walk (l : Launch) (htr : l.stackTraces = false) (b : Addr) (xs : List Int32) : MetFree l x (headSpec (Jvm.Cond.code x code maxLocals ret :: tables_1) room_1) (lw_P b xs) (fun _ _ _ _ _ => True) lw_Q := by
  refine MetFree.of_bodyS (code := code) (maxLocals := maxLocals) (ret := ret) (by decide) ?_ ?_
  · intro args s m h hn
    obtain ⟨meth, c, h1, h2, h3, h4, h5, h6, -, -⟩ := Cond.code_spec hn (atoms_spec (ws := Jvm.Cond.code x code maxLocals ret :: tables_1) h _ List.mem_cons_self)
    exact ⟨meth, c, h1, h2, h3, h4, h5, h6⟩
  · intro p e s m args below meth c s₁ B hml0 hP _
    obtain ⟨rfl, hx, hbd, hgv⟩ := hP
    obtain ⟨scr, harrAt, hlist, hof, hsmall⟩ := hx
    obtain ⟨hcb, hkn, -, -⟩ := State.arrayAt?_spec harrAt
    have hown : s.vm.findClass R_law = some m.cls := findClass_of_methodNamed B.named
    have hts0 : ∀ c ∈ (Jvm.Cond.code x code maxLocals ret :: tables_1), c.before #[Value.ref b] s = true := atoms_spec (ws := Jvm.Cond.code x code maxLocals ret :: tables_1) B.pre
    have hts : ∀ w ∈ lw_tbl, w.before #[Value.ref b] s = true := k2_hts_sels lw_privs (fun w hw => hts0 w (List.mem_cons_of_mem _ hw)) lw_privs_ok
    have hml : c.maxLocals = 7 := B.maxLocals_eq (hts0 _ List.mem_cons_self)
    have X₀ : Stand p l e room_1 s m #[Value.ref b] below meth c s₁ [] 0 0 := Stand.of_body B
    have hh0 : s₁.heap = s.heap := by rw [B.state]; rfl
    have hsz : scr.slots.size = xs.length := by rw [← Array.length_toList, hlist, List.length_map]
    have hval : ∀ j : Nat, j < xs.length → scr.slots[j]? = some (.int (xs.getD j 0)) := fun j hj => by
      rw [← Array.getElem?_toList, hlist]
      simp [hj]
    have hbl : b < s.heap.size := (Array.getElem?_eq_some_iff.mp hcb).1
    have hX : va_X b xs.length (fun j => xs.getD j 0) s s.heap := ⟨scr, hcb, hof, hkn, hsz, hval⟩
    have K : W p l e room_1 s m #[Value.ref b] below meth c s₁.heap [] 0 0 (lw_Z below #[Value.ref b] s) (entryFrame m ([Value.ref b] : List Value).toArray 7) := by
      rw [hh0]
      exact whole_start l htr hbd ⟨B.exec, B.bytes, B.returns, hml, hown, hts, hX, hbl, B.notSynchronized, hgv⟩
    obtain ⟨t, a1, o, b1, b2, b3⟩ := K s₁ rfl X₀
    exact ⟨t, o, a1, b1, b2, b3⟩
theorem lw_pre_spec {args : Array Value} {s : State} (h : (Jvm.Cond.and given_1 narrow_1).before args s = true) (hr : rest_1_c.before args s = true) : ∃ (b : Addr) (xs : List Int32), lw_P b xs args s := by
  have hs := flat_of_before _ h
  have hq := flat_of_before _ hr
  have hc : (Cond.count 1).before args s = true := hs _ (by decide +kernel)
  have harr : (Cond.arrayOf (.arg 0) .int).before args s = true := hs _ (by decide +kernel)
  have hle : (Cond.le (.length (.arg 0)) (.int 6)).before args s = true := hs _ (by decide +kernel)
  have hlen : (Cond.isInt (.length (.arg 0))).before args s = true := hq _ (by decide +kernel)
  have hall : (Cond.all (.arg 0) (.isInt (.elem (.arg 0) (.index 0)))).before args s = true := hq _ (by decide +kernel)
  obtain ⟨b, xs, hb, hx⟩ := State.ints_of_pre rfl harr hlen hall
  have hsm : xs.length < 2 ^ 31 := hx.choose_spec.2.2.2
  have hev : (Term.length (.arg 0)).eval args s none [] s = some (.int xs.length.toInt32) := hx.length_eval hb
  have hv := Cond.le_ints hev (show (Term.int 6).eval args s none [] s = some (.int 6) from rfl)
  have hd : xs.length.toInt32 ≤ 6 := by
    simpa [Cond.before, Cond.holds, hv] using hle
  have hN : xs.length ≤ 6 := (Int32.ofNat_le_ofNat hsm (by decide)).mp (show Int32.ofNat xs.length ≤ Int32.ofNat 6 from hd)
  exact ⟨b, xs, Cond.one_arg hc (show args[0]? = some (.ref b) from hb), hx, hN, h⟩
theorem lw_comes (l : Launch) (htr : l.stackTraces = false) : Comes l x (Jvm.Cond.code x code maxLocals ret :: tables_1) room_1 (fun tb e args s => Calls_1 tb e args s ∧ rest_1 tb e args s ∧ Pre_1 tb e args s)
    (fun _ _ args s o t => lw_Q args s o t) := by
  intro p e ha hc hk s m args below hf hfit hheap happ hpre
  obtain ⟨b, xs, hP⟩ := lw_pre_spec hpre.2.2 hpre.2.1
  obtain ⟨k, o, h1, h2, h3, hQ⟩ := lw_walk l htr b xs p e ha hc hk s m args below hf ((Spec.applies_iff_loose hf).mp happ).1 hP trivial
  exact ⟨k, o, h1, h2, h3, hQ⟩
theorem lw_frame {s t : State} {o : Outcome} {args : Array Value} (h : Framed s o t [] 600002 7302232) :
    Framed s o t (fieldLocs frame_1_writes args s ++ arrayLocs frame_1_arrays args s ++ staticLocs frame_1_statics s) 600002 7302232 := h
theorem lw_limb (L : Cond) (hL : ∀ (args : Array Value) (s t : State), L.after args s (.returned (some (.int 1))) t = true) :
    ArmFor flags0 classFile x code maxLocals ret World_1 tables_1 room_1 Calls_1 rest_1 Pre_1
      (fun tb e a s o t => postC L tb e a s o t ∧ Framed s o t (fieldLocs frame_1_writes a s ++ arrayLocs frame_1_arrays a s ++ staticLocs frame_1_statics s) 600002 7302232) := by
  intro l hfl9 _ _ p e ha hc hk s m args below hf hfit hheap happ hpre
  have htr : l.stackTraces = false := by unfold Launch.stackTraces; rw [hfl9]; decide +kernel
  obtain ⟨k, o, h1, h2, h3, rfl, hF⟩ := lw_comes l htr p e ha hc hk s m args below hf hfit hheap happ hpre
  exact ⟨k, _, h1, h2, h3, hL args s _, lw_frame hF⟩
theorem i_vc : Claimed_1_1 ∧ Claimed_1_2 := ⟨lw_limb limb_1_1 (fun args s t => by simp [limb_1_1, Cond.after, Cond.holds, Cond.value]), lw_limb limb_1_2 (fun args s t => Cond.after_iff.mpr (by
  first | (rw [show limb_1_2 = Cond.eq .result (.int 1) from rfl, Cond.eq_ints (x := 1) (y := 1) rfl rfl]; simp; done) | (simp [limb_1_2, Cond.value, Term.eval]; done)))⟩
