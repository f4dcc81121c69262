set_option maxHeartbeats 4000000 in
set_option maxRecDepth 100000 in
theorem ct_neg (l : Launch) (g : xg_G) (x : Int32) : kc_I l yy_SR_negative cd_SR_negative 1 .int { frames := 0, cells := 0, slots := 0, locals := 0 } g [.int x] [] (S := Unit) (fun _ _ => True) (fun _ => []) := by
  refine kc_Iof (by decide) (Nat.le_of_ble_eq_true rfl) ?_
  intro p e s m args below meth c A ls Q H locs hQ hB hP hS
  obtain ⟨hx, hb, hr, hlk, hin, hml, hown, hts, hA, hK, hD, hE, hl⟩ := hB
  have hF : xf_F g p m c cd_SR_negative 1 s args "StackedRows" A := ⟨⟨hx, hb, hml, hown, hts⟩, hE, hK, hA⟩
  have hl : lv_has ls 1 [(0, .int x)] := hl
  have hown : s.vm.findClass "StackedRows" = some m.cls := hown
  refine lv_sipush (v := nI 929) hx hb dd_SR_negative_0 (by decide) ?_
  refine lv_iload_n hx hb dd_SR_negative_3 rfl (lv_at hl 0 rfl) ?_
  refine lv_isub hx hb dd_SR_negative_4 (lv_topi (fun x_1 _ => ?_))
  refine lv_sipush (v := nI 929) hx hb dd_SR_negative_5 (by decide) ?_
  refine xi_remR hx hb (by decide) dd_SR_negative_8 (fun x_2 => ?_)
  exact xr_i hx hb hr hlk hQ hP hD hS () trivial [] (by decide) rfl rfl (Nat.le_of_ble_eq_true rfl) (Nat.le_of_ble_eq_true rfl) dd_SR_negative_9

set_option maxHeartbeats 4000000 in
set_option maxRecDepth 100000 in
theorem ct_chk (l : Launch) (g : xg_G) (L : Nat) (K : Nat) (qL : L ≤ 8) (qK : K = 2 ^ (L + 1)) : kc_I l yy_SR_checksOf cd_SR_checksOf 1 .int { frames := 0, cells := 0, slots := 0, locals := 0 } g [.int (nI L)] [] (S := Unit) (fun r0 _ => r0 = nI K) (fun _ => []) := by
  refine kc_Iof (by decide) (Nat.le_of_ble_eq_true rfl) ?_
  intro p e s m args below meth c A ls Q H locs hQ hB hP hS
  obtain ⟨hx, hb, hr, hlk, hin, hml, hown, hts, hA, hK, hD, hE, hl⟩ := hB
  have hF : xf_F g p m c cd_SR_checksOf 1 s args "StackedRows" A := ⟨⟨hx, hb, hml, hown, hts⟩, hE, hK, hA⟩
  have hl : lv_has ls 1 [(0, .int (nI L))] := hl
  have hown : s.vm.findClass "StackedRows" = some m.cls := hown
  refine lv_iconst (v := nI 2) hx hb dd_SR_checksOf_0 (by decide) ?_
  refine lv_iload_n hx hb dd_SR_checksOf_1 rfl (lv_at hl 0 rfl) ?_
  refine lv_ishl hx hb dd_SR_checksOf_2 (xi_eq (v := nI K) (xr_shl qL qK) ?_)
  exact xr_i hx hb hr hlk hQ hP hD hS () (by first | rfl | exact congrArg nI (by omega)) [] (by decide) rfl rfl (Nat.le_of_ble_eq_true rfl) (Nat.le_of_ble_eq_true rfl) dd_SR_checksOf_3

set_option maxHeartbeats 4000000 in
set_option maxRecDepth 100000 in
theorem ct_rows (l : Launch) (g : xg_G) (w : Nat) (cc : Nat) (rr : Nat) (qc : 1 ≤ cc) (qc2 : cc ≤ 30) (qw : w ≤ 600) (qr : rr = xr_min w cc) : kc_I l yy_SR_rowsFor cd_SR_rowsFor 3 .int { frames := 0, cells := 0, slots := 0, locals := 0 } g [.int (nI w), .int (nI cc)] [] (S := Unit) (fun r0 _ => r0 = nI rr) (fun _ => []) := by
  refine kc_Iof (by decide) (Nat.le_of_ble_eq_true rfl) ?_
  intro p e s m args below meth c A ls Q H locs hQ hB hP hS
  obtain ⟨hx, hb, hr, hlk, hin, hml, hown, hts, hA, hK, hD, hE, hl⟩ := hB
  have hF : xf_F g p m c cd_SR_rowsFor 3 s args "StackedRows" A := ⟨⟨hx, hb, hml, hown, hts⟩, hE, hK, hA⟩
  have hl : lv_has ls 3 [(0, .int (nI w)), (1, .int (nI cc))] := hl
  have hown : s.vm.findClass "StackedRows" = some m.cls := hown
  refine lv_iconst (v := nI 3) hx hb dd_SR_rowsFor_0 (by decide) ?_
  refine lv_istore_n (lv' := [(2, .int (nI 3)), (0, .int (nI w)), (1, .int (nI cc))]) hx hb dd_SR_rowsFor_1 rfl hl (by decide) rfl (fun ls hl => ?_)
  have lp_1 : ∀ (n1 : Nat) (i : Nat) (H : Heap) (locs : List Loc) (ls : Array Slot), 91 - i = n1 → (3 ≤ i) → (i ≤ rr) → lv_has ls 3 [(0, .int (nI w)), (1, .int (nI cc)), (2, .int (nI i))] → va_P g.1 vwCl [] H → va_D A [] → va_S A s.heap H locs → W p l e { frames := 0, cells := 0, slots := 0, locals := 0 } s m args below meth c H locs 0 0 Q (F0 m 2 ls []) := by
    intro n1
    induction n1 using Nat.strongRecOn with
    | _ n1 ih1 =>
    intro i H locs ls hmn1 qi qi2 hl hP hD hS
    have q91 : rr ≤ 91 := by rw [qr]; exact xr_hi w cc
    have qic : i * cc ≤ 91 * 30 := Nat.mul_le_mul (by omega) qc2
    refine lv_iload_n hx hb dd_SR_rowsFor_2 rfl (lv_at hl 2 rfl) ?_
    refine lv_bipush (v := nI 90) hx hb dd_SR_rowsFor_3 (by decide) ?_
    refine xb_gt (tgt := 21) hx hb (by omega) (by omega) dd_SR_rowsFor_5 rfl (fun qa9 => ?_) (fun qa9 => ?_)
    · refine lv_iload_n hx hb dd_SR_rowsFor_21 rfl (lv_at hl 2 rfl) ?_
      exact xr_i hx hb hr hlk hQ hP hD hS () (xr_end qc qr qi qi2 (by first | exact Or.inl qa9 | exact Or.inr qb9)) [] (by decide) rfl rfl (Nat.le_of_ble_eq_true rfl) (Nat.le_of_ble_eq_true rfl) dd_SR_rowsFor_22
    · refine lv_iload_n hx hb dd_SR_rowsFor_8 rfl (lv_at hl 2 rfl) ?_
      refine lv_iload_n hx hb dd_SR_rowsFor_9 rfl (lv_at hl 1 rfl) ?_
      refine xi_imul hx hb dd_SR_rowsFor_10 ?_
      refine lv_iload_n hx hb dd_SR_rowsFor_11 rfl (lv_at hl 0 rfl) ?_
      refine xb_ge (tgt := 21) hx hb (by omega) (by omega) dd_SR_rowsFor_12 rfl (fun qb9 => ?_) (fun qb9 => ?_)
      · refine lv_iload_n hx hb dd_SR_rowsFor_21 rfl (lv_at hl 2 rfl) ?_
        exact xr_i hx hb hr hlk hQ hP hD hS () (xr_end qc qr qi qi2 (by first | exact Or.inl qa9 | exact Or.inr qb9)) [] (by decide) rfl rfl (Nat.le_of_ble_eq_true rfl) (Nat.le_of_ble_eq_true rfl) dd_SR_rowsFor_22
      · refine lv_iinc (k := 2) (lv' := [(2, .int (nI (i + 1))), (0, .int (nI w)), (1, .int (nI cc))]) hx hb dd_SR_rowsFor_15 hl rfl (xi_inc _) (by decide) rfl (fun ls hl => ?_)
        refine lv_goto (tgt := 2) hx hb dd_SR_rowsFor_18 rfl ?_
        exact ih1 _ (by omega) (i + 1) H locs ls rfl (by omega) (xr_up qc qr qb9 qa9) (lv_sub hl [1, 2, 0] rfl) (hP.sub [] rfl) (hD.sub [] (by decide) rfl) hS
  exact lp_1 _ 3 H locs ls rfl (by omega) (by rw [qr]; exact xr_lo w cc) (lv_sub hl [1, 2, 0] rfl) (hP.sub [] rfl) (hD.sub [] (by decide) rfl) hS

set_option maxHeartbeats 4000000 in
set_option maxRecDepth 100000 in
theorem ct_ck_init (l : Launch) (g : xg_G) (h : Nat) : kc_V l yy_CK_init cd_CK_init 1 { frames := 1, cells := 1, slots := 513, locals := 12 } g [.ref h] [oc_o h 2 [.null]] (S := Nat) (fun _ => True) (fun u0 => [oc_o h 2 [.ref u0], oc_i g u0 513 (fun _ => 0)]) := by
  refine kc_Vof (by decide) (Nat.le_of_ble_eq_true rfl) ?_
  intro p e s m args below meth c A ls Q H locs hQ hB hP hS
  obtain ⟨hx, hb, hr, hlk, hin, hml, hown, hts, hA, hK, hD, hE, hl⟩ := hB
  have hF : xf_F g p m c cd_CK_init 1 s args "StackedRows$Checks" A := ⟨⟨hx, hb, hml, hown, hts⟩, hE, hK, hA⟩
  have hl : lv_has ls 1 [(0, .ref h)] := hl
  have hown : s.vm.findClass "StackedRows$Checks" = some m.cls := hown
  refine lv_aload_n hx hb dd_CK_init_0 rfl (lv_at hl 0 rfl) ?_
  refine oi_CK_3 hx hb hts hown hml hl.1 (Nat.le_of_ble_eq_true rfl) (Nat.le_of_ble_eq_true rfl) dd_CK_init_1 ?_
  refine lv_aload_n hx hb dd_CK_init_4 rfl (lv_at hl 0 rfl) ?_
  refine lv_sipush (v := nI 513) hx hb dd_CK_init_5 (by decide) ?_
  refine xa_newI (k1 := 1) (k2 := 513) hx hb (hts _ wa_int) hK hP hD hS hA (by decide) rfl rfl (Nat.le_of_ble_eq_true rfl) (Nat.le_of_ble_eq_true rfl) dd_CK_init_8 (fun q_1 H hP hD hS => ?_)
  have hP : va_P g.1 vwCl [oc_o h 2 [.null], oc_i g q_1 513 (fun _ => 0)] H := hP
  have hD : va_D A [oc_o h 2 [.null], oc_i g q_1 513 (fun _ => 0)] := hD
  refine pf_CK_9 hin hx hb hts hown hK hP hD hS 0 rfl rfl rfl (Nat.le_of_ble_eq_true rfl) dd_CK_init_10 (fun H locs hP hD hS => ?_)
  have hP : va_P g.1 vwCl [oc_o h 2 [.ref q_1], oc_i g q_1 513 (fun _ => 0)] H := hP
  have hD : va_D A [oc_o h 2 [.ref q_1], oc_i g q_1 513 (fun _ => 0)] := hD
  exact xr_v hx hb hr hlk hQ hP hD hS (q_1) trivial [0, 1] (by decide) rfl (Nat.le_of_ble_eq_true rfl) (Nat.le_of_ble_eq_true rfl) dd_CK_init_13

set_option maxHeartbeats 4000000 in
set_option maxRecDepth 100000 in
theorem ct_ck_mul (l : Launch) (g : xg_G) (h : Nat) (q : Nat) (K : Nat) (f : Nat → Int32) (qK : 2 ≤ K ∧ K ≤ 512) : kc_V l yy_CK_multiplyFactors cd_CK_multiplyFactors 6 { frames := 1, cells := 0, slots := 0, locals := 20 } g [.ref h, .int (nI K)] [oc_o h 2 [.ref q], oc_i g q 513 f] (S := (Nat → Int32)) (fun _ => True) (fun u0 => [oc_o h 2 [.ref q], oc_i g q 513 u0]) := by
  refine kc_Vof (by decide) (Nat.le_of_ble_eq_true rfl) ?_
  intro p e s m args below meth c A ls Q H locs hQ hB hP hS
  obtain ⟨hx, hb, hr, hlk, hin, hml, hown, hts, hA, hK, hD, hE, hl⟩ := hB
  have hF : xf_F g p m c cd_CK_multiplyFactors 6 s args "StackedRows$Checks" A := ⟨⟨hx, hb, hml, hown, hts⟩, hE, hK, hA⟩
  have hl : lv_has ls 6 [(0, .ref h), (1, .int (nI K))] := hl
  have hown : s.vm.findClass "StackedRows$Checks" = some m.cls := hown
  refine lv_aload_n hx hb dd_CK_multiplyFactors_0 rfl (lv_at hl 0 rfl) ?_
  refine gf_CK_9 hx hb hts hown hK hP 0 rfl rfl dd_CK_multiplyFactors_1 ?_
  refine lv_iconst (v := nI 0) hx hb dd_CK_multiplyFactors_4 (by decide) ?_
  refine lv_iconst (v := nI 1) hx hb dd_CK_multiplyFactors_5 (by decide) ?_
  refine xa_st hx hb hK hP hD hS 1 rfl (j := 0) (by omega) (by omega) dd_CK_multiplyFactors_6 (fun f_1 H locs hP hD hS => ?_)
  have hP : va_P g.1 vwCl [oc_o h 2 [.ref q], oc_i g q 513 f_1] H := hP
  have hD : va_D A [oc_o h 2 [.ref q], oc_i g q 513 f_1] := hD
  refine lv_iconst (v := nI 1) hx hb dd_CK_multiplyFactors_7 (by decide) ?_
  refine lv_istore_n (lv' := [(2, .int (nI 1)), (0, .ref h), (1, .int (nI K))]) hx hb dd_CK_multiplyFactors_8 rfl hl (by decide) rfl (fun ls hl => ?_)
  refine lv_iconst (v := nI 1) hx hb dd_CK_multiplyFactors_9 (by decide) ?_
  refine lv_istore_n (lv' := [(3, .int (nI 1)), (2, .int (nI 1)), (0, .ref h), (1, .int (nI K))]) hx hb dd_CK_multiplyFactors_10 rfl hl (by decide) rfl (fun ls hl => ?_)
  have lp_2 : ∀ (n2 : Nat) (d : Nat) (z : Int32) (f : Nat → Int32) (H : Heap) (locs : List Loc) (ls : Array Slot), K + 1 - d = n2 → (1 ≤ d) → (d ≤ K + 1) → lv_has ls 6 [(0, .ref h), (1, .int (nI K)), (2, .int z), (3, .int (nI d))] → va_P g.1 vwCl [oc_o h 2 [.ref q], oc_i g q 513 f] H → va_D A [oc_o h 2 [.ref q], oc_i g q 513 f] → va_S A s.heap H locs → W p l e { frames := 1, cells := 0, slots := 0, locals := 20 } s m args below meth c H locs 0 0 Q (F0 m 11 ls []) := by
    intro n2
    induction n2 using Nat.strongRecOn with
    | _ n2 ih2 =>
    intro d z f H locs ls hmn2 qd qd2 hl hP hD hS
    refine lv_iload_n hx hb dd_CK_multiplyFactors_11 rfl (lv_at hl 3 rfl) ?_
    refine lv_iload_n hx hb dd_CK_multiplyFactors_12 rfl (lv_at hl 1 rfl) ?_
    refine xb_gt (tgt := 109) hx hb (by omega) (by omega) dd_CK_multiplyFactors_13 rfl (fun h_3 => ?_) (fun h_3 => ?_)
    · exact xr_v hx hb hr hlk hQ hP hD hS (f) trivial [0, 1] (by decide) rfl (Nat.le_of_ble_eq_true rfl) (Nat.le_of_ble_eq_true rfl) dd_CK_multiplyFactors_109
    · refine lv_iload_n hx hb dd_CK_multiplyFactors_16 rfl (lv_at hl 2 rfl) ?_
      refine lv_iconst (v := nI 3) hx hb dd_CK_multiplyFactors_17 (by decide) ?_
      refine lv_imul hx hb dd_CK_multiplyFactors_18 (lv_topi (fun x_4 _ => ?_))
      refine lv_sipush (v := nI 929) hx hb dd_CK_multiplyFactors_19 (by decide) ?_
      refine xi_remR hx hb (by decide) dd_CK_multiplyFactors_22 (fun x_5 => ?_)
      refine lv_istore_n (lv' := [(2, .int x_5), (0, .ref h), (1, .int (nI K)), (3, .int (nI d))]) hx hb dd_CK_multiplyFactors_23 rfl hl (by decide) rfl (fun ls hl => ?_)
      refine lv_iload_n hx hb dd_CK_multiplyFactors_24 rfl (lv_at hl 0 rfl) ?_
      refine xc_SNi (wr := [oc_o h 2 [.ref q], oc_i g q 513 f]) (k1 := 0) (k2 := 0) (As := [.int x_5]) (rest := []) (k := 1) hF hP hD hS (ct_neg l g x_5) wc_SR_negative wn_SR hE.2.2.2.1 wz_SR_negative (by decide) [] [0, 1] ⟨rfl, rfl, by decide, by decide, by decide⟩ ⟨⟨Nat.le_of_ble_eq_true rfl, Nat.le_of_ble_eq_true rfl⟩, rfl, rfl, Nat.le_of_ble_eq_true rfl, Nat.le_of_ble_eq_true rfl⟩ rfl hl.1 rfl (Nat.le_of_ble_eq_true rfl) dd_CK_multiplyFactors_25 (fun r_6 u H locs hp hP hD hS => ?_)
      have hP : va_P g.1 vwCl [oc_o h 2 [.ref q], oc_i g q 513 f] H := hP
      have hD : va_D A [oc_o h 2 [.ref q], oc_i g q 513 f] := hD
      refine lv_istore (lv' := [(4, .int r_6), (2, .int x_5), (0, .ref h), (1, .int (nI K)), (3, .int (nI d))]) hx hb dd_CK_multiplyFactors_28 hl (by decide) rfl (fun ls hl => ?_)
      refine lv_aload_n hx hb dd_CK_multiplyFactors_30 rfl (lv_at hl 2 rfl) ?_
      refine gf_CK_9 hx hb hts hown hK hP 0 rfl rfl dd_CK_multiplyFactors_31 ?_
      refine lv_iload_n hx hb dd_CK_multiplyFactors_34 rfl (lv_at hl 4 rfl) ?_
      refine lv_iconst (v := nI 1) hx hb dd_CK_multiplyFactors_35 (by decide) ?_
      refine xa_st hx hb hK hP hD hS 1 rfl (j := d) (by omega) (by omega) dd_CK_multiplyFactors_36 (fun f_7 H locs hP hD hS => ?_)
      have hP : va_P g.1 vwCl [oc_o h 2 [.ref q], oc_i g q 513 f_7] H := hP
      have hD : va_D A [oc_o h 2 [.ref q], oc_i g q 513 f_7] := hD
      refine lv_iload_n hx hb dd_CK_multiplyFactors_37 rfl (lv_at hl 4 rfl) ?_
      refine lv_iconst (v := nI 1) hx hb dd_CK_multiplyFactors_38 (by decide) ?_
      refine xi_isub hx hb (by omega) dd_CK_multiplyFactors_39 ?_
      refine lv_istore (lv' := [(5, .int (nI (d - 1))), (4, .int r_6), (2, .int x_5), (0, .ref h), (1, .int (nI K)), (3, .int (nI d))]) hx hb dd_CK_multiplyFactors_40 hl (by decide) rfl (fun ls hl => ?_)
      have lp_8 : ∀ (n8 : Nat) (i : Nat) (f : Nat → Int32) (H : Heap) (locs : List Loc) (ls : Array Slot), i = n8 → (i < d) → lv_has ls 6 [(0, .ref h), (1, .int (nI K)), (2, .int x_5), (3, .int (nI d)), (4, .int r_6), (5, .int (nI i))] → va_P g.1 vwCl [oc_o h 2 [.ref q], oc_i g q 513 f] H → va_D A [oc_o h 2 [.ref q], oc_i g q 513 f] → va_S A s.heap H locs → W p l e { frames := 1, cells := 0, slots := 0, locals := 20 } s m args below meth c H locs 0 0 Q (F0 m 42 ls []) := by
        intro n8
        induction n8 using Nat.strongRecOn with
        | _ n8 ih8 =>
        intro i f H locs ls hmn8 qi hl hP hD hS
        refine lv_iload hx hb dd_CK_multiplyFactors_42 (lv_at hl 5 rfl) ?_
        refine xb_zle (tgt := 84) hx hb (by omega) dd_CK_multiplyFactors_44 rfl (fun h_9 => ?_) (fun h_9 => ?_)
        · refine lv_aload_n hx hb dd_CK_multiplyFactors_84 rfl (lv_at hl 0 rfl) ?_
          refine gf_CK_9 hx hb hts hown hK hP 0 rfl rfl dd_CK_multiplyFactors_85 ?_
          refine lv_iconst (v := nI 0) hx hb dd_CK_multiplyFactors_88 (by decide) ?_
          refine lv_iload hx hb dd_CK_multiplyFactors_89 (lv_at hl 4 rfl) ?_
          refine lv_aload_n hx hb dd_CK_multiplyFactors_91 rfl (lv_at hl 0 rfl) ?_
          refine gf_CK_9 hx hb hts hown hK hP 0 rfl rfl dd_CK_multiplyFactors_92 ?_
          refine lv_iconst (v := nI 0) hx hb dd_CK_multiplyFactors_95 (by decide) ?_
          refine xa_ld hx hb hK hP 1 rfl (j := 0) (by omega) (by omega) dd_CK_multiplyFactors_96 ?_
          refine lv_imul hx hb dd_CK_multiplyFactors_97 (lv_topi (fun x_10 _ => ?_))
          refine lv_sipush (v := nI 929) hx hb dd_CK_multiplyFactors_98 (by decide) ?_
          refine xi_remR hx hb (by decide) dd_CK_multiplyFactors_101 (fun x_11 => ?_)
          refine xa_st hx hb hK hP hD hS 1 rfl (j := 0) (by omega) (by omega) dd_CK_multiplyFactors_102 (fun f_12 H locs hP hD hS => ?_)
          have hP : va_P g.1 vwCl [oc_o h 2 [.ref q], oc_i g q 513 f_12] H := hP
          have hD : va_D A [oc_o h 2 [.ref q], oc_i g q 513 f_12] := hD
          refine lv_iinc (k := 3) (lv' := [(3, .int (nI (d + 1))), (0, .ref h), (1, .int (nI K)), (2, .int x_5), (4, .int r_6), (5, .int (nI i))]) hx hb dd_CK_multiplyFactors_103 hl rfl (xi_inc _) (by decide) rfl (fun ls hl => ?_)
          refine lv_goto (tgt := 11) hx hb dd_CK_multiplyFactors_106 rfl ?_
          exact ih2 _ (by omega) (d + 1) x_5 f_12 H locs ls rfl (by omega) (by omega) (lv_sub hl [1, 2, 3, 0] rfl) (hP.sub [0, 1] rfl) (hD.sub [0, 1] (by decide) rfl) hS
        · refine lv_aload_n hx hb dd_CK_multiplyFactors_47 rfl (lv_at hl 0 rfl) ?_
          refine gf_CK_9 hx hb hts hown hK hP 0 rfl rfl dd_CK_multiplyFactors_48 ?_
          refine lv_iload hx hb dd_CK_multiplyFactors_51 (lv_at hl 5 rfl) ?_
          refine lv_aload_n hx hb dd_CK_multiplyFactors_53 rfl (lv_at hl 0 rfl) ?_
          refine gf_CK_9 hx hb hts hown hK hP 0 rfl rfl dd_CK_multiplyFactors_54 ?_
          refine lv_iload hx hb dd_CK_multiplyFactors_57 (lv_at hl 5 rfl) ?_
          refine lv_iconst (v := nI 1) hx hb dd_CK_multiplyFactors_59 (by decide) ?_
          refine xi_isub hx hb (by omega) dd_CK_multiplyFactors_60 ?_
          refine xa_ld hx hb hK hP 1 rfl (j := i - 1) (by omega) (by omega) dd_CK_multiplyFactors_61 ?_
          refine lv_iload hx hb dd_CK_multiplyFactors_62 (lv_at hl 4 rfl) ?_
          refine lv_aload_n hx hb dd_CK_multiplyFactors_64 rfl (lv_at hl 0 rfl) ?_
          refine gf_CK_9 hx hb hts hown hK hP 0 rfl rfl dd_CK_multiplyFactors_65 ?_
          refine lv_iload hx hb dd_CK_multiplyFactors_68 (lv_at hl 5 rfl) ?_
          refine xa_ld hx hb hK hP 1 rfl (j := i) (by omega) (by omega) dd_CK_multiplyFactors_70 ?_
          refine lv_imul hx hb dd_CK_multiplyFactors_71 (lv_topi (fun x_13 _ => ?_))
          refine lv_iadd hx hb dd_CK_multiplyFactors_72 (lv_topi (fun x_14 _ => ?_))
          refine lv_sipush (v := nI 929) hx hb dd_CK_multiplyFactors_73 (by decide) ?_
          refine xi_remR hx hb (by decide) dd_CK_multiplyFactors_76 (fun x_15 => ?_)
          refine xa_st hx hb hK hP hD hS 1 rfl (j := i) (by omega) (by omega) dd_CK_multiplyFactors_77 (fun f_16 H locs hP hD hS => ?_)
          have hP : va_P g.1 vwCl [oc_o h 2 [.ref q], oc_i g q 513 f_16] H := hP
          have hD : va_D A [oc_o h 2 [.ref q], oc_i g q 513 f_16] := hD
          refine lv_iinc (k := 5) (lv' := [(5, .int (nI (i - 1))), (0, .ref h), (1, .int (nI K)), (2, .int x_5), (3, .int (nI d)), (4, .int r_6)]) hx hb dd_CK_multiplyFactors_78 hl rfl (xi_dec (by omega)) (by decide) rfl (fun ls hl => ?_)
          refine lv_goto (tgt := 42) hx hb dd_CK_multiplyFactors_81 rfl ?_
          exact ih8 _ (by omega) (i - 1) f_16 H locs ls rfl (by omega) (lv_sub hl [1, 2, 3, 4, 5, 0] rfl) (hP.sub [0, 1] rfl) (hD.sub [0, 1] (by decide) rfl) hS
      exact lp_8 _ (d - 1) f_7 H locs ls rfl (by omega) (lv_sub hl [3, 4, 2, 5, 1, 0] rfl) (hP.sub [0, 1] rfl) (hD.sub [0, 1] (by decide) rfl) hS
  exact lp_2 _ 1 (nI 1) f_1 H locs ls rfl (by omega) (by omega) (lv_sub hl [2, 3, 1, 0] rfl) (hP.sub [0, 1] rfl) (hD.sub [0, 1] (by decide) rfl) hS

set_option maxHeartbeats 4000000 in
set_option maxRecDepth 100000 in
theorem ct_ck_div (l : Launch) (g : xg_G) (h : Nat) (q : Nat) (rw : Nat) (nn : Nat) (K : Nat) (f : Nat → Int32) (f0 : Nat → Int32) (qK : 2 ≤ K ∧ K ≤ 512) (qn : nn ≤ 928) (qn2 : K + 1 ≤ nn) : kc_V l yy_CK_divide cd_CK_divide 7 { frames := 1, cells := 0, slots := 0, locals := 20 } g [.ref h, .ref rw, .int (nI nn), .int (nI K)] [oc_o h 2 [.ref q], oc_i g q 513 f0, oc_i g rw 928 f] (S := (Nat → Int32)) (fun _ => True) (fun u0 => [oc_o h 2 [.ref q], oc_i g q 513 f0, oc_i g rw 928 u0]) := by
  refine kc_Vof (by decide) (Nat.le_of_ble_eq_true rfl) ?_
  intro p e s m args below meth c A ls Q H locs hQ hB hP hS
  obtain ⟨hx, hb, hr, hlk, hin, hml, hown, hts, hA, hK, hD, hE, hl⟩ := hB
  have hF : xf_F g p m c cd_CK_divide 7 s args "StackedRows$Checks" A := ⟨⟨hx, hb, hml, hown, hts⟩, hE, hK, hA⟩
  have hl : lv_has ls 7 [(0, .ref h), (1, .ref rw), (2, .int (nI nn)), (3, .int (nI K))] := hl
  have hown : s.vm.findClass "StackedRows$Checks" = some m.cls := hown
  refine lv_iload_n hx hb dd_CK_divide_0 rfl (lv_at hl 2 rfl) ?_
  refine lv_iload_n hx hb dd_CK_divide_1 rfl (lv_at hl 3 rfl) ?_
  refine xi_isub hx hb (by omega) dd_CK_divide_2 ?_
  refine lv_istore (lv' := [(4, .int (nI (nn - K))), (0, .ref h), (1, .ref rw), (2, .int (nI nn)), (3, .int (nI K))]) hx hb dd_CK_divide_3 hl (by decide) rfl (fun ls hl => ?_)
  have lp_1 : ∀ (n1 : Nat) (i : Nat) (f : Nat → Int32) (H : Heap) (locs : List Loc) (ls : Array Slot), nn - i = n1 → (i ≤ nn) → lv_has ls 7 [(0, .ref h), (1, .ref rw), (2, .int (nI nn)), (3, .int (nI K)), (4, .int (nI i))] → va_P g.1 vwCl [oc_o h 2 [.ref q], oc_i g q 513 f0, oc_i g rw 928 f] H → va_D A [oc_o h 2 [.ref q], oc_i g q 513 f0, oc_i g rw 928 f] → va_S A s.heap H locs → W p l e { frames := 1, cells := 0, slots := 0, locals := 20 } s m args below meth c H locs 0 0 Q (F0 m 5 ls []) := by
    intro n1
    induction n1 using Nat.strongRecOn with
    | _ n1 ih1 =>
    intro i f H locs ls hmn1 qi hl hP hD hS
    refine lv_iload hx hb dd_CK_divide_5 (lv_at hl 4 rfl) ?_
    refine lv_iload_n hx hb dd_CK_divide_7 rfl (lv_at hl 2 rfl) ?_
    refine xb_ge (tgt := 22) hx hb (by omega) (by omega) dd_CK_divide_8 rfl (fun h_2 => ?_) (fun h_2 => ?_)
    · refine lv_iconst (v := nI 0) hx hb dd_CK_divide_22 (by decide) ?_
      refine lv_istore (lv' := [(4, .int (nI 0)), (0, .ref h), (1, .ref rw), (2, .int (nI nn)), (3, .int (nI K))]) hx hb dd_CK_divide_23 hl (by decide) rfl (fun ls hl => ?_)
      have lp_3 : ∀ (n3 : Nat) (i : Nat) (f : Nat → Int32) (H : Heap) (locs : List Loc) (ls : Array Slot), nn - K - i = n3 → (i ≤ nn - K) → lv_has ls 7 [(0, .ref h), (1, .ref rw), (2, .int (nI nn)), (3, .int (nI K)), (4, .int (nI i))] → va_P g.1 vwCl [oc_o h 2 [.ref q], oc_i g q 513 f0, oc_i g rw 928 f] H → va_D A [oc_o h 2 [.ref q], oc_i g q 513 f0, oc_i g rw 928 f] → va_S A s.heap H locs → W p l e { frames := 1, cells := 0, slots := 0, locals := 20 } s m args below meth c H locs 0 0 Q (F0 m 25 ls []) := by
        intro n3
        induction n3 using Nat.strongRecOn with
        | _ n3 ih3 =>
        intro i f H locs ls hmn3 qi hl hP hD hS
        refine lv_iload hx hb dd_CK_divide_25 (lv_at hl 4 rfl) ?_
        refine lv_iload_n hx hb dd_CK_divide_27 rfl (lv_at hl 2 rfl) ?_
        refine lv_iload_n hx hb dd_CK_divide_28 rfl (lv_at hl 3 rfl) ?_
        refine xi_isub hx hb (by omega) dd_CK_divide_29 ?_
        refine xb_ge (tgt := 121) hx hb (by omega) (by omega) dd_CK_divide_30 rfl (fun h_4 => ?_) (fun h_4 => ?_)
        · exact xr_v hx hb hr hlk hQ hP hD hS (f) trivial [0, 1, 2] (by decide) rfl (Nat.le_of_ble_eq_true rfl) (Nat.le_of_ble_eq_true rfl) dd_CK_divide_121
        · refine lv_aload_n hx hb dd_CK_divide_33 rfl (lv_at hl 1 rfl) ?_
          refine lv_iload hx hb dd_CK_divide_34 (lv_at hl 4 rfl) ?_
          refine xa_ld hx hb hK hP 2 rfl (j := i) (by omega) (by omega) dd_CK_divide_36 ?_
          refine lv_aload_n hx hb dd_CK_divide_37 rfl (lv_at hl 1 rfl) ?_
          refine lv_iload_n hx hb dd_CK_divide_38 rfl (lv_at hl 2 rfl) ?_
          refine lv_iload_n hx hb dd_CK_divide_39 rfl (lv_at hl 3 rfl) ?_
          refine xi_isub hx hb (by omega) dd_CK_divide_40 ?_
          refine xa_ld hx hb hK hP 2 rfl (j := nn - K) (by omega) (by omega) dd_CK_divide_41 ?_
          refine lv_iadd hx hb dd_CK_divide_42 (lv_topi (fun x_5 _ => ?_))
          refine lv_sipush (v := nI 929) hx hb dd_CK_divide_43 (by decide) ?_
          refine xi_remR hx hb (by decide) dd_CK_divide_46 (fun x_6 => ?_)
          refine xc_SNi (wr := [oc_o h 2 [.ref q], oc_i g q 513 f0, oc_i g rw 928 f]) (k1 := 0) (k2 := 0) (As := [.int x_6]) (rest := []) (k := 1) hF hP hD hS (ct_neg l g x_6) wc_SR_negative wn_SR hE.2.2.2.1 wz_SR_negative (by decide) [] [0, 1, 2] ⟨rfl, rfl, by decide, by decide, by decide⟩ ⟨⟨Nat.le_of_ble_eq_true rfl, Nat.le_of_ble_eq_true rfl⟩, rfl, rfl, Nat.le_of_ble_eq_true rfl, Nat.le_of_ble_eq_true rfl⟩ rfl hl.1 rfl (Nat.le_of_ble_eq_true rfl) dd_CK_divide_47 (fun r_7 u H locs hp hP hD hS => ?_)
          have hP : va_P g.1 vwCl [oc_o h 2 [.ref q], oc_i g q 513 f0, oc_i g rw 928 f] H := hP
          have hD : va_D A [oc_o h 2 [.ref q], oc_i g q 513 f0, oc_i g rw 928 f] := hD
          refine lv_istore (lv' := [(5, .int r_7), (0, .ref h), (1, .ref rw), (2, .int (nI nn)), (3, .int (nI K)), (4, .int (nI i))]) hx hb dd_CK_divide_50 hl (by decide) rfl (fun ls hl => ?_)
          refine lv_iload_n hx hb dd_CK_divide_52 rfl (lv_at hl 4 rfl) ?_
          refine lv_iconst (v := nI 1) hx hb dd_CK_divide_53 (by decide) ?_
          refine xi_isub hx hb (by omega) dd_CK_divide_54 ?_
          refine lv_istore (lv' := [(6, .int (nI (K - 1))), (5, .int r_7), (0, .ref h), (1, .ref rw), (2, .int (nI nn)), (3, .int (nI K)), (4, .int (nI i))]) hx hb dd_CK_divide_55 hl (by decide) rfl (fun ls hl => ?_)
          have lp_8 : ∀ (n8 : Nat) (j : Nat) (f : Nat → Int32) (H : Heap) (locs : List Loc) (ls : Array Slot), j = n8 → (j < K) → lv_has ls 7 [(0, .ref h), (1, .ref rw), (2, .int (nI nn)), (3, .int (nI K)), (4, .int (nI i)), (5, .int r_7), (6, .int (nI j))] → va_P g.1 vwCl [oc_o h 2 [.ref q], oc_i g q 513 f0, oc_i g rw 928 f] H → va_D A [oc_o h 2 [.ref q], oc_i g q 513 f0, oc_i g rw 928 f] → va_S A s.heap H locs → W p l e { frames := 1, cells := 0, slots := 0, locals := 20 } s m args below meth c H locs 0 0 Q (F0 m 57 ls []) := by
            intro n8
            induction n8 using Nat.strongRecOn with
            | _ n8 ih8 =>
            intro j f H locs ls hmn8 qj hl hP hD hS
            refine lv_iload hx hb dd_CK_divide_57 (lv_at hl 6 rfl) ?_
            refine xb_zle (tgt := 97) hx hb (by omega) dd_CK_divide_59 rfl (fun h_9 => ?_) (fun h_9 => ?_)
            · refine lv_aload_n hx hb dd_CK_divide_97 rfl (lv_at hl 1 rfl) ?_
              refine lv_iload_n hx hb dd_CK_divide_98 rfl (lv_at hl 2 rfl) ?_
              refine lv_iconst (v := nI 1) hx hb dd_CK_divide_99 (by decide) ?_
              refine xi_isub hx hb (by omega) dd_CK_divide_100 ?_
              refine lv_iload hx hb dd_CK_divide_101 (lv_at hl 5 rfl) ?_
              refine lv_aload_n hx hb dd_CK_divide_103 rfl (lv_at hl 0 rfl) ?_
              refine gf_CK_9 hx hb hts hown hK hP 0 rfl rfl dd_CK_divide_104 ?_
              refine lv_iconst (v := nI 0) hx hb dd_CK_divide_107 (by decide) ?_
              refine xa_ld hx hb hK hP 1 rfl (j := 0) (by omega) (by omega) dd_CK_divide_108 ?_
              refine lv_imul hx hb dd_CK_divide_109 (lv_topi (fun x_10 _ => ?_))
              refine lv_sipush (v := nI 929) hx hb dd_CK_divide_110 (by decide) ?_
              refine xi_remR hx hb (by decide) dd_CK_divide_113 (fun x_11 => ?_)
              refine xa_st hx hb hK hP hD hS 2 rfl (j := nn - 1) (by omega) (by omega) dd_CK_divide_114 (fun f_12 H locs hP hD hS => ?_)
              have hP : va_P g.1 vwCl [oc_o h 2 [.ref q], oc_i g q 513 f0, oc_i g rw 928 f_12] H := hP
              have hD : va_D A [oc_o h 2 [.ref q], oc_i g q 513 f0, oc_i g rw 928 f_12] := hD
              refine lv_iinc (k := 4) (lv' := [(4, .int (nI (i + 1))), (0, .ref h), (1, .ref rw), (2, .int (nI nn)), (3, .int (nI K)), (5, .int r_7), (6, .int (nI j))]) hx hb dd_CK_divide_115 hl rfl (xi_inc _) (by decide) rfl (fun ls hl => ?_)
              refine lv_goto (tgt := 25) hx hb dd_CK_divide_118 rfl ?_
              exact ih3 _ (by omega) (i + 1) f_12 H locs ls rfl (by omega) (lv_sub hl [1, 2, 3, 4, 0] rfl) (hP.sub [0, 1, 2] rfl) (hD.sub [0, 1, 2] (by decide) rfl) hS
            · refine lv_aload_n hx hb dd_CK_divide_62 rfl (lv_at hl 1 rfl) ?_
              refine lv_iload_n hx hb dd_CK_divide_63 rfl (lv_at hl 2 rfl) ?_
              refine lv_iconst (v := nI 1) hx hb dd_CK_divide_64 (by decide) ?_
              refine xi_isub hx hb (by omega) dd_CK_divide_65 ?_
              refine lv_iload hx hb dd_CK_divide_66 (lv_at hl 6 rfl) ?_
              refine xi_isub hx hb (by omega) dd_CK_divide_68 ?_
              refine lv_aload_n hx hb dd_CK_divide_69 rfl (lv_at hl 1 rfl) ?_
              refine lv_iload_n hx hb dd_CK_divide_70 rfl (lv_at hl 2 rfl) ?_
              refine lv_iload hx hb dd_CK_divide_71 (lv_at hl 6 rfl) ?_
              refine xi_isub hx hb (by omega) dd_CK_divide_73 ?_
              refine xa_ld hx hb hK hP 2 rfl (j := nn - j) (by omega) (by omega) dd_CK_divide_74 ?_
              refine lv_iload hx hb dd_CK_divide_75 (lv_at hl 5 rfl) ?_
              refine lv_aload_n hx hb dd_CK_divide_77 rfl (lv_at hl 0 rfl) ?_
              refine gf_CK_9 hx hb hts hown hK hP 0 rfl rfl dd_CK_divide_78 ?_
              refine lv_iload hx hb dd_CK_divide_81 (lv_at hl 6 rfl) ?_
              refine xa_ld hx hb hK hP 1 rfl (j := j) (by omega) (by omega) dd_CK_divide_83 ?_
              refine lv_imul hx hb dd_CK_divide_84 (lv_topi (fun x_13 _ => ?_))
              refine lv_iadd hx hb dd_CK_divide_85 (lv_topi (fun x_14 _ => ?_))
              refine lv_sipush (v := nI 929) hx hb dd_CK_divide_86 (by decide) ?_
              refine xi_remR hx hb (by decide) dd_CK_divide_89 (fun x_15 => ?_)
              refine xa_st hx hb hK hP hD hS 2 rfl (j := (nn - 1) - j) (by omega) (by omega) dd_CK_divide_90 (fun f_16 H locs hP hD hS => ?_)
              have hP : va_P g.1 vwCl [oc_o h 2 [.ref q], oc_i g q 513 f0, oc_i g rw 928 f_16] H := hP
              have hD : va_D A [oc_o h 2 [.ref q], oc_i g q 513 f0, oc_i g rw 928 f_16] := hD
              refine lv_iinc (k := 6) (lv' := [(6, .int (nI (j - 1))), (0, .ref h), (1, .ref rw), (2, .int (nI nn)), (3, .int (nI K)), (4, .int (nI i)), (5, .int r_7)]) hx hb dd_CK_divide_91 hl rfl (xi_dec (by omega)) (by decide) rfl (fun ls hl => ?_)
              refine lv_goto (tgt := 57) hx hb dd_CK_divide_94 rfl ?_
              exact ih8 _ (by omega) (j - 1) f_16 H locs ls rfl (by omega) (lv_sub hl [1, 2, 3, 4, 5, 6, 0] rfl) (hP.sub [0, 1, 2] rfl) (hD.sub [0, 1, 2] (by decide) rfl) hS
          exact lp_8 _ (K - 1) f H locs ls rfl (by omega) (lv_sub hl [2, 3, 4, 5, 6, 1, 0] rfl) (hP.sub [0, 1, 2] rfl) (hD.sub [0, 1, 2] (by decide) rfl) hS
      exact lp_3 _ 0 f H locs ls rfl (by omega) (lv_sub hl [1, 2, 3, 4, 0] rfl) (hP.sub [0, 1, 2] rfl) (hD.sub [0, 1, 2] (by decide) rfl) hS
    · refine lv_aload_n hx hb dd_CK_divide_11 rfl (lv_at hl 1 rfl) ?_
      refine lv_iload hx hb dd_CK_divide_12 (lv_at hl 4 rfl) ?_
      refine lv_iconst (v := nI 0) hx hb dd_CK_divide_14 (by decide) ?_
      refine xa_st hx hb hK hP hD hS 2 rfl (j := i) (by omega) (by omega) dd_CK_divide_15 (fun f_17 H locs hP hD hS => ?_)
      have hP : va_P g.1 vwCl [oc_o h 2 [.ref q], oc_i g q 513 f0, oc_i g rw 928 f_17] H := hP
      have hD : va_D A [oc_o h 2 [.ref q], oc_i g q 513 f0, oc_i g rw 928 f_17] := hD
      refine lv_iinc (k := 4) (lv' := [(4, .int (nI (i + 1))), (0, .ref h), (1, .ref rw), (2, .int (nI nn)), (3, .int (nI K))]) hx hb dd_CK_divide_16 hl rfl (xi_inc _) (by decide) rfl (fun ls hl => ?_)
      refine lv_goto (tgt := 5) hx hb dd_CK_divide_19 rfl ?_
      exact ih1 _ (by omega) (i + 1) f_17 H locs ls rfl (by omega) (lv_sub hl [1, 2, 3, 4, 0] rfl) (hP.sub [0, 1, 2] rfl) (hD.sub [0, 1, 2] (by decide) rfl) hS
  exact lp_1 _ (nn - K) f H locs ls rfl (by omega) (lv_sub hl [1, 2, 3, 4, 0] rfl) (hP.sub [0, 1, 2] rfl) (hD.sub [0, 1, 2] (by decide) rfl) hS

set_option maxHeartbeats 4000000 in
set_option maxRecDepth 100000 in
theorem ct_ck_write (l : Launch) (g : xg_G) (h : Nat) (q : Nat) (rw : Nat) (nn : Nat) (K : Nat) (f : Nat → Int32) (f0 : Nat → Int32) (qK : 2 ≤ K ∧ K ≤ 512) (qn : nn ≤ 928) (qn2 : K + 1 ≤ nn) : kc_V l yy_CK_write cd_CK_write 5 { frames := 2, cells := 0, slots := 0, locals := 46 } g [.ref h, .ref rw, .int (nI nn), .int (nI K)] [oc_o h 2 [.ref q], oc_i g q 513 f0, oc_i g rw 928 f] (S := (Nat → Int32) × (Nat → Int32)) (fun _ => True) (fun u0 => [oc_o h 2 [.ref q], oc_i g q 513 u0.2, oc_i g rw 928 u0.1]) := by
  refine kc_Vof (by decide) (Nat.le_of_ble_eq_true rfl) ?_
  intro p e s m args below meth c A ls Q H locs hQ hB hP hS
  obtain ⟨hx, hb, hr, hlk, hin, hml, hown, hts, hA, hK, hD, hE, hl⟩ := hB
  have hF : xf_F g p m c cd_CK_write 5 s args "StackedRows$Checks" A := ⟨⟨hx, hb, hml, hown, hts⟩, hE, hK, hA⟩
  have hl : lv_has ls 5 [(0, .ref h), (1, .ref rw), (2, .int (nI nn)), (3, .int (nI K))] := hl
  have hown : s.vm.findClass "StackedRows$Checks" = some m.cls := hown
  refine lv_aload_n hx hb dd_CK_write_0 rfl (lv_at hl 0 rfl) ?_
  refine lv_iload_n hx hb dd_CK_write_1 rfl (lv_at hl 3 rfl) ?_
  refine xc_Vv (wr := [oc_i g rw 928 f]) (k1 := 0) (k2 := 0) (As := [.int (nI K)]) (rest := []) (k := 1) hF hP hD hS (ct_ck_mul l g h q K f0 (by omega)) (xt_V ml_CK_15 wi_CK_multiplyFactors wx_CK_multiplyFactors wn_CK wc_CK_multiplyFactors) (by decide) 0 rfl rfl rfl [0, 1] [2] ⟨rfl, rfl, by decide, by decide, by decide⟩ ⟨⟨Nat.le_of_ble_eq_true rfl, Nat.le_of_ble_eq_true rfl⟩, rfl, rfl, Nat.le_of_ble_eq_true rfl, Nat.le_of_ble_eq_true rfl⟩ rfl hl.1 rfl (Nat.le_of_ble_eq_true rfl) dd_CK_write_2 (fun f_1 H locs hp hP hD hS => ?_)
  have hP : va_P g.1 vwCl [oc_i g rw 928 f, oc_o h 2 [.ref q], oc_i g q 513 f_1] H := hP
  have hD : va_D A [oc_i g rw 928 f, oc_o h 2 [.ref q], oc_i g q 513 f_1] := hD
  refine lv_aload_n hx hb dd_CK_write_5 rfl (lv_at hl 0 rfl) ?_
  refine lv_aload_n hx hb dd_CK_write_6 rfl (lv_at hl 1 rfl) ?_
  refine lv_iload_n hx hb dd_CK_write_7 rfl (lv_at hl 2 rfl) ?_
  refine lv_iload_n hx hb dd_CK_write_8 rfl (lv_at hl 3 rfl) ?_
  refine xc_Vv (wr := []) (k1 := 0) (k2 := 0) (As := [.ref rw, .int (nI nn), .int (nI K)]) (rest := []) (k := 3) hF hP hD hS (ct_ck_div l g h q rw nn K f f_1 (by omega) (by omega) (by omega)) (xt_V ml_CK_19 wi_CK_divide wx_CK_divide wn_CK wc_CK_divide) (by decide) 1 rfl rfl rfl [1, 2, 0] [] ⟨rfl, rfl, by decide, by decide, by decide⟩ ⟨⟨Nat.le_of_ble_eq_true rfl, Nat.le_of_ble_eq_true rfl⟩, rfl, rfl, Nat.le_of_ble_eq_true rfl, Nat.le_of_ble_eq_true rfl⟩ rfl hl.1 rfl (Nat.le_of_ble_eq_true rfl) dd_CK_write_9 (fun f_3 H locs hp hP hD hS => ?_)
  have hP : va_P g.1 vwCl [oc_o h 2 [.ref q], oc_i g q 513 f_1, oc_i g rw 928 f_3] H := hP
  have hD : va_D A [oc_o h 2 [.ref q], oc_i g q 513 f_1, oc_i g rw 928 f_3] := hD
  refine lv_iload_n hx hb dd_CK_write_12 rfl (lv_at hl 2 rfl) ?_
  refine lv_iload_n hx hb dd_CK_write_13 rfl (lv_at hl 3 rfl) ?_
  refine xi_isub hx hb (by omega) dd_CK_write_14 ?_
  refine lv_istore (lv' := [(4, .int (nI (nn - K))), (0, .ref h), (1, .ref rw), (2, .int (nI nn)), (3, .int (nI K))]) hx hb dd_CK_write_15 hl (by decide) rfl (fun ls hl => ?_)
  have lp_5 : ∀ (n5 : Nat) (i : Nat) (f : Nat → Int32) (f0 : Nat → Int32) (H : Heap) (locs : List Loc) (ls : Array Slot), nn - i = n5 → (i ≤ nn) → lv_has ls 5 [(0, .ref h), (1, .ref rw), (2, .int (nI nn)), (3, .int (nI K)), (4, .int (nI i))] → va_P g.1 vwCl [oc_o h 2 [.ref q], oc_i g q 513 f0, oc_i g rw 928 f] H → va_D A [oc_o h 2 [.ref q], oc_i g q 513 f0, oc_i g rw 928 f] → va_S A s.heap H locs → W p l e { frames := 2, cells := 0, slots := 0, locals := 46 } s m args below meth c H locs 0 0 Q (F0 m 17 ls []) := by
    intro n5
    induction n5 using Nat.strongRecOn with
    | _ n5 ih5 =>
    intro i f f0 H locs ls hmn5 qi hl hP hD hS
    refine lv_iload hx hb dd_CK_write_17 (lv_at hl 4 rfl) ?_
    refine lv_iload_n hx hb dd_CK_write_19 rfl (lv_at hl 2 rfl) ?_
    refine xb_ge (tgt := 40) hx hb (by omega) (by omega) dd_CK_write_20 rfl (fun h_6 => ?_) (fun h_6 => ?_)
    · exact xr_v hx hb hr hlk hQ hP hD hS (f, f0) trivial [0, 1, 2] (by decide) rfl (Nat.le_of_ble_eq_true rfl) (Nat.le_of_ble_eq_true rfl) dd_CK_write_40
    · refine lv_aload_n hx hb dd_CK_write_23 rfl (lv_at hl 1 rfl) ?_
      refine lv_iload hx hb dd_CK_write_24 (lv_at hl 4 rfl) ?_
      refine lv_aload_n hx hb dd_CK_write_26 rfl (lv_at hl 1 rfl) ?_
      refine lv_iload hx hb dd_CK_write_27 (lv_at hl 4 rfl) ?_
      refine xa_ld hx hb hK hP 2 rfl (j := i) (by omega) (by omega) dd_CK_write_29 ?_
      refine xc_SNi (wr := [oc_o h 2 [.ref q], oc_i g q 513 f0, oc_i g rw 928 f]) (k1 := 0) (k2 := 0) (As := [.int (f i)]) (rest := [.int (nI i), .ref rw]) (k := 1) hF hP hD hS (ct_neg l g (f i)) wc_SR_negative wn_SR hE.2.2.2.1 wz_SR_negative (by decide) [] [0, 1, 2] ⟨rfl, rfl, by decide, by decide, by decide⟩ ⟨⟨Nat.le_of_ble_eq_true rfl, Nat.le_of_ble_eq_true rfl⟩, rfl, rfl, Nat.le_of_ble_eq_true rfl, Nat.le_of_ble_eq_true rfl⟩ rfl hl.1 rfl (Nat.le_of_ble_eq_true rfl) dd_CK_write_30 (fun r_7 u H locs hp hP hD hS => ?_)
      have hP : va_P g.1 vwCl [oc_o h 2 [.ref q], oc_i g q 513 f0, oc_i g rw 928 f] H := hP
      have hD : va_D A [oc_o h 2 [.ref q], oc_i g q 513 f0, oc_i g rw 928 f] := hD
      refine xa_st hx hb hK hP hD hS 2 rfl (j := i) (by omega) (by omega) dd_CK_write_33 (fun f_8 H locs hP hD hS => ?_)
      have hP : va_P g.1 vwCl [oc_o h 2 [.ref q], oc_i g q 513 f0, oc_i g rw 928 f_8] H := hP
      have hD : va_D A [oc_o h 2 [.ref q], oc_i g q 513 f0, oc_i g rw 928 f_8] := hD
      refine lv_iinc (k := 4) (lv' := [(4, .int (nI (i + 1))), (0, .ref h), (1, .ref rw), (2, .int (nI nn)), (3, .int (nI K))]) hx hb dd_CK_write_34 hl rfl (xi_inc _) (by decide) rfl (fun ls hl => ?_)
      refine lv_goto (tgt := 17) hx hb dd_CK_write_37 rfl ?_
      exact ih5 _ (by omega) (i + 1) f_8 f0 H locs ls rfl (by omega) (lv_sub hl [1, 2, 3, 4, 0] rfl) (hP.sub [0, 1, 2] rfl) (hD.sub [0, 1, 2] (by decide) rfl) hS
  exact lp_5 _ (nn - K) f_3 f_1 H locs ls rfl (by omega) (lv_sub hl [1, 2, 3, 4, 0] rfl) (hP.sub [0, 1, 2] rfl) (hD.sub [0, 1, 2] (by decide) rfl) hS
