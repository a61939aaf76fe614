abbrev rm_MM_layNumber : Room := { frames := 0, cells := 0, slots := 0, locals := 0 }
set_option maxHeartbeats 4000000 in
set_option maxRecDepth 100000 in
theorem c_MM_layNumber (l : Launch) (g : gG) (sz : Nat) (h0 : Nat) (t0 : Nat) (n0 : Nat) (f0 : Nat → Int32) (v0 : Int32) (x2 : Value) (x3 : Value) (x4 : Value) (x5 : Value) (x6 : Value) (hn : n0 + 4 ≤ 16384) : Cv l y_MM_layNumber b_MM_layNumber 3 rm_MM_layNumber g [.ref h0, .int v0] [(h0, .inr (0, [.ref t0, .int (nI n0), x2, x3, x4, x5, x6])), (t0, .inl (g.2 0, 16384, .inl f0))] sz (fun w => w = [(h0, .inr (0, [.ref t0, .int (nI (n0 + 4)), x2, x3, x4, x5, x6])), (t0, .inl (g.2 0, 16384, .inl (upd (upd (upd (upd f0 ((nI n0 : Int32).toNatClampNeg) (vp_nar .byte ((v0 >>> (24 &&& 31)).toInt8.toInt32))) ((nI (n0 + 1) : Int32).toNatClampNeg) (vp_nar .byte ((v0 >>> (16 &&& 31)).toInt8.toInt32))) ((nI (n0 + 2) : Int32).toNatClampNeg) (vp_nar .byte ((v0 >>> (8 &&& 31)).toInt8.toInt32))) ((nI (n0 + 3) : Int32).toNatClampNeg) (vp_nar .byte ((v0 >>> (0 &&& 31)).toInt8.toInt32)))))]) := by
  refine startV (by decide) (Nat.le_of_ble_eq_true rfl) ?_
  intro p e s m below meth c A ls hx hb hr hml hlocks hmn hown htt hN hA hP hK hD hS hl
  have hown : s.vm.findClass "MacroMill" = some m.cls := hown
  have hl : lv_has ls 3 [(0, .ref h0), (1, .int v0)] := hl
  refine lv_bipush (v := 24) hx hb d_MM_layNumber_0 (by decide) ?_
  refine lv_istore_n (lv' := [(2, .int 24), (0, .ref h0), (1, .int v0)]) hx hb d_MM_layNumber_2 rfl hl (by decide) rfl (fun ls hl => ?_)
  refine lv_iload_n hx hb d_MM_layNumber_3 rfl (lv_at hl 0 rfl) ?_
  refine lv_if_lt (tgt := 36) hx hb d_MM_layNumber_4 (by decide) (fun h9 => absurd h9 (by decide)) (fun _ => ?_)
  refine lv_aload_n hx hb d_MM_layNumber_7 rfl (lv_at hl 1 rfl) ?_
  refine va_get (D := g.1) (ci := 0) (v := .ref t0) (C := "MacroMill") (T := F_MM) (N := 7) hx hb htt in_MM hown hK hP 0 rfl rfl 0 (by decide) (htt _ k_204) (fun _ h9 => h9) rfl d_MM_layNumber_8 ?_
  refine lv_aload_n hx hb d_MM_layNumber_11 rfl (lv_at hl 1 rfl) ?_
  refine va_get (D := g.1) (ci := 0) (v := .int (nI n0)) (C := "MacroMill") (T := F_MM) (N := 7) hx hb htt in_MM hown hK hP 0 rfl rfl 1 (by decide) (htt _ k_315) (fun _ h9 => h9) rfl d_MM_layNumber_12 ?_
  refine lv_iload_n hx hb d_MM_layNumber_15 rfl (lv_at hl 2 rfl) ?_
  refine lv_iload_n hx hb d_MM_layNumber_16 rfl (lv_at hl 0 rfl) ?_
  refine lv_ishr hx hb d_MM_layNumber_17 ?_
  show W _ _ _ _ _ _ _ _ _ _ _ _ _ _ _ (F0 _ 18 _ _)
  refine lv_i2b (v := (v0 >>> (24 &&& 31)).toInt8.toInt32) hx hb d_MM_layNumber_18 rfl ?_
  refine va_bast (i := nI n0) (x := (v0 >>> (24 &&& 31)).toInt8.toInt32) hx hb hK hP hD hS 1 0 rfl rfl (vp_in_nI (by omega) (by decide)) d_MM_layNumber_19 (fun H locs hP hD hS => ?_)
  have hP : va_P g.1 classes [(h0, .inr (0, [.ref t0, .int (nI n0), x2, x3, x4, x5, x6])), (t0, .inl (g.2 0, 16384, .inl (upd f0 ((nI n0 : Int32).toNatClampNeg) (vp_nar .byte ((v0 >>> (24 &&& 31)).toInt8.toInt32)))))] H := hP
  have hD : va_D A [(h0, .inr (0, [.ref t0, .int (nI n0), x2, x3, x4, x5, x6])), (t0, .inl (g.2 0, 16384, .inl (upd f0 ((nI n0 : Int32).toNatClampNeg) (vp_nar .byte ((v0 >>> (24 &&& 31)).toInt8.toInt32)))))] := hD
  refine lv_aload_n hx hb d_MM_layNumber_20 rfl (lv_at hl 1 rfl) ?_
  refine lv_dup hx hb d_MM_layNumber_21 rfl ?_
  refine va_get (D := g.1) (ci := 0) (v := .int (nI n0)) (C := "MacroMill") (T := F_MM) (N := 7) hx hb htt in_MM hown hK hP 0 rfl rfl 1 (by decide) (htt _ k_315) (fun _ h9 => h9) rfl d_MM_layNumber_22 ?_
  refine lv_iconst (v := 1) hx hb d_MM_layNumber_25 (by decide) ?_
  refine lv_iadd hx hb d_MM_layNumber_26 ?_
  refine toI (y := nI (n0 + 1)) (nI_1 n0) ?_
  refine va_put (D := g.1) (ci := 0) (v := .int (nI (n0 + 1))) (ty := t_MM 1) (C := "MacroMill") (T := F_MM) (N := 7) hx hb htt in_MM t_MM t_MM_ok n_MM hown hK hP hD hS 0 rfl rfl 1 (by decide) (htt _ k_315) (fun _ h9 => h9) rfl (t_MM_ok 1 (by decide)) rfl rfl (Nat.le_of_ble_eq_true rfl) d_MM_layNumber_27 (fun H locs hP hD hS => ?_)
  have hP : va_P g.1 classes [(h0, .inr (0, [.ref t0, .int (nI (n0 + 1)), x2, x3, x4, x5, x6])), (t0, .inl (g.2 0, 16384, .inl (upd f0 ((nI n0 : Int32).toNatClampNeg) (vp_nar .byte ((v0 >>> (24 &&& 31)).toInt8.toInt32)))))] H := hP
  have hD : va_D A [(h0, .inr (0, [.ref t0, .int (nI (n0 + 1)), x2, x3, x4, x5, x6])), (t0, .inl (g.2 0, 16384, .inl (upd f0 ((nI n0 : Int32).toNatClampNeg) (vp_nar .byte ((v0 >>> (24 &&& 31)).toInt8.toInt32)))))] := hD
  refine lv_iinc (k := 0) (v := 16) (lv' := [(2, .int 16), (0, .ref h0), (1, .int v0)]) hx hb d_MM_layNumber_30 hl rfl (by decide) (by decide) rfl (fun ls hl => ?_)
  refine lv_goto (tgt := 3) hx hb d_MM_layNumber_33 (by decide) ?_
  refine lv_iload_n hx hb d_MM_layNumber_3 rfl (lv_at hl 0 rfl) ?_
  refine lv_if_lt (tgt := 36) hx hb d_MM_layNumber_4 (by decide) (fun h9 => absurd h9 (by decide)) (fun _ => ?_)
  show W _ _ _ _ _ _ _ _ _ _ _ _ _ _ _ (F0 _ 7 _ _)
  refine lv_aload_n hx hb d_MM_layNumber_7 rfl (lv_at hl 1 rfl) ?_
  refine va_get (D := g.1) (ci := 0) (v := .ref t0) (C := "MacroMill") (T := F_MM) (N := 7) hx hb htt in_MM hown hK hP 0 rfl rfl 0 (by decide) (htt _ k_204) (fun _ h9 => h9) rfl d_MM_layNumber_8 ?_
  refine lv_aload_n hx hb d_MM_layNumber_11 rfl (lv_at hl 1 rfl) ?_
  refine va_get (D := g.1) (ci := 0) (v := .int (nI (n0 + 1))) (C := "MacroMill") (T := F_MM) (N := 7) hx hb htt in_MM hown hK hP 0 rfl rfl 1 (by decide) (htt _ k_315) (fun _ h9 => h9) rfl d_MM_layNumber_12 ?_
  refine lv_iload_n hx hb d_MM_layNumber_15 rfl (lv_at hl 2 rfl) ?_
  refine lv_iload_n hx hb d_MM_layNumber_16 rfl (lv_at hl 0 rfl) ?_
  refine lv_ishr hx hb d_MM_layNumber_17 ?_
  refine lv_i2b (v := (v0 >>> (16 &&& 31)).toInt8.toInt32) hx hb d_MM_layNumber_18 rfl ?_
  refine va_bast (i := nI (n0 + 1)) (x := (v0 >>> (16 &&& 31)).toInt8.toInt32) hx hb hK hP hD hS 1 0 rfl rfl (vp_in_nI (by omega) (by decide)) d_MM_layNumber_19 (fun H locs hP hD hS => ?_)
  have hP : va_P g.1 classes [(h0, .inr (0, [.ref t0, .int (nI (n0 + 1)), x2, x3, x4, x5, x6])), (t0, .inl (g.2 0, 16384, .inl (upd (upd f0 ((nI n0 : Int32).toNatClampNeg) (vp_nar .byte ((v0 >>> (24 &&& 31)).toInt8.toInt32))) ((nI (n0 + 1) : Int32).toNatClampNeg) (vp_nar .byte ((v0 >>> (16 &&& 31)).toInt8.toInt32)))))] H := hP
  have hD : va_D A [(h0, .inr (0, [.ref t0, .int (nI (n0 + 1)), x2, x3, x4, x5, x6])), (t0, .inl (g.2 0, 16384, .inl (upd (upd f0 ((nI n0 : Int32).toNatClampNeg) (vp_nar .byte ((v0 >>> (24 &&& 31)).toInt8.toInt32))) ((nI (n0 + 1) : Int32).toNatClampNeg) (vp_nar .byte ((v0 >>> (16 &&& 31)).toInt8.toInt32)))))] := hD
  refine lv_aload_n hx hb d_MM_layNumber_20 rfl (lv_at hl 1 rfl) ?_
  refine lv_dup hx hb d_MM_layNumber_21 rfl ?_
  refine va_get (D := g.1) (ci := 0) (v := .int (nI (n0 + 1))) (C := "MacroMill") (T := F_MM) (N := 7) hx hb htt in_MM hown hK hP 0 rfl rfl 1 (by decide) (htt _ k_315) (fun _ h9 => h9) rfl d_MM_layNumber_22 ?_
  show W _ _ _ _ _ _ _ _ _ _ _ _ _ _ _ (F0 _ 25 _ _)
  refine lv_iconst (v := 1) hx hb d_MM_layNumber_25 (by decide) ?_
  refine lv_iadd hx hb d_MM_layNumber_26 ?_
  refine toI (y := nI (n0 + 2)) (nI_1 (n0 + 1)) ?_
  refine va_put (D := g.1) (ci := 0) (v := .int (nI (n0 + 2))) (ty := t_MM 1) (C := "MacroMill") (T := F_MM) (N := 7) hx hb htt in_MM t_MM t_MM_ok n_MM hown hK hP hD hS 0 rfl rfl 1 (by decide) (htt _ k_315) (fun _ h9 => h9) rfl (t_MM_ok 1 (by decide)) rfl rfl (Nat.le_of_ble_eq_true rfl) d_MM_layNumber_27 (fun H locs hP hD hS => ?_)
  have hP : va_P g.1 classes [(h0, .inr (0, [.ref t0, .int (nI (n0 + 2)), x2, x3, x4, x5, x6])), (t0, .inl (g.2 0, 16384, .inl (upd (upd f0 ((nI n0 : Int32).toNatClampNeg) (vp_nar .byte ((v0 >>> (24 &&& 31)).toInt8.toInt32))) ((nI (n0 + 1) : Int32).toNatClampNeg) (vp_nar .byte ((v0 >>> (16 &&& 31)).toInt8.toInt32)))))] H := hP
  have hD : va_D A [(h0, .inr (0, [.ref t0, .int (nI (n0 + 2)), x2, x3, x4, x5, x6])), (t0, .inl (g.2 0, 16384, .inl (upd (upd f0 ((nI n0 : Int32).toNatClampNeg) (vp_nar .byte ((v0 >>> (24 &&& 31)).toInt8.toInt32))) ((nI (n0 + 1) : Int32).toNatClampNeg) (vp_nar .byte ((v0 >>> (16 &&& 31)).toInt8.toInt32)))))] := hD
  refine lv_iinc (k := 0) (v := 8) (lv' := [(2, .int 8), (0, .ref h0), (1, .int v0)]) hx hb d_MM_layNumber_30 hl rfl (by decide) (by decide) rfl (fun ls hl => ?_)
  refine lv_goto (tgt := 3) hx hb d_MM_layNumber_33 (by decide) ?_
  refine lv_iload_n hx hb d_MM_layNumber_3 rfl (lv_at hl 0 rfl) ?_
  refine lv_if_lt (tgt := 36) hx hb d_MM_layNumber_4 (by decide) (fun h9 => absurd h9 (by decide)) (fun _ => ?_)
  refine lv_aload_n hx hb d_MM_layNumber_7 rfl (lv_at hl 1 rfl) ?_
  refine va_get (D := g.1) (ci := 0) (v := .ref t0) (C := "MacroMill") (T := F_MM) (N := 7) hx hb htt in_MM hown hK hP 0 rfl rfl 0 (by decide) (htt _ k_204) (fun _ h9 => h9) rfl d_MM_layNumber_8 ?_
  refine lv_aload_n hx hb d_MM_layNumber_11 rfl (lv_at hl 1 rfl) ?_
  refine va_get (D := g.1) (ci := 0) (v := .int (nI (n0 + 2))) (C := "MacroMill") (T := F_MM) (N := 7) hx hb htt in_MM hown hK hP 0 rfl rfl 1 (by decide) (htt _ k_315) (fun _ h9 => h9) rfl d_MM_layNumber_12 ?_
  refine lv_iload_n hx hb d_MM_layNumber_15 rfl (lv_at hl 2 rfl) ?_
  show W _ _ _ _ _ _ _ _ _ _ _ _ _ _ _ (F0 _ 16 _ _)
  refine lv_iload_n hx hb d_MM_layNumber_16 rfl (lv_at hl 0 rfl) ?_
  refine lv_ishr hx hb d_MM_layNumber_17 ?_
  refine lv_i2b (v := (v0 >>> (8 &&& 31)).toInt8.toInt32) hx hb d_MM_layNumber_18 rfl ?_
  refine va_bast (i := nI (n0 + 2)) (x := (v0 >>> (8 &&& 31)).toInt8.toInt32) hx hb hK hP hD hS 1 0 rfl rfl (vp_in_nI (by omega) (by decide)) d_MM_layNumber_19 (fun H locs hP hD hS => ?_)
  have hP : va_P g.1 classes [(h0, .inr (0, [.ref t0, .int (nI (n0 + 2)), x2, x3, x4, x5, x6])), (t0, .inl (g.2 0, 16384, .inl (upd (upd (upd f0 ((nI n0 : Int32).toNatClampNeg) (vp_nar .byte ((v0 >>> (24 &&& 31)).toInt8.toInt32))) ((nI (n0 + 1) : Int32).toNatClampNeg) (vp_nar .byte ((v0 >>> (16 &&& 31)).toInt8.toInt32))) ((nI (n0 + 2) : Int32).toNatClampNeg) (vp_nar .byte ((v0 >>> (8 &&& 31)).toInt8.toInt32)))))] H := hP
  have hD : va_D A [(h0, .inr (0, [.ref t0, .int (nI (n0 + 2)), x2, x3, x4, x5, x6])), (t0, .inl (g.2 0, 16384, .inl (upd (upd (upd f0 ((nI n0 : Int32).toNatClampNeg) (vp_nar .byte ((v0 >>> (24 &&& 31)).toInt8.toInt32))) ((nI (n0 + 1) : Int32).toNatClampNeg) (vp_nar .byte ((v0 >>> (16 &&& 31)).toInt8.toInt32))) ((nI (n0 + 2) : Int32).toNatClampNeg) (vp_nar .byte ((v0 >>> (8 &&& 31)).toInt8.toInt32)))))] := hD
  refine lv_aload_n hx hb d_MM_layNumber_20 rfl (lv_at hl 1 rfl) ?_
  refine lv_dup hx hb d_MM_layNumber_21 rfl ?_
  refine va_get (D := g.1) (ci := 0) (v := .int (nI (n0 + 2))) (C := "MacroMill") (T := F_MM) (N := 7) hx hb htt in_MM hown hK hP 0 rfl rfl 1 (by decide) (htt _ k_315) (fun _ h9 => h9) rfl d_MM_layNumber_22 ?_
  refine lv_iconst (v := 1) hx hb d_MM_layNumber_25 (by decide) ?_
  refine lv_iadd hx hb d_MM_layNumber_26 ?_
  refine toI (y := nI (n0 + 3)) (nI_1 (n0 + 2)) ?_
  refine va_put (D := g.1) (ci := 0) (v := .int (nI (n0 + 3))) (ty := t_MM 1) (C := "MacroMill") (T := F_MM) (N := 7) hx hb htt in_MM t_MM t_MM_ok n_MM hown hK hP hD hS 0 rfl rfl 1 (by decide) (htt _ k_315) (fun _ h9 => h9) rfl (t_MM_ok 1 (by decide)) rfl rfl (Nat.le_of_ble_eq_true rfl) d_MM_layNumber_27 (fun H locs hP hD hS => ?_)
  have hP : va_P g.1 classes [(h0, .inr (0, [.ref t0, .int (nI (n0 + 3)), x2, x3, x4, x5, x6])), (t0, .inl (g.2 0, 16384, .inl (upd (upd (upd f0 ((nI n0 : Int32).toNatClampNeg) (vp_nar .byte ((v0 >>> (24 &&& 31)).toInt8.toInt32))) ((nI (n0 + 1) : Int32).toNatClampNeg) (vp_nar .byte ((v0 >>> (16 &&& 31)).toInt8.toInt32))) ((nI (n0 + 2) : Int32).toNatClampNeg) (vp_nar .byte ((v0 >>> (8 &&& 31)).toInt8.toInt32)))))] H := hP
  have hD : va_D A [(h0, .inr (0, [.ref t0, .int (nI (n0 + 3)), x2, x3, x4, x5, x6])), (t0, .inl (g.2 0, 16384, .inl (upd (upd (upd f0 ((nI n0 : Int32).toNatClampNeg) (vp_nar .byte ((v0 >>> (24 &&& 31)).toInt8.toInt32))) ((nI (n0 + 1) : Int32).toNatClampNeg) (vp_nar .byte ((v0 >>> (16 &&& 31)).toInt8.toInt32))) ((nI (n0 + 2) : Int32).toNatClampNeg) (vp_nar .byte ((v0 >>> (8 &&& 31)).toInt8.toInt32)))))] := hD
  refine lv_iinc (k := 0) (v := 0) (lv' := [(2, .int 0), (0, .ref h0), (1, .int v0)]) hx hb d_MM_layNumber_30 hl rfl (by decide) (by decide) rfl (fun ls hl => ?_)
  refine lv_goto (tgt := 3) hx hb d_MM_layNumber_33 (by decide) ?_
  show W _ _ _ _ _ _ _ _ _ _ _ _ _ _ _ (F0 _ 3 _ _)
  refine lv_iload_n hx hb d_MM_layNumber_3 rfl (lv_at hl 0 rfl) ?_
  refine lv_if_lt (tgt := 36) hx hb d_MM_layNumber_4 (by decide) (fun h9 => absurd h9 (by decide)) (fun _ => ?_)
  refine lv_aload_n hx hb d_MM_layNumber_7 rfl (lv_at hl 1 rfl) ?_
  refine va_get (D := g.1) (ci := 0) (v := .ref t0) (C := "MacroMill") (T := F_MM) (N := 7) hx hb htt in_MM hown hK hP 0 rfl rfl 0 (by decide) (htt _ k_204) (fun _ h9 => h9) rfl d_MM_layNumber_8 ?_
  refine lv_aload_n hx hb d_MM_layNumber_11 rfl (lv_at hl 1 rfl) ?_
  refine va_get (D := g.1) (ci := 0) (v := .int (nI (n0 + 3))) (C := "MacroMill") (T := F_MM) (N := 7) hx hb htt in_MM hown hK hP 0 rfl rfl 1 (by decide) (htt _ k_315) (fun _ h9 => h9) rfl d_MM_layNumber_12 ?_
  refine lv_iload_n hx hb d_MM_layNumber_15 rfl (lv_at hl 2 rfl) ?_
  refine lv_iload_n hx hb d_MM_layNumber_16 rfl (lv_at hl 0 rfl) ?_
  refine lv_ishr hx hb d_MM_layNumber_17 ?_
  refine lv_i2b (v := (v0 >>> (0 &&& 31)).toInt8.toInt32) hx hb d_MM_layNumber_18 rfl ?_
  refine va_bast (i := nI (n0 + 3)) (x := (v0 >>> (0 &&& 31)).toInt8.toInt32) hx hb hK hP hD hS 1 0 rfl rfl (vp_in_nI (by omega) (by decide)) d_MM_layNumber_19 (fun H locs hP hD hS => ?_)
  have hP : va_P g.1 classes [(h0, .inr (0, [.ref t0, .int (nI (n0 + 3)), x2, x3, x4, x5, x6])), (t0, .inl (g.2 0, 16384, .inl (upd (upd (upd (upd f0 ((nI n0 : Int32).toNatClampNeg) (vp_nar .byte ((v0 >>> (24 &&& 31)).toInt8.toInt32))) ((nI (n0 + 1) : Int32).toNatClampNeg) (vp_nar .byte ((v0 >>> (16 &&& 31)).toInt8.toInt32))) ((nI (n0 + 2) : Int32).toNatClampNeg) (vp_nar .byte ((v0 >>> (8 &&& 31)).toInt8.toInt32))) ((nI (n0 + 3) : Int32).toNatClampNeg) (vp_nar .byte ((v0 >>> (0 &&& 31)).toInt8.toInt32)))))] H := hP
  have hD : va_D A [(h0, .inr (0, [.ref t0, .int (nI (n0 + 3)), x2, x3, x4, x5, x6])), (t0, .inl (g.2 0, 16384, .inl (upd (upd (upd (upd f0 ((nI n0 : Int32).toNatClampNeg) (vp_nar .byte ((v0 >>> (24 &&& 31)).toInt8.toInt32))) ((nI (n0 + 1) : Int32).toNatClampNeg) (vp_nar .byte ((v0 >>> (16 &&& 31)).toInt8.toInt32))) ((nI (n0 + 2) : Int32).toNatClampNeg) (vp_nar .byte ((v0 >>> (8 &&& 31)).toInt8.toInt32))) ((nI (n0 + 3) : Int32).toNatClampNeg) (vp_nar .byte ((v0 >>> (0 &&& 31)).toInt8.toInt32)))))] := hD
  refine lv_aload_n hx hb d_MM_layNumber_20 rfl (lv_at hl 1 rfl) ?_
  show W _ _ _ _ _ _ _ _ _ _ _ _ _ _ _ (F0 _ 21 _ _)
  refine lv_dup hx hb d_MM_layNumber_21 rfl ?_
  refine va_get (D := g.1) (ci := 0) (v := .int (nI (n0 + 3))) (C := "MacroMill") (T := F_MM) (N := 7) hx hb htt in_MM hown hK hP 0 rfl rfl 1 (by decide) (htt _ k_315) (fun _ h9 => h9) rfl d_MM_layNumber_22 ?_
  refine lv_iconst (v := 1) hx hb d_MM_layNumber_25 (by decide) ?_
  refine lv_iadd hx hb d_MM_layNumber_26 ?_
  refine toI (y := nI (n0 + 4)) (nI_1 (n0 + 3)) ?_
  refine va_put (D := g.1) (ci := 0) (v := .int (nI (n0 + 4))) (ty := t_MM 1) (C := "MacroMill") (T := F_MM) (N := 7) hx hb htt in_MM t_MM t_MM_ok n_MM hown hK hP hD hS 0 rfl rfl 1 (by decide) (htt _ k_315) (fun _ h9 => h9) rfl (t_MM_ok 1 (by decide)) rfl rfl (Nat.le_of_ble_eq_true rfl) d_MM_layNumber_27 (fun H locs hP hD hS => ?_)
  have hP : va_P g.1 classes [(h0, .inr (0, [.ref t0, .int (nI (n0 + 4)), x2, x3, x4, x5, x6])), (t0, .inl (g.2 0, 16384, .inl (upd (upd (upd (upd f0 ((nI n0 : Int32).toNatClampNeg) (vp_nar .byte ((v0 >>> (24 &&& 31)).toInt8.toInt32))) ((nI (n0 + 1) : Int32).toNatClampNeg) (vp_nar .byte ((v0 >>> (16 &&& 31)).toInt8.toInt32))) ((nI (n0 + 2) : Int32).toNatClampNeg) (vp_nar .byte ((v0 >>> (8 &&& 31)).toInt8.toInt32))) ((nI (n0 + 3) : Int32).toNatClampNeg) (vp_nar .byte ((v0 >>> (0 &&& 31)).toInt8.toInt32)))))] H := hP
  have hD : va_D A [(h0, .inr (0, [.ref t0, .int (nI (n0 + 4)), x2, x3, x4, x5, x6])), (t0, .inl (g.2 0, 16384, .inl (upd (upd (upd (upd f0 ((nI n0 : Int32).toNatClampNeg) (vp_nar .byte ((v0 >>> (24 &&& 31)).toInt8.toInt32))) ((nI (n0 + 1) : Int32).toNatClampNeg) (vp_nar .byte ((v0 >>> (16 &&& 31)).toInt8.toInt32))) ((nI (n0 + 2) : Int32).toNatClampNeg) (vp_nar .byte ((v0 >>> (8 &&& 31)).toInt8.toInt32))) ((nI (n0 + 3) : Int32).toNatClampNeg) (vp_nar .byte ((v0 >>> (0 &&& 31)).toInt8.toInt32)))))] := hD
  refine lv_iinc (k := 0) (v := (-8)) (lv' := [(2, .int (-8)), (0, .ref h0), (1, .int v0)]) hx hb d_MM_layNumber_30 hl rfl (by decide) (by decide) rfl (fun ls hl => ?_)
  refine lv_goto (tgt := 3) hx hb d_MM_layNumber_33 (by decide) ?_
  refine lv_iload_n hx hb d_MM_layNumber_3 rfl (lv_at hl 0 rfl) ?_
  refine lv_if_lt (tgt := 36) hx hb d_MM_layNumber_4 (by decide) (fun _ => ?_) (fun h9 => absurd (by decide) h9)
  exact fin_v (g := g) (ws := [(h0, .inr (0, [.ref t0, .int (nI (n0 + 4)), x2, x3, x4, x5, x6])), (t0, .inl (g.2 0, 16384, .inl (upd (upd (upd (upd f0 ((nI n0 : Int32).toNatClampNeg) (vp_nar .byte ((v0 >>> (24 &&& 31)).toInt8.toInt32))) ((nI (n0 + 1) : Int32).toNatClampNeg) (vp_nar .byte ((v0 >>> (16 &&& 31)).toInt8.toInt32))) ((nI (n0 + 2) : Int32).toNatClampNeg) (vp_nar .byte ((v0 >>> (8 &&& 31)).toInt8.toInt32))) ((nI (n0 + 3) : Int32).toNatClampNeg) (vp_nar .byte ((v0 >>> (0 &&& 31)).toInt8.toInt32)))))]) hx hb hr hlocks (by decide +kernel) (by decide +kernel) hP hD hS rfl d_MM_layNumber_36
abbrev rm_MM_feed : Room := { frames := 1, cells := 0, slots := 0, locals := 22 }
set_option maxHeartbeats 4000000 in
set_option maxRecDepth 100000 in
theorem c_MM_feed (l : Launch) (g : gG) (sz : Nat) (h0 : Nat) (t0 : Nat) (n0 : Nat) (f0 : Nat → Int32) (v1 : Int32) (v2 : Int32) (v3 : Int32) (v4 : Int32) (v5 : Int32) (x2 : Value) (x3 : Value) (x4 : Value) (x5 : Value) (x6 : Value) (hn : n0 + 20 ≤ 16384) : Ci l y_MM_feed b_MM_feed 6 rm_MM_feed g [.ref h0, .int v1, .int v2, .int v3, .int v4, .int v5] [(h0, .inr (0, [.ref t0, .int (nI n0), x2, x3, x4, x5, x6])), (t0, .inl (g.2 0, 16384, .inl f0))] sz (fun r _ => r = nI (n0 + 4 + 4 + 4 + 4 + 4)) := by
  refine startI (by decide) (Nat.le_of_ble_eq_true rfl) ?_
  intro p e s m below meth c A ls hx hb hr hml hlocks hmn hown htt hN hA hP hK hD hS hl
  have hown : s.vm.findClass "MacroMill" = some m.cls := hown
  have hl : lv_has ls 6 [(0, .ref h0), (1, .int v1), (2, .int v2), (3, .int v3), (4, .int v4), (5, .int v5)] := hl
  refine lv_aload_n hx hb d_MM_feed_0 rfl (lv_at hl 0 rfl) ?_
  refine va_get (D := g.1) (ci := 0) (v := .int (nI n0)) (C := "MacroMill") (T := F_MM) (N := 7) hx hb htt in_MM hown hK hP 0 rfl rfl 1 (by decide) (htt _ k_315) (fun _ h9 => h9) rfl d_MM_feed_1 ?_
  refine lv_bipush (v := 20) hx hb d_MM_feed_4 (by decide) ?_
  refine lv_iadd hx hb d_MM_feed_6 ?_
  refine toI (y := nI (n0 + 20)) (nI_add n0 20) ?_
  refine lv_sipush (v := 16384) hx hb d_MM_feed_7 (by decide) ?_
  refine lv_icmp_le (tgt := 16) hx hb d_MM_feed_10 (by decide) (fun _ => ?_) (fun h9 => absurd (nI_le (b := 16384) hn (by decide)) h9)
  refine lv_aload_n hx hb d_MM_feed_16 rfl (lv_at hl 0 rfl) ?_
  refine lv_iload_n hx hb d_MM_feed_17 rfl (lv_at hl 1 rfl) ?_
  refine go_v (As := [.ref h0, .int v1]) (g := g) (A := A) (wc := [(h0, .inr (0, [.ref t0, .int (nI n0), x2, x3, x4, x5, x6])), (t0, .inl (g.2 0, 16384, .inl f0))]) (wr := []) [0, 1] [] rfl rfl rfl rfl (by decide) hP hK hD hS hA hN (fun hp => va_runV (As := [.int v1]) (rest := []) ⟨hx, hb, hml, hown, htt⟩ (c_MM_layNumber l g _ h0 t0 n0 f0 (v1) (x2) (x3) (x4) (x5) (x6) (by omega)) ⟨(cb_L htt k_316 k_317 k_318 hd_MM_layNumber ⟨(by decide +kernel), (by decide +kernel)⟩), htt _ k_319, htt _ k_320⟩ ⟨hp.1, va_recv hK hP (ci := 0) (q0 := 0) rfl rfl, hp.2⟩ rfl rfl hl.1 rfl (lv_room (Nat.le_of_ble_eq_true rfl)) d_MM_feed_18 ⟨(by decide +kernel), (by decide +kernel)⟩) (fun w9 H locs hw9 hP hD hS => ?_)
  obtain rfl := hw9
  refine W.widen (k := 0) (n := 0) (by decide +kernel) (by decide +kernel) ?_
  have hP : va_P g.1 classes [(h0, .inr (0, [.ref t0, .int (nI (n0 + 4)), x2, x3, x4, x5, x6])), (t0, .inl (g.2 0, 16384, .inl (upd (upd (upd (upd f0 ((nI n0 : Int32).toNatClampNeg) (vp_nar .byte (((v1) >>> (24 &&& 31)).toInt8.toInt32))) ((nI (n0 + 1) : Int32).toNatClampNeg) (vp_nar .byte (((v1) >>> (16 &&& 31)).toInt8.toInt32))) ((nI (n0 + 2) : Int32).toNatClampNeg) (vp_nar .byte (((v1) >>> (8 &&& 31)).toInt8.toInt32))) ((nI (n0 + 3) : Int32).toNatClampNeg) (vp_nar .byte (((v1) >>> (0 &&& 31)).toInt8.toInt32)))))] H := hP
  have hD : va_D A [(h0, .inr (0, [.ref t0, .int (nI (n0 + 4)), x2, x3, x4, x5, x6])), (t0, .inl (g.2 0, 16384, .inl (upd (upd (upd (upd f0 ((nI n0 : Int32).toNatClampNeg) (vp_nar .byte (((v1) >>> (24 &&& 31)).toInt8.toInt32))) ((nI (n0 + 1) : Int32).toNatClampNeg) (vp_nar .byte (((v1) >>> (16 &&& 31)).toInt8.toInt32))) ((nI (n0 + 2) : Int32).toNatClampNeg) (vp_nar .byte (((v1) >>> (8 &&& 31)).toInt8.toInt32))) ((nI (n0 + 3) : Int32).toNatClampNeg) (vp_nar .byte (((v1) >>> (0 &&& 31)).toInt8.toInt32)))))] := hD
  refine lv_aload_n hx hb d_MM_feed_21 rfl (lv_at hl 0 rfl) ?_
  refine lv_iload_n hx hb d_MM_feed_22 rfl (lv_at hl 2 rfl) ?_
  show W _ _ _ _ _ _ _ _ _ _ _ _ _ _ _ (F0 _ 23 _ _)
  refine go_v (As := [.ref h0, .int v2]) (g := g) (A := A) (wc := [(h0, .inr (0, [.ref t0, .int (nI (n0 + 4)), x2, x3, x4, x5, x6])), (t0, .inl (g.2 0, 16384, .inl (upd (upd (upd (upd f0 ((nI n0 : Int32).toNatClampNeg) (vp_nar .byte (((v1) >>> (24 &&& 31)).toInt8.toInt32))) ((nI (n0 + 1) : Int32).toNatClampNeg) (vp_nar .byte (((v1) >>> (16 &&& 31)).toInt8.toInt32))) ((nI (n0 + 2) : Int32).toNatClampNeg) (vp_nar .byte (((v1) >>> (8 &&& 31)).toInt8.toInt32))) ((nI (n0 + 3) : Int32).toNatClampNeg) (vp_nar .byte (((v1) >>> (0 &&& 31)).toInt8.toInt32)))))]) (wr := []) [0, 1] [] rfl rfl rfl rfl (by decide) hP hK hD hS hA hN (fun hp => va_runV (As := [.int v2]) (rest := []) ⟨hx, hb, hml, hown, htt⟩ (c_MM_layNumber l g _ h0 t0 (n0 + 4) (upd (upd (upd (upd f0 ((nI n0 : Int32).toNatClampNeg) (vp_nar .byte (((v1) >>> (24 &&& 31)).toInt8.toInt32))) ((nI (n0 + 1) : Int32).toNatClampNeg) (vp_nar .byte (((v1) >>> (16 &&& 31)).toInt8.toInt32))) ((nI (n0 + 2) : Int32).toNatClampNeg) (vp_nar .byte (((v1) >>> (8 &&& 31)).toInt8.toInt32))) ((nI (n0 + 3) : Int32).toNatClampNeg) (vp_nar .byte (((v1) >>> (0 &&& 31)).toInt8.toInt32))) (v2) (x2) (x3) (x4) (x5) (x6) (by omega)) ⟨(cb_L htt k_316 k_317 k_318 hd_MM_layNumber ⟨(by decide +kernel), (by decide +kernel)⟩), htt _ k_319, htt _ k_320⟩ ⟨hp.1, va_recv hK hP (ci := 0) (q0 := 0) rfl rfl, hp.2⟩ rfl rfl hl.1 rfl (lv_room (Nat.le_of_ble_eq_true rfl)) d_MM_feed_23 ⟨(by decide +kernel), (by decide +kernel)⟩) (fun w9 H locs hw9 hP hD hS => ?_)
  obtain rfl := hw9
  refine W.widen (k := 0) (n := 0) (by decide +kernel) (by decide +kernel) ?_
  have hP : va_P g.1 classes [(h0, .inr (0, [.ref t0, .int (nI ((n0 + 4) + 4)), x2, x3, x4, x5, x6])), (t0, .inl (g.2 0, 16384, .inl (upd (upd (upd (upd (upd (upd (upd (upd f0 ((nI n0 : Int32).toNatClampNeg) (vp_nar .byte (((v1) >>> (24 &&& 31)).toInt8.toInt32))) ((nI (n0 + 1) : Int32).toNatClampNeg) (vp_nar .byte (((v1) >>> (16 &&& 31)).toInt8.toInt32))) ((nI (n0 + 2) : Int32).toNatClampNeg) (vp_nar .byte (((v1) >>> (8 &&& 31)).toInt8.toInt32))) ((nI (n0 + 3) : Int32).toNatClampNeg) (vp_nar .byte (((v1) >>> (0 &&& 31)).toInt8.toInt32))) ((nI (n0 + 4) : Int32).toNatClampNeg) (vp_nar .byte (((v2) >>> (24 &&& 31)).toInt8.toInt32))) ((nI ((n0 + 4) + 1) : Int32).toNatClampNeg) (vp_nar .byte (((v2) >>> (16 &&& 31)).toInt8.toInt32))) ((nI ((n0 + 4) + 2) : Int32).toNatClampNeg) (vp_nar .byte (((v2) >>> (8 &&& 31)).toInt8.toInt32))) ((nI ((n0 + 4) + 3) : Int32).toNatClampNeg) (vp_nar .byte (((v2) >>> (0 &&& 31)).toInt8.toInt32)))))] H := hP
  have hD : va_D A [(h0, .inr (0, [.ref t0, .int (nI ((n0 + 4) + 4)), x2, x3, x4, x5, x6])), (t0, .inl (g.2 0, 16384, .inl (upd (upd (upd (upd (upd (upd (upd (upd f0 ((nI n0 : Int32).toNatClampNeg) (vp_nar .byte (((v1) >>> (24 &&& 31)).toInt8.toInt32))) ((nI (n0 + 1) : Int32).toNatClampNeg) (vp_nar .byte (((v1) >>> (16 &&& 31)).toInt8.toInt32))) ((nI (n0 + 2) : Int32).toNatClampNeg) (vp_nar .byte (((v1) >>> (8 &&& 31)).toInt8.toInt32))) ((nI (n0 + 3) : Int32).toNatClampNeg) (vp_nar .byte (((v1) >>> (0 &&& 31)).toInt8.toInt32))) ((nI (n0 + 4) : Int32).toNatClampNeg) (vp_nar .byte (((v2) >>> (24 &&& 31)).toInt8.toInt32))) ((nI ((n0 + 4) + 1) : Int32).toNatClampNeg) (vp_nar .byte (((v2) >>> (16 &&& 31)).toInt8.toInt32))) ((nI ((n0 + 4) + 2) : Int32).toNatClampNeg) (vp_nar .byte (((v2) >>> (8 &&& 31)).toInt8.toInt32))) ((nI ((n0 + 4) + 3) : Int32).toNatClampNeg) (vp_nar .byte (((v2) >>> (0 &&& 31)).toInt8.toInt32)))))] := hD
  refine lv_aload_n hx hb d_MM_feed_26 rfl (lv_at hl 0 rfl) ?_
  refine lv_iload_n hx hb d_MM_feed_27 rfl (lv_at hl 3 rfl) ?_
  refine go_v (As := [.ref h0, .int v3]) (g := g) (A := A) (wc := [(h0, .inr (0, [.ref t0, .int (nI ((n0 + 4) + 4)), x2, x3, x4, x5, x6])), (t0, .inl (g.2 0, 16384, .inl (upd (upd (upd (upd (upd (upd (upd (upd f0 ((nI n0 : Int32).toNatClampNeg) (vp_nar .byte (((v1) >>> (24 &&& 31)).toInt8.toInt32))) ((nI (n0 + 1) : Int32).toNatClampNeg) (vp_nar .byte (((v1) >>> (16 &&& 31)).toInt8.toInt32))) ((nI (n0 + 2) : Int32).toNatClampNeg) (vp_nar .byte (((v1) >>> (8 &&& 31)).toInt8.toInt32))) ((nI (n0 + 3) : Int32).toNatClampNeg) (vp_nar .byte (((v1) >>> (0 &&& 31)).toInt8.toInt32))) ((nI (n0 + 4) : Int32).toNatClampNeg) (vp_nar .byte (((v2) >>> (24 &&& 31)).toInt8.toInt32))) ((nI ((n0 + 4) + 1) : Int32).toNatClampNeg) (vp_nar .byte (((v2) >>> (16 &&& 31)).toInt8.toInt32))) ((nI ((n0 + 4) + 2) : Int32).toNatClampNeg) (vp_nar .byte (((v2) >>> (8 &&& 31)).toInt8.toInt32))) ((nI ((n0 + 4) + 3) : Int32).toNatClampNeg) (vp_nar .byte (((v2) >>> (0 &&& 31)).toInt8.toInt32)))))]) (wr := []) [0, 1] [] rfl rfl rfl rfl (by decide) hP hK hD hS hA hN (fun hp => va_runV (As := [.int v3]) (rest := []) ⟨hx, hb, hml, hown, htt⟩ (c_MM_layNumber l g _ h0 t0 ((n0 + 4) + 4) (upd (upd (upd (upd (upd (upd (upd (upd f0 ((nI n0 : Int32).toNatClampNeg) (vp_nar .byte (((v1) >>> (24 &&& 31)).toInt8.toInt32))) ((nI (n0 + 1) : Int32).toNatClampNeg) (vp_nar .byte (((v1) >>> (16 &&& 31)).toInt8.toInt32))) ((nI (n0 + 2) : Int32).toNatClampNeg) (vp_nar .byte (((v1) >>> (8 &&& 31)).toInt8.toInt32))) ((nI (n0 + 3) : Int32).toNatClampNeg) (vp_nar .byte (((v1) >>> (0 &&& 31)).toInt8.toInt32))) ((nI (n0 + 4) : Int32).toNatClampNeg) (vp_nar .byte (((v2) >>> (24 &&& 31)).toInt8.toInt32))) ((nI ((n0 + 4) + 1) : Int32).toNatClampNeg) (vp_nar .byte (((v2) >>> (16 &&& 31)).toInt8.toInt32))) ((nI ((n0 + 4) + 2) : Int32).toNatClampNeg) (vp_nar .byte (((v2) >>> (8 &&& 31)).toInt8.toInt32))) ((nI ((n0 + 4) + 3) : Int32).toNatClampNeg) (vp_nar .byte (((v2) >>> (0 &&& 31)).toInt8.toInt32))) (v3) (x2) (x3) (x4) (x5) (x6) (by omega)) ⟨(cb_L htt k_316 k_317 k_318 hd_MM_layNumber ⟨(by decide +kernel), (by decide +kernel)⟩), htt _ k_319, htt _ k_320⟩ ⟨hp.1, va_recv hK hP (ci := 0) (q0 := 0) rfl rfl, hp.2⟩ rfl rfl hl.1 rfl (lv_room (Nat.le_of_ble_eq_true rfl)) d_MM_feed_28 ⟨(by decide +kernel), (by decide +kernel)⟩) (fun w9 H locs hw9 hP hD hS => ?_)
  obtain rfl := hw9
  refine W.widen (k := 0) (n := 0) (by decide +kernel) (by decide +kernel) ?_
  have hP : va_P g.1 classes [(h0, .inr (0, [.ref t0, .int (nI (((n0 + 4) + 4) + 4)), x2, x3, x4, x5, x6])), (t0, .inl (g.2 0, 16384, .inl (upd (upd (upd (upd (upd (upd (upd (upd (upd (upd (upd (upd f0 ((nI n0 : Int32).toNatClampNeg) (vp_nar .byte (((v1) >>> (24 &&& 31)).toInt8.toInt32))) ((nI (n0 + 1) : Int32).toNatClampNeg) (vp_nar .byte (((v1) >>> (16 &&& 31)).toInt8.toInt32))) ((nI (n0 + 2) : Int32).toNatClampNeg) (vp_nar .byte (((v1) >>> (8 &&& 31)).toInt8.toInt32))) ((nI (n0 + 3) : Int32).toNatClampNeg) (vp_nar .byte (((v1) >>> (0 &&& 31)).toInt8.toInt32))) ((nI (n0 + 4) : Int32).toNatClampNeg) (vp_nar .byte (((v2) >>> (24 &&& 31)).toInt8.toInt32))) ((nI ((n0 + 4) + 1) : Int32).toNatClampNeg) (vp_nar .byte (((v2) >>> (16 &&& 31)).toInt8.toInt32))) ((nI ((n0 + 4) + 2) : Int32).toNatClampNeg) (vp_nar .byte (((v2) >>> (8 &&& 31)).toInt8.toInt32))) ((nI ((n0 + 4) + 3) : Int32).toNatClampNeg) (vp_nar .byte (((v2) >>> (0 &&& 31)).toInt8.toInt32))) ((nI ((n0 + 4) + 4) : Int32).toNatClampNeg) (vp_nar .byte (((v3) >>> (24 &&& 31)).toInt8.toInt32))) ((nI (((n0 + 4) + 4) + 1) : Int32).toNatClampNeg) (vp_nar .byte (((v3) >>> (16 &&& 31)).toInt8.toInt32))) ((nI (((n0 + 4) + 4) + 2) : Int32).toNatClampNeg) (vp_nar .byte (((v3) >>> (8 &&& 31)).toInt8.toInt32))) ((nI (((n0 + 4) + 4) + 3) : Int32).toNatClampNeg) (vp_nar .byte (((v3) >>> (0 &&& 31)).toInt8.toInt32)))))] H := hP
  have hD : va_D A [(h0, .inr (0, [.ref t0, .int (nI (((n0 + 4) + 4) + 4)), x2, x3, x4, x5, x6])), (t0, .inl (g.2 0, 16384, .inl (upd (upd (upd (upd (upd (upd (upd (upd (upd (upd (upd (upd f0 ((nI n0 : Int32).toNatClampNeg) (vp_nar .byte (((v1) >>> (24 &&& 31)).toInt8.toInt32))) ((nI (n0 + 1) : Int32).toNatClampNeg) (vp_nar .byte (((v1) >>> (16 &&& 31)).toInt8.toInt32))) ((nI (n0 + 2) : Int32).toNatClampNeg) (vp_nar .byte (((v1) >>> (8 &&& 31)).toInt8.toInt32))) ((nI (n0 + 3) : Int32).toNatClampNeg) (vp_nar .byte (((v1) >>> (0 &&& 31)).toInt8.toInt32))) ((nI (n0 + 4) : Int32).toNatClampNeg) (vp_nar .byte (((v2) >>> (24 &&& 31)).toInt8.toInt32))) ((nI ((n0 + 4) + 1) : Int32).toNatClampNeg) (vp_nar .byte (((v2) >>> (16 &&& 31)).toInt8.toInt32))) ((nI ((n0 + 4) + 2) : Int32).toNatClampNeg) (vp_nar .byte (((v2) >>> (8 &&& 31)).toInt8.toInt32))) ((nI ((n0 + 4) + 3) : Int32).toNatClampNeg) (vp_nar .byte (((v2) >>> (0 &&& 31)).toInt8.toInt32))) ((nI ((n0 + 4) + 4) : Int32).toNatClampNeg) (vp_nar .byte (((v3) >>> (24 &&& 31)).toInt8.toInt32))) ((nI (((n0 + 4) + 4) + 1) : Int32).toNatClampNeg) (vp_nar .byte (((v3) >>> (16 &&& 31)).toInt8.toInt32))) ((nI (((n0 + 4) + 4) + 2) : Int32).toNatClampNeg) (vp_nar .byte (((v3) >>> (8 &&& 31)).toInt8.toInt32))) ((nI (((n0 + 4) + 4) + 3) : Int32).toNatClampNeg) (vp_nar .byte (((v3) >>> (0 &&& 31)).toInt8.toInt32)))))] := hD
  refine lv_aload_n hx hb d_MM_feed_31 rfl (lv_at hl 0 rfl) ?_
  refine lv_iload hx hb d_MM_feed_32 (lv_at hl 4 rfl) ?_
  refine go_v (As := [.ref h0, .int v4]) (g := g) (A := A) (wc := [(h0, .inr (0, [.ref t0, .int (nI (((n0 + 4) + 4) + 4)), x2, x3, x4, x5, x6])), (t0, .inl (g.2 0, 16384, .inl (upd (upd (upd (upd (upd (upd (upd (upd (upd (upd (upd (upd f0 ((nI n0 : Int32).toNatClampNeg) (vp_nar .byte (((v1) >>> (24 &&& 31)).toInt8.toInt32))) ((nI (n0 + 1) : Int32).toNatClampNeg) (vp_nar .byte (((v1) >>> (16 &&& 31)).toInt8.toInt32))) ((nI (n0 + 2) : Int32).toNatClampNeg) (vp_nar .byte (((v1) >>> (8 &&& 31)).toInt8.toInt32))) ((nI (n0 + 3) : Int32).toNatClampNeg) (vp_nar .byte (((v1) >>> (0 &&& 31)).toInt8.toInt32))) ((nI (n0 + 4) : Int32).toNatClampNeg) (vp_nar .byte (((v2) >>> (24 &&& 31)).toInt8.toInt32))) ((nI ((n0 + 4) + 1) : Int32).toNatClampNeg) (vp_nar .byte (((v2) >>> (16 &&& 31)).toInt8.toInt32))) ((nI ((n0 + 4) + 2) : Int32).toNatClampNeg) (vp_nar .byte (((v2) >>> (8 &&& 31)).toInt8.toInt32))) ((nI ((n0 + 4) + 3) : Int32).toNatClampNeg) (vp_nar .byte (((v2) >>> (0 &&& 31)).toInt8.toInt32))) ((nI ((n0 + 4) + 4) : Int32).toNatClampNeg) (vp_nar .byte (((v3) >>> (24 &&& 31)).toInt8.toInt32))) ((nI (((n0 + 4) + 4) + 1) : Int32).toNatClampNeg) (vp_nar .byte (((v3) >>> (16 &&& 31)).toInt8.toInt32))) ((nI (((n0 + 4) + 4) + 2) : Int32).toNatClampNeg) (vp_nar .byte (((v3) >>> (8 &&& 31)).toInt8.toInt32))) ((nI (((n0 + 4) + 4) + 3) : Int32).toNatClampNeg) (vp_nar .byte (((v3) >>> (0 &&& 31)).toInt8.toInt32)))))]) (wr := []) [0, 1] [] rfl rfl rfl rfl (by decide) hP hK hD hS hA hN (fun hp => va_runV (As := [.int v4]) (rest := []) ⟨hx, hb, hml, hown, htt⟩ (c_MM_layNumber l g _ h0 t0 (((n0 + 4) + 4) + 4) (upd (upd (upd (upd (upd (upd (upd (upd (upd (upd (upd (upd f0 ((nI n0 : Int32).toNatClampNeg) (vp_nar .byte (((v1) >>> (24 &&& 31)).toInt8.toInt32))) ((nI (n0 + 1) : Int32).toNatClampNeg) (vp_nar .byte (((v1) >>> (16 &&& 31)).toInt8.toInt32))) ((nI (n0 + 2) : Int32).toNatClampNeg) (vp_nar .byte (((v1) >>> (8 &&& 31)).toInt8.toInt32))) ((nI (n0 + 3) : Int32).toNatClampNeg) (vp_nar .byte (((v1) >>> (0 &&& 31)).toInt8.toInt32))) ((nI (n0 + 4) : Int32).toNatClampNeg) (vp_nar .byte (((v2) >>> (24 &&& 31)).toInt8.toInt32))) ((nI ((n0 + 4) + 1) : Int32).toNatClampNeg) (vp_nar .byte (((v2) >>> (16 &&& 31)).toInt8.toInt32))) ((nI ((n0 + 4) + 2) : Int32).toNatClampNeg) (vp_nar .byte (((v2) >>> (8 &&& 31)).toInt8.toInt32))) ((nI ((n0 + 4) + 3) : Int32).toNatClampNeg) (vp_nar .byte (((v2) >>> (0 &&& 31)).toInt8.toInt32))) ((nI ((n0 + 4) + 4) : Int32).toNatClampNeg) (vp_nar .byte (((v3) >>> (24 &&& 31)).toInt8.toInt32))) ((nI (((n0 + 4) + 4) + 1) : Int32).toNatClampNeg) (vp_nar .byte (((v3) >>> (16 &&& 31)).toInt8.toInt32))) ((nI (((n0 + 4) + 4) + 2) : Int32).toNatClampNeg) (vp_nar .byte (((v3) >>> (8 &&& 31)).toInt8.toInt32))) ((nI (((n0 + 4) + 4) + 3) : Int32).toNatClampNeg) (vp_nar .byte (((v3) >>> (0 &&& 31)).toInt8.toInt32))) (v4) (x2) (x3) (x4) (x5) (x6) (by omega)) ⟨(cb_L htt k_316 k_317 k_318 hd_MM_layNumber ⟨(by decide +kernel), (by decide +kernel)⟩), htt _ k_319, htt _ k_320⟩ ⟨hp.1, va_recv hK hP (ci := 0) (q0 := 0) rfl rfl, hp.2⟩ rfl rfl hl.1 rfl (lv_room (Nat.le_of_ble_eq_true rfl)) d_MM_feed_34 ⟨(by decide +kernel), (by decide +kernel)⟩) (fun w9 H locs hw9 hP hD hS => ?_)
  obtain rfl := hw9
  refine W.widen (k := 0) (n := 0) (by decide +kernel) (by decide +kernel) ?_
  have hP : va_P g.1 classes [(h0, .inr (0, [.ref t0, .int (nI ((((n0 + 4) + 4) + 4) + 4)), x2, x3, x4, x5, x6])), (t0, .inl (g.2 0, 16384, .inl (upd (upd (upd (upd (upd (upd (upd (upd (upd (upd (upd (upd (upd (upd (upd (upd f0 ((nI n0 : Int32).toNatClampNeg) (vp_nar .byte (((v1) >>> (24 &&& 31)).toInt8.toInt32))) ((nI (n0 + 1) : Int32).toNatClampNeg) (vp_nar .byte (((v1) >>> (16 &&& 31)).toInt8.toInt32))) ((nI (n0 + 2) : Int32).toNatClampNeg) (vp_nar .byte (((v1) >>> (8 &&& 31)).toInt8.toInt32))) ((nI (n0 + 3) : Int32).toNatClampNeg) (vp_nar .byte (((v1) >>> (0 &&& 31)).toInt8.toInt32))) ((nI (n0 + 4) : Int32).toNatClampNeg) (vp_nar .byte (((v2) >>> (24 &&& 31)).toInt8.toInt32))) ((nI ((n0 + 4) + 1) : Int32).toNatClampNeg) (vp_nar .byte (((v2) >>> (16 &&& 31)).toInt8.toInt32))) ((nI ((n0 + 4) + 2) : Int32).toNatClampNeg) (vp_nar .byte (((v2) >>> (8 &&& 31)).toInt8.toInt32))) ((nI ((n0 + 4) + 3) : Int32).toNatClampNeg) (vp_nar .byte (((v2) >>> (0 &&& 31)).toInt8.toInt32))) ((nI ((n0 + 4) + 4) : Int32).toNatClampNeg) (vp_nar .byte (((v3) >>> (24 &&& 31)).toInt8.toInt32))) ((nI (((n0 + 4) + 4) + 1) : Int32).toNatClampNeg) (vp_nar .byte (((v3) >>> (16 &&& 31)).toInt8.toInt32))) ((nI (((n0 + 4) + 4) + 2) : Int32).toNatClampNeg) (vp_nar .byte (((v3) >>> (8 &&& 31)).toInt8.toInt32))) ((nI (((n0 + 4) + 4) + 3) : Int32).toNatClampNeg) (vp_nar .byte (((v3) >>> (0 &&& 31)).toInt8.toInt32))) ((nI (((n0 + 4) + 4) + 4) : Int32).toNatClampNeg) (vp_nar .byte (((v4) >>> (24 &&& 31)).toInt8.toInt32))) ((nI ((((n0 + 4) + 4) + 4) + 1) : Int32).toNatClampNeg) (vp_nar .byte (((v4) >>> (16 &&& 31)).toInt8.toInt32))) ((nI ((((n0 + 4) + 4) + 4) + 2) : Int32).toNatClampNeg) (vp_nar .byte (((v4) >>> (8 &&& 31)).toInt8.toInt32))) ((nI ((((n0 + 4) + 4) + 4) + 3) : Int32).toNatClampNeg) (vp_nar .byte (((v4) >>> (0 &&& 31)).toInt8.toInt32)))))] H := hP
  have hD : va_D A [(h0, .inr (0, [.ref t0, .int (nI ((((n0 + 4) + 4) + 4) + 4)), x2, x3, x4, x5, x6])), (t0, .inl (g.2 0, 16384, .inl (upd (upd (upd (upd (upd (upd (upd (upd (upd (upd (upd (upd (upd (upd (upd (upd f0 ((nI n0 : Int32).toNatClampNeg) (vp_nar .byte (((v1) >>> (24 &&& 31)).toInt8.toInt32))) ((nI (n0 + 1) : Int32).toNatClampNeg) (vp_nar .byte (((v1) >>> (16 &&& 31)).toInt8.toInt32))) ((nI (n0 + 2) : Int32).toNatClampNeg) (vp_nar .byte (((v1) >>> (8 &&& 31)).toInt8.toInt32))) ((nI (n0 + 3) : Int32).toNatClampNeg) (vp_nar .byte (((v1) >>> (0 &&& 31)).toInt8.toInt32))) ((nI (n0 + 4) : Int32).toNatClampNeg) (vp_nar .byte (((v2) >>> (24 &&& 31)).toInt8.toInt32))) ((nI ((n0 + 4) + 1) : Int32).toNatClampNeg) (vp_nar .byte (((v2) >>> (16 &&& 31)).toInt8.toInt32))) ((nI ((n0 + 4) + 2) : Int32).toNatClampNeg) (vp_nar .byte (((v2) >>> (8 &&& 31)).toInt8.toInt32))) ((nI ((n0 + 4) + 3) : Int32).toNatClampNeg) (vp_nar .byte (((v2) >>> (0 &&& 31)).toInt8.toInt32))) ((nI ((n0 + 4) + 4) : Int32).toNatClampNeg) (vp_nar .byte (((v3) >>> (24 &&& 31)).toInt8.toInt32))) ((nI (((n0 + 4) + 4) + 1) : Int32).toNatClampNeg) (vp_nar .byte (((v3) >>> (16 &&& 31)).toInt8.toInt32))) ((nI (((n0 + 4) + 4) + 2) : Int32).toNatClampNeg) (vp_nar .byte (((v3) >>> (8 &&& 31)).toInt8.toInt32))) ((nI (((n0 + 4) + 4) + 3) : Int32).toNatClampNeg) (vp_nar .byte (((v3) >>> (0 &&& 31)).toInt8.toInt32))) ((nI (((n0 + 4) + 4) + 4) : Int32).toNatClampNeg) (vp_nar .byte (((v4) >>> (24 &&& 31)).toInt8.toInt32))) ((nI ((((n0 + 4) + 4) + 4) + 1) : Int32).toNatClampNeg) (vp_nar .byte (((v4) >>> (16 &&& 31)).toInt8.toInt32))) ((nI ((((n0 + 4) + 4) + 4) + 2) : Int32).toNatClampNeg) (vp_nar .byte (((v4) >>> (8 &&& 31)).toInt8.toInt32))) ((nI ((((n0 + 4) + 4) + 4) + 3) : Int32).toNatClampNeg) (vp_nar .byte (((v4) >>> (0 &&& 31)).toInt8.toInt32)))))] := hD
  refine lv_aload_n hx hb d_MM_feed_37 rfl (lv_at hl 0 rfl) ?_
  refine lv_iload hx hb d_MM_feed_38 (lv_at hl 5 rfl) ?_
  refine go_v (As := [.ref h0, .int v5]) (g := g) (A := A) (wc := [(h0, .inr (0, [.ref t0, .int (nI ((((n0 + 4) + 4) + 4) + 4)), x2, x3, x4, x5, x6])), (t0, .inl (g.2 0, 16384, .inl (upd (upd (upd (upd (upd (upd (upd (upd (upd (upd (upd (upd (upd (upd (upd (upd f0 ((nI n0 : Int32).toNatClampNeg) (vp_nar .byte (((v1) >>> (24 &&& 31)).toInt8.toInt32))) ((nI (n0 + 1) : Int32).toNatClampNeg) (vp_nar .byte (((v1) >>> (16 &&& 31)).toInt8.toInt32))) ((nI (n0 + 2) : Int32).toNatClampNeg) (vp_nar .byte (((v1) >>> (8 &&& 31)).toInt8.toInt32))) ((nI (n0 + 3) : Int32).toNatClampNeg) (vp_nar .byte (((v1) >>> (0 &&& 31)).toInt8.toInt32))) ((nI (n0 + 4) : Int32).toNatClampNeg) (vp_nar .byte (((v2) >>> (24 &&& 31)).toInt8.toInt32))) ((nI ((n0 + 4) + 1) : Int32).toNatClampNeg) (vp_nar .byte (((v2) >>> (16 &&& 31)).toInt8.toInt32))) ((nI ((n0 + 4) + 2) : Int32).toNatClampNeg) (vp_nar .byte (((v2) >>> (8 &&& 31)).toInt8.toInt32))) ((nI ((n0 + 4) + 3) : Int32).toNatClampNeg) (vp_nar .byte (((v2) >>> (0 &&& 31)).toInt8.toInt32))) ((nI ((n0 + 4) + 4) : Int32).toNatClampNeg) (vp_nar .byte (((v3) >>> (24 &&& 31)).toInt8.toInt32))) ((nI (((n0 + 4) + 4) + 1) : Int32).toNatClampNeg) (vp_nar .byte (((v3) >>> (16 &&& 31)).toInt8.toInt32))) ((nI (((n0 + 4) + 4) + 2) : Int32).toNatClampNeg) (vp_nar .byte (((v3) >>> (8 &&& 31)).toInt8.toInt32))) ((nI (((n0 + 4) + 4) + 3) : Int32).toNatClampNeg) (vp_nar .byte (((v3) >>> (0 &&& 31)).toInt8.toInt32))) ((nI (((n0 + 4) + 4) + 4) : Int32).toNatClampNeg) (vp_nar .byte (((v4) >>> (24 &&& 31)).toInt8.toInt32))) ((nI ((((n0 + 4) + 4) + 4) + 1) : Int32).toNatClampNeg) (vp_nar .byte (((v4) >>> (16 &&& 31)).toInt8.toInt32))) ((nI ((((n0 + 4) + 4) + 4) + 2) : Int32).toNatClampNeg) (vp_nar .byte (((v4) >>> (8 &&& 31)).toInt8.toInt32))) ((nI ((((n0 + 4) + 4) + 4) + 3) : Int32).toNatClampNeg) (vp_nar .byte (((v4) >>> (0 &&& 31)).toInt8.toInt32)))))]) (wr := []) [0, 1] [] rfl rfl rfl rfl (by decide) hP hK hD hS hA hN (fun hp => va_runV (As := [.int v5]) (rest := []) ⟨hx, hb, hml, hown, htt⟩ (c_MM_layNumber l g _ h0 t0 ((((n0 + 4) + 4) + 4) + 4) (upd (upd (upd (upd (upd (upd (upd (upd (upd (upd (upd (upd (upd (upd (upd (upd f0 ((nI n0 : Int32).toNatClampNeg) (vp_nar .byte (((v1) >>> (24 &&& 31)).toInt8.toInt32))) ((nI (n0 + 1) : Int32).toNatClampNeg) (vp_nar .byte (((v1) >>> (16 &&& 31)).toInt8.toInt32))) ((nI (n0 + 2) : Int32).toNatClampNeg) (vp_nar .byte (((v1) >>> (8 &&& 31)).toInt8.toInt32))) ((nI (n0 + 3) : Int32).toNatClampNeg) (vp_nar .byte (((v1) >>> (0 &&& 31)).toInt8.toInt32))) ((nI (n0 + 4) : Int32).toNatClampNeg) (vp_nar .byte (((v2) >>> (24 &&& 31)).toInt8.toInt32))) ((nI ((n0 + 4) + 1) : Int32).toNatClampNeg) (vp_nar .byte (((v2) >>> (16 &&& 31)).toInt8.toInt32))) ((nI ((n0 + 4) + 2) : Int32).toNatClampNeg) (vp_nar .byte (((v2) >>> (8 &&& 31)).toInt8.toInt32))) ((nI ((n0 + 4) + 3) : Int32).toNatClampNeg) (vp_nar .byte (((v2) >>> (0 &&& 31)).toInt8.toInt32))) ((nI ((n0 + 4) + 4) : Int32).toNatClampNeg) (vp_nar .byte (((v3) >>> (24 &&& 31)).toInt8.toInt32))) ((nI (((n0 + 4) + 4) + 1) : Int32).toNatClampNeg) (vp_nar .byte (((v3) >>> (16 &&& 31)).toInt8.toInt32))) ((nI (((n0 + 4) + 4) + 2) : Int32).toNatClampNeg) (vp_nar .byte (((v3) >>> (8 &&& 31)).toInt8.toInt32))) ((nI (((n0 + 4) + 4) + 3) : Int32).toNatClampNeg) (vp_nar .byte (((v3) >>> (0 &&& 31)).toInt8.toInt32))) ((nI (((n0 + 4) + 4) + 4) : Int32).toNatClampNeg) (vp_nar .byte (((v4) >>> (24 &&& 31)).toInt8.toInt32))) ((nI ((((n0 + 4) + 4) + 4) + 1) : Int32).toNatClampNeg) (vp_nar .byte (((v4) >>> (16 &&& 31)).toInt8.toInt32))) ((nI ((((n0 + 4) + 4) + 4) + 2) : Int32).toNatClampNeg) (vp_nar .byte (((v4) >>> (8 &&& 31)).toInt8.toInt32))) ((nI ((((n0 + 4) + 4) + 4) + 3) : Int32).toNatClampNeg) (vp_nar .byte (((v4) >>> (0 &&& 31)).toInt8.toInt32))) (v5) (x2) (x3) (x4) (x5) (x6) (by omega)) ⟨(cb_L htt k_316 k_317 k_318 hd_MM_layNumber ⟨(by decide +kernel), (by decide +kernel)⟩), htt _ k_319, htt _ k_320⟩ ⟨hp.1, va_recv hK hP (ci := 0) (q0 := 0) rfl rfl, hp.2⟩ rfl rfl hl.1 rfl (lv_room (Nat.le_of_ble_eq_true rfl)) d_MM_feed_40 ⟨(by decide +kernel), (by decide +kernel)⟩) (fun w9 H locs hw9 hP hD hS => ?_)
  obtain rfl := hw9
  refine W.widen (k := 0) (n := 0) (by decide +kernel) (by decide +kernel) ?_
  have hP : va_P g.1 classes [(h0, .inr (0, [.ref t0, .int (nI (((((n0 + 4) + 4) + 4) + 4) + 4)), x2, x3, x4, x5, x6])), (t0, .inl (g.2 0, 16384, .inl (upd (upd (upd (upd (upd (upd (upd (upd (upd (upd (upd (upd (upd (upd (upd (upd (upd (upd (upd (upd f0 ((nI n0 : Int32).toNatClampNeg) (vp_nar .byte (((v1) >>> (24 &&& 31)).toInt8.toInt32))) ((nI (n0 + 1) : Int32).toNatClampNeg) (vp_nar .byte (((v1) >>> (16 &&& 31)).toInt8.toInt32))) ((nI (n0 + 2) : Int32).toNatClampNeg) (vp_nar .byte (((v1) >>> (8 &&& 31)).toInt8.toInt32))) ((nI (n0 + 3) : Int32).toNatClampNeg) (vp_nar .byte (((v1) >>> (0 &&& 31)).toInt8.toInt32))) ((nI (n0 + 4) : Int32).toNatClampNeg) (vp_nar .byte (((v2) >>> (24 &&& 31)).toInt8.toInt32))) ((nI ((n0 + 4) + 1) : Int32).toNatClampNeg) (vp_nar .byte (((v2) >>> (16 &&& 31)).toInt8.toInt32))) ((nI ((n0 + 4) + 2) : Int32).toNatClampNeg) (vp_nar .byte (((v2) >>> (8 &&& 31)).toInt8.toInt32))) ((nI ((n0 + 4) + 3) : Int32).toNatClampNeg) (vp_nar .byte (((v2) >>> (0 &&& 31)).toInt8.toInt32))) ((nI ((n0 + 4) + 4) : Int32).toNatClampNeg) (vp_nar .byte (((v3) >>> (24 &&& 31)).toInt8.toInt32))) ((nI (((n0 + 4) + 4) + 1) : Int32).toNatClampNeg) (vp_nar .byte (((v3) >>> (16 &&& 31)).toInt8.toInt32))) ((nI (((n0 + 4) + 4) + 2) : Int32).toNatClampNeg) (vp_nar .byte (((v3) >>> (8 &&& 31)).toInt8.toInt32))) ((nI (((n0 + 4) + 4) + 3) : Int32).toNatClampNeg) (vp_nar .byte (((v3) >>> (0 &&& 31)).toInt8.toInt32))) ((nI (((n0 + 4) + 4) + 4) : Int32).toNatClampNeg) (vp_nar .byte (((v4) >>> (24 &&& 31)).toInt8.toInt32))) ((nI ((((n0 + 4) + 4) + 4) + 1) : Int32).toNatClampNeg) (vp_nar .byte (((v4) >>> (16 &&& 31)).toInt8.toInt32))) ((nI ((((n0 + 4) + 4) + 4) + 2) : Int32).toNatClampNeg) (vp_nar .byte (((v4) >>> (8 &&& 31)).toInt8.toInt32))) ((nI ((((n0 + 4) + 4) + 4) + 3) : Int32).toNatClampNeg) (vp_nar .byte (((v4) >>> (0 &&& 31)).toInt8.toInt32))) ((nI ((((n0 + 4) + 4) + 4) + 4) : Int32).toNatClampNeg) (vp_nar .byte (((v5) >>> (24 &&& 31)).toInt8.toInt32))) ((nI (((((n0 + 4) + 4) + 4) + 4) + 1) : Int32).toNatClampNeg) (vp_nar .byte (((v5) >>> (16 &&& 31)).toInt8.toInt32))) ((nI (((((n0 + 4) + 4) + 4) + 4) + 2) : Int32).toNatClampNeg) (vp_nar .byte (((v5) >>> (8 &&& 31)).toInt8.toInt32))) ((nI (((((n0 + 4) + 4) + 4) + 4) + 3) : Int32).toNatClampNeg) (vp_nar .byte (((v5) >>> (0 &&& 31)).toInt8.toInt32)))))] H := hP
  have hD : va_D A [(h0, .inr (0, [.ref t0, .int (nI (((((n0 + 4) + 4) + 4) + 4) + 4)), x2, x3, x4, x5, x6])), (t0, .inl (g.2 0, 16384, .inl (upd (upd (upd (upd (upd (upd (upd (upd (upd (upd (upd (upd (upd (upd (upd (upd (upd (upd (upd (upd f0 ((nI n0 : Int32).toNatClampNeg) (vp_nar .byte (((v1) >>> (24 &&& 31)).toInt8.toInt32))) ((nI (n0 + 1) : Int32).toNatClampNeg) (vp_nar .byte (((v1) >>> (16 &&& 31)).toInt8.toInt32))) ((nI (n0 + 2) : Int32).toNatClampNeg) (vp_nar .byte (((v1) >>> (8 &&& 31)).toInt8.toInt32))) ((nI (n0 + 3) : Int32).toNatClampNeg) (vp_nar .byte (((v1) >>> (0 &&& 31)).toInt8.toInt32))) ((nI (n0 + 4) : Int32).toNatClampNeg) (vp_nar .byte (((v2) >>> (24 &&& 31)).toInt8.toInt32))) ((nI ((n0 + 4) + 1) : Int32).toNatClampNeg) (vp_nar .byte (((v2) >>> (16 &&& 31)).toInt8.toInt32))) ((nI ((n0 + 4) + 2) : Int32).toNatClampNeg) (vp_nar .byte (((v2) >>> (8 &&& 31)).toInt8.toInt32))) ((nI ((n0 + 4) + 3) : Int32).toNatClampNeg) (vp_nar .byte (((v2) >>> (0 &&& 31)).toInt8.toInt32))) ((nI ((n0 + 4) + 4) : Int32).toNatClampNeg) (vp_nar .byte (((v3) >>> (24 &&& 31)).toInt8.toInt32))) ((nI (((n0 + 4) + 4) + 1) : Int32).toNatClampNeg) (vp_nar .byte (((v3) >>> (16 &&& 31)).toInt8.toInt32))) ((nI (((n0 + 4) + 4) + 2) : Int32).toNatClampNeg) (vp_nar .byte (((v3) >>> (8 &&& 31)).toInt8.toInt32))) ((nI (((n0 + 4) + 4) + 3) : Int32).toNatClampNeg) (vp_nar .byte (((v3) >>> (0 &&& 31)).toInt8.toInt32))) ((nI (((n0 + 4) + 4) + 4) : Int32).toNatClampNeg) (vp_nar .byte (((v4) >>> (24 &&& 31)).toInt8.toInt32))) ((nI ((((n0 + 4) + 4) + 4) + 1) : Int32).toNatClampNeg) (vp_nar .byte (((v4) >>> (16 &&& 31)).toInt8.toInt32))) ((nI ((((n0 + 4) + 4) + 4) + 2) : Int32).toNatClampNeg) (vp_nar .byte (((v4) >>> (8 &&& 31)).toInt8.toInt32))) ((nI ((((n0 + 4) + 4) + 4) + 3) : Int32).toNatClampNeg) (vp_nar .byte (((v4) >>> (0 &&& 31)).toInt8.toInt32))) ((nI ((((n0 + 4) + 4) + 4) + 4) : Int32).toNatClampNeg) (vp_nar .byte (((v5) >>> (24 &&& 31)).toInt8.toInt32))) ((nI (((((n0 + 4) + 4) + 4) + 4) + 1) : Int32).toNatClampNeg) (vp_nar .byte (((v5) >>> (16 &&& 31)).toInt8.toInt32))) ((nI (((((n0 + 4) + 4) + 4) + 4) + 2) : Int32).toNatClampNeg) (vp_nar .byte (((v5) >>> (8 &&& 31)).toInt8.toInt32))) ((nI (((((n0 + 4) + 4) + 4) + 4) + 3) : Int32).toNatClampNeg) (vp_nar .byte (((v5) >>> (0 &&& 31)).toInt8.toInt32)))))] := hD
  refine lv_aload_n hx hb d_MM_feed_43 rfl (lv_at hl 0 rfl) ?_
  refine lv_iconst (v := 1) hx hb d_MM_feed_44 (by decide) ?_
  show W _ _ _ _ _ _ _ _ _ _ _ _ _ _ _ (F0 _ 45 _ _)
  refine va_put (D := g.1) (ci := 0) (v := .int 1) (ty := t_MM 2) (C := "MacroMill") (T := F_MM) (N := 7) hx hb htt in_MM t_MM t_MM_ok n_MM hown hK hP hD hS 0 rfl rfl 2 (by decide) (htt _ k_321) (fun _ h9 => h9) rfl (t_MM_ok 2 (by decide)) rfl rfl (Nat.le_of_ble_eq_true rfl) d_MM_feed_45 (fun H locs hP hD hS => ?_)
  have hP : va_P g.1 classes [(h0, .inr (0, [.ref t0, .int (nI (((((n0 + 4) + 4) + 4) + 4) + 4)), .int 1, x3, x4, x5, x6])), (t0, .inl (g.2 0, 16384, .inl (upd (upd (upd (upd (upd (upd (upd (upd (upd (upd (upd (upd (upd (upd (upd (upd (upd (upd (upd (upd f0 ((nI n0 : Int32).toNatClampNeg) (vp_nar .byte (((v1) >>> (24 &&& 31)).toInt8.toInt32))) ((nI (n0 + 1) : Int32).toNatClampNeg) (vp_nar .byte (((v1) >>> (16 &&& 31)).toInt8.toInt32))) ((nI (n0 + 2) : Int32).toNatClampNeg) (vp_nar .byte (((v1) >>> (8 &&& 31)).toInt8.toInt32))) ((nI (n0 + 3) : Int32).toNatClampNeg) (vp_nar .byte (((v1) >>> (0 &&& 31)).toInt8.toInt32))) ((nI (n0 + 4) : Int32).toNatClampNeg) (vp_nar .byte (((v2) >>> (24 &&& 31)).toInt8.toInt32))) ((nI ((n0 + 4) + 1) : Int32).toNatClampNeg) (vp_nar .byte (((v2) >>> (16 &&& 31)).toInt8.toInt32))) ((nI ((n0 + 4) + 2) : Int32).toNatClampNeg) (vp_nar .byte (((v2) >>> (8 &&& 31)).toInt8.toInt32))) ((nI ((n0 + 4) + 3) : Int32).toNatClampNeg) (vp_nar .byte (((v2) >>> (0 &&& 31)).toInt8.toInt32))) ((nI ((n0 + 4) + 4) : Int32).toNatClampNeg) (vp_nar .byte (((v3) >>> (24 &&& 31)).toInt8.toInt32))) ((nI (((n0 + 4) + 4) + 1) : Int32).toNatClampNeg) (vp_nar .byte (((v3) >>> (16 &&& 31)).toInt8.toInt32))) ((nI (((n0 + 4) + 4) + 2) : Int32).toNatClampNeg) (vp_nar .byte (((v3) >>> (8 &&& 31)).toInt8.toInt32))) ((nI (((n0 + 4) + 4) + 3) : Int32).toNatClampNeg) (vp_nar .byte (((v3) >>> (0 &&& 31)).toInt8.toInt32))) ((nI (((n0 + 4) + 4) + 4) : Int32).toNatClampNeg) (vp_nar .byte (((v4) >>> (24 &&& 31)).toInt8.toInt32))) ((nI ((((n0 + 4) + 4) + 4) + 1) : Int32).toNatClampNeg) (vp_nar .byte (((v4) >>> (16 &&& 31)).toInt8.toInt32))) ((nI ((((n0 + 4) + 4) + 4) + 2) : Int32).toNatClampNeg) (vp_nar .byte (((v4) >>> (8 &&& 31)).toInt8.toInt32))) ((nI ((((n0 + 4) + 4) + 4) + 3) : Int32).toNatClampNeg) (vp_nar .byte (((v4) >>> (0 &&& 31)).toInt8.toInt32))) ((nI ((((n0 + 4) + 4) + 4) + 4) : Int32).toNatClampNeg) (vp_nar .byte (((v5) >>> (24 &&& 31)).toInt8.toInt32))) ((nI (((((n0 + 4) + 4) + 4) + 4) + 1) : Int32).toNatClampNeg) (vp_nar .byte (((v5) >>> (16 &&& 31)).toInt8.toInt32))) ((nI (((((n0 + 4) + 4) + 4) + 4) + 2) : Int32).toNatClampNeg) (vp_nar .byte (((v5) >>> (8 &&& 31)).toInt8.toInt32))) ((nI (((((n0 + 4) + 4) + 4) + 4) + 3) : Int32).toNatClampNeg) (vp_nar .byte (((v5) >>> (0 &&& 31)).toInt8.toInt32)))))] H := hP
  have hD : va_D A [(h0, .inr (0, [.ref t0, .int (nI (((((n0 + 4) + 4) + 4) + 4) + 4)), .int 1, x3, x4, x5, x6])), (t0, .inl (g.2 0, 16384, .inl (upd (upd (upd (upd (upd (upd (upd (upd (upd (upd (upd (upd (upd (upd (upd (upd (upd (upd (upd (upd f0 ((nI n0 : Int32).toNatClampNeg) (vp_nar .byte (((v1) >>> (24 &&& 31)).toInt8.toInt32))) ((nI (n0 + 1) : Int32).toNatClampNeg) (vp_nar .byte (((v1) >>> (16 &&& 31)).toInt8.toInt32))) ((nI (n0 + 2) : Int32).toNatClampNeg) (vp_nar .byte (((v1) >>> (8 &&& 31)).toInt8.toInt32))) ((nI (n0 + 3) : Int32).toNatClampNeg) (vp_nar .byte (((v1) >>> (0 &&& 31)).toInt8.toInt32))) ((nI (n0 + 4) : Int32).toNatClampNeg) (vp_nar .byte (((v2) >>> (24 &&& 31)).toInt8.toInt32))) ((nI ((n0 + 4) + 1) : Int32).toNatClampNeg) (vp_nar .byte (((v2) >>> (16 &&& 31)).toInt8.toInt32))) ((nI ((n0 + 4) + 2) : Int32).toNatClampNeg) (vp_nar .byte (((v2) >>> (8 &&& 31)).toInt8.toInt32))) ((nI ((n0 + 4) + 3) : Int32).toNatClampNeg) (vp_nar .byte (((v2) >>> (0 &&& 31)).toInt8.toInt32))) ((nI ((n0 + 4) + 4) : Int32).toNatClampNeg) (vp_nar .byte (((v3) >>> (24 &&& 31)).toInt8.toInt32))) ((nI (((n0 + 4) + 4) + 1) : Int32).toNatClampNeg) (vp_nar .byte (((v3) >>> (16 &&& 31)).toInt8.toInt32))) ((nI (((n0 + 4) + 4) + 2) : Int32).toNatClampNeg) (vp_nar .byte (((v3) >>> (8 &&& 31)).toInt8.toInt32))) ((nI (((n0 + 4) + 4) + 3) : Int32).toNatClampNeg) (vp_nar .byte (((v3) >>> (0 &&& 31)).toInt8.toInt32))) ((nI (((n0 + 4) + 4) + 4) : Int32).toNatClampNeg) (vp_nar .byte (((v4) >>> (24 &&& 31)).toInt8.toInt32))) ((nI ((((n0 + 4) + 4) + 4) + 1) : Int32).toNatClampNeg) (vp_nar .byte (((v4) >>> (16 &&& 31)).toInt8.toInt32))) ((nI ((((n0 + 4) + 4) + 4) + 2) : Int32).toNatClampNeg) (vp_nar .byte (((v4) >>> (8 &&& 31)).toInt8.toInt32))) ((nI ((((n0 + 4) + 4) + 4) + 3) : Int32).toNatClampNeg) (vp_nar .byte (((v4) >>> (0 &&& 31)).toInt8.toInt32))) ((nI ((((n0 + 4) + 4) + 4) + 4) : Int32).toNatClampNeg) (vp_nar .byte (((v5) >>> (24 &&& 31)).toInt8.toInt32))) ((nI (((((n0 + 4) + 4) + 4) + 4) + 1) : Int32).toNatClampNeg) (vp_nar .byte (((v5) >>> (16 &&& 31)).toInt8.toInt32))) ((nI (((((n0 + 4) + 4) + 4) + 4) + 2) : Int32).toNatClampNeg) (vp_nar .byte (((v5) >>> (8 &&& 31)).toInt8.toInt32))) ((nI (((((n0 + 4) + 4) + 4) + 4) + 3) : Int32).toNatClampNeg) (vp_nar .byte (((v5) >>> (0 &&& 31)).toInt8.toInt32)))))] := hD
  refine lv_aload_n hx hb d_MM_feed_48 rfl (lv_at hl 0 rfl) ?_
  refine va_get (D := g.1) (ci := 0) (v := .int (nI (((((n0 + 4) + 4) + 4) + 4) + 4))) (C := "MacroMill") (T := F_MM) (N := 7) hx hb htt in_MM hown hK hP 0 rfl rfl 1 (by decide) (htt _ k_315) (fun _ h9 => h9) rfl d_MM_feed_49 ?_
  exact fin_i (g := g) (ws := [(h0, .inr (0, [.ref t0, .int (nI (((((n0 + 4) + 4) + 4) + 4) + 4)), .int 1, x3, x4, x5, x6])), (t0, .inl (g.2 0, 16384, .inl (upd (upd (upd (upd (upd (upd (upd (upd (upd (upd (upd (upd (upd (upd (upd (upd (upd (upd (upd (upd f0 ((nI n0 : Int32).toNatClampNeg) (vp_nar .byte (((v1) >>> (24 &&& 31)).toInt8.toInt32))) ((nI (n0 + 1) : Int32).toNatClampNeg) (vp_nar .byte (((v1) >>> (16 &&& 31)).toInt8.toInt32))) ((nI (n0 + 2) : Int32).toNatClampNeg) (vp_nar .byte (((v1) >>> (8 &&& 31)).toInt8.toInt32))) ((nI (n0 + 3) : Int32).toNatClampNeg) (vp_nar .byte (((v1) >>> (0 &&& 31)).toInt8.toInt32))) ((nI (n0 + 4) : Int32).toNatClampNeg) (vp_nar .byte (((v2) >>> (24 &&& 31)).toInt8.toInt32))) ((nI ((n0 + 4) + 1) : Int32).toNatClampNeg) (vp_nar .byte (((v2) >>> (16 &&& 31)).toInt8.toInt32))) ((nI ((n0 + 4) + 2) : Int32).toNatClampNeg) (vp_nar .byte (((v2) >>> (8 &&& 31)).toInt8.toInt32))) ((nI ((n0 + 4) + 3) : Int32).toNatClampNeg) (vp_nar .byte (((v2) >>> (0 &&& 31)).toInt8.toInt32))) ((nI ((n0 + 4) + 4) : Int32).toNatClampNeg) (vp_nar .byte (((v3) >>> (24 &&& 31)).toInt8.toInt32))) ((nI (((n0 + 4) + 4) + 1) : Int32).toNatClampNeg) (vp_nar .byte (((v3) >>> (16 &&& 31)).toInt8.toInt32))) ((nI (((n0 + 4) + 4) + 2) : Int32).toNatClampNeg) (vp_nar .byte (((v3) >>> (8 &&& 31)).toInt8.toInt32))) ((nI (((n0 + 4) + 4) + 3) : Int32).toNatClampNeg) (vp_nar .byte (((v3) >>> (0 &&& 31)).toInt8.toInt32))) ((nI (((n0 + 4) + 4) + 4) : Int32).toNatClampNeg) (vp_nar .byte (((v4) >>> (24 &&& 31)).toInt8.toInt32))) ((nI ((((n0 + 4) + 4) + 4) + 1) : Int32).toNatClampNeg) (vp_nar .byte (((v4) >>> (16 &&& 31)).toInt8.toInt32))) ((nI ((((n0 + 4) + 4) + 4) + 2) : Int32).toNatClampNeg) (vp_nar .byte (((v4) >>> (8 &&& 31)).toInt8.toInt32))) ((nI ((((n0 + 4) + 4) + 4) + 3) : Int32).toNatClampNeg) (vp_nar .byte (((v4) >>> (0 &&& 31)).toInt8.toInt32))) ((nI ((((n0 + 4) + 4) + 4) + 4) : Int32).toNatClampNeg) (vp_nar .byte (((v5) >>> (24 &&& 31)).toInt8.toInt32))) ((nI (((((n0 + 4) + 4) + 4) + 4) + 1) : Int32).toNatClampNeg) (vp_nar .byte (((v5) >>> (16 &&& 31)).toInt8.toInt32))) ((nI (((((n0 + 4) + 4) + 4) + 4) + 2) : Int32).toNatClampNeg) (vp_nar .byte (((v5) >>> (8 &&& 31)).toInt8.toInt32))) ((nI (((((n0 + 4) + 4) + 4) + 4) + 3) : Int32).toNatClampNeg) (vp_nar .byte (((v5) >>> (0 &&& 31)).toInt8.toInt32)))))]) (v := nI (((((n0 + 4) + 4) + 4) + 4) + 4)) hx hb hr hlocks (by decide +kernel) (by decide +kernel) hP hD hS rfl d_MM_feed_52
abbrev rm_MM_useTape : Room := { frames := 0, cells := 0, slots := 0, locals := 0 }
set_option maxHeartbeats 4000000 in
set_option maxRecDepth 100000 in
theorem c_MM_useTape (l : Launch) (g : gG) (sz : Nat) (h0 : Nat) (k0 : Int32) (x0 : Value) (x2 : Value) (x3 : Value) (x4 : Value) (x5 : Value) (x6 : Value) : Ci l y_MM_useTape b_MM_useTape 2 rm_MM_useTape g [.ref h0] [(h0, .inr (0, [x0, .int k0, x2, x3, x4, x5, x6]))] sz (fun r w => r = k0 ∧ w = [(h0, .inr (0, [x0, .int 0, .int 0, x3, x4, x5, x6]))]) := by
  refine startI (by decide) (Nat.le_of_ble_eq_true rfl) ?_
  intro p e s m below meth c A ls hx hb hr hml hlocks hmn hown htt hN hA hP hK hD hS hl
  have hown : s.vm.findClass "MacroMill" = some m.cls := hown
  have hl : lv_has ls 2 [(0, .ref h0)] := hl
  refine lv_aload_n hx hb d_MM_useTape_0 rfl (lv_at hl 0 rfl) ?_
  refine va_get (D := g.1) (ci := 0) (v := .int k0) (C := "MacroMill") (T := F_MM) (N := 7) hx hb htt in_MM hown hK hP 0 rfl rfl 1 (by decide) (htt _ k_315) (fun _ h9 => h9) rfl d_MM_useTape_1 ?_
  refine lv_istore_n (lv' := [(1, .int k0), (0, .ref h0)]) hx hb d_MM_useTape_4 rfl hl (by decide) rfl (fun ls hl => ?_)
  refine lv_aload_n hx hb d_MM_useTape_5 rfl (lv_at hl 1 rfl) ?_
  refine lv_iconst (v := 0) hx hb d_MM_useTape_6 (by decide) ?_
  refine va_put (D := g.1) (ci := 0) (v := .int 0) (ty := t_MM 1) (C := "MacroMill") (T := F_MM) (N := 7) hx hb htt in_MM t_MM t_MM_ok n_MM hown hK hP hD hS 0 rfl rfl 1 (by decide) (htt _ k_315) (fun _ h9 => h9) rfl (t_MM_ok 1 (by decide)) rfl rfl (Nat.le_of_ble_eq_true rfl) d_MM_useTape_7 (fun H locs hP hD hS => ?_)
  have hP : va_P g.1 classes [(h0, .inr (0, [x0, .int 0, x2, x3, x4, x5, x6]))] H := hP
  have hD : va_D A [(h0, .inr (0, [x0, .int 0, x2, x3, x4, x5, x6]))] := hD
  refine lv_aload_n hx hb d_MM_useTape_10 rfl (lv_at hl 1 rfl) ?_
  refine lv_iconst (v := 0) hx hb d_MM_useTape_11 (by decide) ?_
  refine va_put (D := g.1) (ci := 0) (v := .int 0) (ty := t_MM 2) (C := "MacroMill") (T := F_MM) (N := 7) hx hb htt in_MM t_MM t_MM_ok n_MM hown hK hP hD hS 0 rfl rfl 2 (by decide) (htt _ k_321) (fun _ h9 => h9) rfl (t_MM_ok 2 (by decide)) rfl rfl (Nat.le_of_ble_eq_true rfl) d_MM_useTape_12 (fun H locs hP hD hS => ?_)
  have hP : va_P g.1 classes [(h0, .inr (0, [x0, .int 0, .int 0, x3, x4, x5, x6]))] H := hP
  have hD : va_D A [(h0, .inr (0, [x0, .int 0, .int 0, x3, x4, x5, x6]))] := hD
  refine lv_iload_n hx hb d_MM_useTape_15 rfl (lv_at hl 0 rfl) ?_
  exact fin_i (g := g) (ws := [(h0, .inr (0, [x0, .int 0, .int 0, x3, x4, x5, x6]))]) (v := k0) hx hb hr hlocks (by decide +kernel) (by decide +kernel) hP hD hS ⟨rfl, rfl⟩ d_MM_useTape_16
abbrev rm_MM_end : Room := { frames := 0, cells := 0, slots := 0, locals := 0 }
set_option maxHeartbeats 4000000 in
set_option maxRecDepth 100000 in
theorem c_MM_end (l : Launch) (g : gG) (sz : Nat) (h0 : Nat) (v1 : Int32) (x0 : Value) (x1 : Value) (x3 : Value) (x4 : Value) (x5 : Value) (x6 : Value) : Ci l y_MM_end b_MM_end 2 rm_MM_end g [.ref h0, .int v1] [(h0, .inr (0, [x0, x1, .int 0, x3, x4, x5, x6]))] sz (fun r _ => r = (-1)) := by
  refine startI (by decide) (Nat.le_of_ble_eq_true rfl) ?_
  intro p e s m below meth c A ls hx hb hr hml hlocks hmn hown htt hN hA hP hK hD hS hl
  have hown : s.vm.findClass "MacroMill" = some m.cls := hown
  have hl : lv_has ls 2 [(0, .ref h0), (1, .int v1)] := hl
  refine lv_iload_n hx hb d_MM_end_0 rfl (lv_at hl 1 rfl) ?_
  refine lv_if_lt (tgt := 17) hx hb d_MM_end_1 (by decide) (fun h1 => ?_) (fun h1 => ?_)
  · refine lv_iconst (v := (-1)) hx hb d_MM_end_17 (by decide) ?_
    exact fin_i (g := g) (ws := [(h0, .inr (0, [x0, x1, .int 0, x3, x4, x5, x6]))]) (v := (-1)) hx hb hr hlocks (by decide +kernel) (by decide +kernel) hP hD hS rfl d_MM_end_18
  · refine lv_iload_n hx hb d_MM_end_4 rfl (lv_at hl 1 rfl) ?_
    refine lv_bipush (v := 20) hx hb d_MM_end_5 (by decide) ?_
    refine lv_icmp_gt (tgt := 17) hx hb d_MM_end_7 (by decide) (fun h2 => ?_) (fun h2 => ?_)
    · refine lv_iconst (v := (-1)) hx hb d_MM_end_17 (by decide) ?_
      exact fin_i (g := g) (ws := [(h0, .inr (0, [x0, x1, .int 0, x3, x4, x5, x6]))]) (v := (-1)) hx hb hr hlocks (by decide +kernel) (by decide +kernel) hP hD hS rfl d_MM_end_18
    · refine lv_aload_n hx hb d_MM_end_10 rfl (lv_at hl 0 rfl) ?_
      refine va_get (D := g.1) (ci := 0) (v := .int 0) (C := "MacroMill") (T := F_MM) (N := 7) hx hb htt in_MM hown hK hP 0 rfl rfl 2 (by decide) (htt _ k_321) (fun _ h9 => h9) rfl d_MM_end_11 ?_
      refine lv_if_ne (tgt := 19) hx hb d_MM_end_14 (by decide) (fun h9 => absurd (by decide) h9) (fun _ => ?_)
      refine lv_iconst (v := (-1)) hx hb d_MM_end_17 (by decide) ?_
      exact fin_i (g := g) (ws := [(h0, .inr (0, [x0, x1, .int 0, x3, x4, x5, x6]))]) (v := (-1)) hx hb hr hlocks (by decide +kernel) (by decide +kernel) hP hD hS rfl d_MM_end_18
abbrev rm_MM_file : Room := { frames := 1, cells := 0, slots := 0, locals := 21 }
set_option maxHeartbeats 4000000 in
set_option maxRecDepth 100000 in
theorem c_MM_file (l : Launch) (g : gG) (sz : Nat) (h0 : Nat) (v1 : Int32) (x0 : Value) (x2 : Value) (x3 : Value) (x4 : Value) (x5 : Value) (x6 : Value) : Ci l y_MM_file b_MM_file 3 rm_MM_file g [.ref h0, .int v1] [(h0, .inr (0, [x0, .int 0, x2, x3, x4, x5, x6]))] sz (fun r _ => r = (-1)) := by
  refine startI (by decide) (Nat.le_of_ble_eq_true rfl) ?_
  intro p e s m below meth c A ls hx hb hr hml hlocks hmn hown htt hN hA hP hK hD hS hl
  have hown : s.vm.findClass "MacroMill" = some m.cls := hown
  have hl : lv_has ls 3 [(0, .ref h0), (1, .int v1)] := hl
  refine lv_aload_n hx hb d_MM_file_0 rfl (lv_at hl 0 rfl) ?_
  refine go_i (As := [.ref h0]) (g := g) (A := A) (wc := [(h0, .inr (0, [x0, .int 0, x2, x3, x4, x5, x6]))]) (wr := []) [0] [] rfl rfl rfl rfl (by decide) hP hK hD hS hA hN (fun hp => va_runV (As := []) (rest := []) ⟨hx, hb, hml, hown, htt⟩ (c_MM_useTape l g _ h0 (0) (x0) (x2) (x3) (x4) (x5) (x6)) ⟨(cb_L htt k_322 k_317 k_323 hd_MM_useTape ⟨(by decide +kernel), (by decide +kernel)⟩), htt _ k_324, htt _ k_325⟩ ⟨hp.1, va_recv hK hP (ci := 0) (q0 := 0) rfl rfl, hp.2⟩ rfl rfl hl.1 rfl (lv_room (Nat.le_of_ble_eq_true rfl)) d_MM_file_1 ⟨(by decide +kernel), (by decide +kernel)⟩) (fun r9 w9 H locs hw9 hP hD hS => ?_)
  obtain ⟨rfl, rfl⟩ := hw9
  refine W.widen (k := 0) (n := 0) (by decide +kernel) (by decide +kernel) ?_
  have hP : va_P g.1 classes [(h0, .inr (0, [x0, .int 0, .int 0, x3, x4, x5, x6]))] H := hP
  have hD : va_D A [(h0, .inr (0, [x0, .int 0, .int 0, x3, x4, x5, x6]))] := hD
  refine lv_istore_n (lv' := [(2, .int 0), (0, .ref h0), (1, .int v1)]) hx hb d_MM_file_4 rfl hl (by decide) rfl (fun ls hl => ?_)
  refine lv_iload_n hx hb d_MM_file_5 rfl (lv_at hl 2 rfl) ?_
  refine lv_iconst (v := 1) hx hb d_MM_file_6 (by decide) ?_
  refine lv_icmp_lt (tgt := 21) hx hb d_MM_file_7 (by decide) (fun h1 => ?_) (fun h1 => ?_)
  · refine lv_iconst (v := (-1)) hx hb d_MM_file_21 (by decide) ?_
    exact fin_i (g := g) (ws := [(h0, .inr (0, [x0, .int 0, .int 0, x3, x4, x5, x6]))]) (v := (-1)) hx hb hr hlocks (by decide +kernel) (by decide +kernel) hP hD hS rfl d_MM_file_22
  · refine lv_iload_n hx hb d_MM_file_10 rfl (lv_at hl 2 rfl) ?_
    refine lv_bipush (v := 64) hx hb d_MM_file_11 (by decide) ?_
    refine lv_icmp_gt (tgt := 21) hx hb d_MM_file_13 (by decide) (fun h2 => ?_) (fun h2 => ?_)
    · refine lv_iconst (v := (-1)) hx hb d_MM_file_21 (by decide) ?_
      exact fin_i (g := g) (ws := [(h0, .inr (0, [x0, .int 0, .int 0, x3, x4, x5, x6]))]) (v := (-1)) hx hb hr hlocks (by decide +kernel) (by decide +kernel) hP hD hS rfl d_MM_file_22
    · refine lv_iload_n hx hb d_MM_file_16 rfl (lv_at hl 2 rfl) ?_
      refine lv_iload_n hx hb d_MM_file_17 rfl (lv_at hl 0 rfl) ?_
      show W _ _ _ _ _ _ _ _ _ _ _ _ _ _ _ (F0 _ 18 _ _)
      refine lv_icmp_le (tgt := 23) hx hb d_MM_file_18 (by decide) (fun h9 => absurd h9 (x_nle0 h1)) (fun _ => ?_)
      refine lv_iconst (v := (-1)) hx hb d_MM_file_21 (by decide) ?_
      exact fin_i (g := g) (ws := [(h0, .inr (0, [x0, .int 0, .int 0, x3, x4, x5, x6]))]) (v := (-1)) hx hb hr hlocks (by decide +kernel) (by decide +kernel) hP hD hS rfl d_MM_file_22
abbrev rm_MM_write : Room := { frames := 1, cells := 0, slots := 0, locals := 21 }
set_option maxHeartbeats 4000000 in
set_option maxRecDepth 100000 in
theorem c_MM_write (l : Launch) (g : gG) (sz : Nat) (h0 : Nat) (v1 : Int32) (q0 : Nat) (x0 : Value) (x2 : Value) (x4 : Value) (x5 : Value) (x6 : Value) (u0 : Value) (u1 : Value) (u2 : Value) (u3 : Value) : Ci l y_MM_write b_MM_write 3 rm_MM_write g [.ref h0, .int v1] [(h0, .inr (0, [x0, .int 0, x2, .ref q0, x4, x5, x6])), (q0, .inr (1, [u0, u1, u2, u3, .int 0]))] sz (fun r _ => r = (-1)) := by
  refine startI (by decide) (Nat.le_of_ble_eq_true rfl) ?_
  intro p e s m below meth c A ls hx hb hr hml hlocks hmn hown htt hN hA hP hK hD hS hl
  have hown : s.vm.findClass "MacroMill" = some m.cls := hown
  have hl : lv_has ls 3 [(0, .ref h0), (1, .int v1)] := hl
  refine lv_aload_n hx hb d_MM_write_0 rfl (lv_at hl 0 rfl) ?_
  refine go_i (As := [.ref h0]) (g := g) (A := A) (wc := [(h0, .inr (0, [x0, .int 0, x2, .ref q0, x4, x5, x6]))]) (wr := [(q0, .inr (1, [u0, u1, u2, u3, .int 0]))]) [0] [1] rfl rfl rfl rfl (by decide) hP hK hD hS hA hN (fun hp => va_runV (As := []) (rest := []) ⟨hx, hb, hml, hown, htt⟩ (c_MM_useTape l g _ h0 (0) (x0) (x2) (.ref q0) (x4) (x5) (x6)) ⟨(cb_L htt k_322 k_317 k_323 hd_MM_useTape ⟨(by decide +kernel), (by decide +kernel)⟩), htt _ k_324, htt _ k_325⟩ ⟨hp.1, va_recv hK hP (ci := 0) (q0 := 0) rfl rfl, hp.2⟩ rfl rfl hl.1 rfl (lv_room (Nat.le_of_ble_eq_true rfl)) d_MM_write_1 ⟨(by decide +kernel), (by decide +kernel)⟩) (fun r9 w9 H locs hw9 hP hD hS => ?_)
  obtain ⟨rfl, rfl⟩ := hw9
  refine W.widen (k := 0) (n := 0) (by decide +kernel) (by decide +kernel) ?_
  have hP : va_P g.1 classes [(q0, .inr (1, [u0, u1, u2, u3, .int 0])), (h0, .inr (0, [x0, .int 0, .int 0, .ref q0, x4, x5, x6]))] H := hP
  have hD : va_D A [(q0, .inr (1, [u0, u1, u2, u3, .int 0])), (h0, .inr (0, [x0, .int 0, .int 0, .ref q0, x4, x5, x6]))] := hD
  refine lv_istore_n (lv' := [(2, .int 0), (0, .ref h0), (1, .int v1)]) hx hb d_MM_write_4 rfl hl (by decide) rfl (fun ls hl => ?_)
  refine lv_iload_n hx hb d_MM_write_5 rfl (lv_at hl 2 rfl) ?_
  refine lv_if_lt (tgt := 20) hx hb d_MM_write_6 (by decide) (fun h1 => ?_) (fun h1 => ?_)
  · refine lv_iconst (v := (-1)) hx hb d_MM_write_20 (by decide) ?_
    exact fin_i (g := g) (ws := [(q0, .inr (1, [u0, u1, u2, u3, .int 0])), (h0, .inr (0, [x0, .int 0, .int 0, .ref q0, x4, x5, x6]))]) (v := (-1)) hx hb hr hlocks (by decide +kernel) (by decide +kernel) hP hD hS rfl d_MM_write_21
  · refine lv_iload_n hx hb d_MM_write_9 rfl (lv_at hl 2 rfl) ?_
    refine lv_aload_n hx hb d_MM_write_10 rfl (lv_at hl 1 rfl) ?_
    refine va_get (D := g.1) (ci := 0) (v := .ref q0) (C := "MacroMill") (T := F_MM) (N := 7) hx hb htt in_MM hown hK hP 1 rfl rfl 3 (by decide) (htt _ k_210) (fun _ h9 => h9) rfl d_MM_write_11 ?_
    refine va_get (D := g.1) (ci := 1) (v := .int 0) (C := "MacroMill$Files") (T := F_Files) (N := 5) hx hb htt in_Files hown hK hP 0 rfl rfl 4 (by decide) (htt _ k_326) (fun _ h9 => h9) rfl d_MM_write_14 ?_
    refine lv_icmp_lt (tgt := 22) hx hb d_MM_write_17 (by decide) (fun h9 => absurd h9 h1) (fun _ => ?_)
    refine lv_iconst (v := (-1)) hx hb d_MM_write_20 (by decide) ?_
    show W _ _ _ _ _ _ _ _ _ _ _ _ _ _ _ (F0 _ 21 _ _)
    exact fin_i (g := g) (ws := [(q0, .inr (1, [u0, u1, u2, u3, .int 0])), (h0, .inr (0, [x0, .int 0, .int 0, .ref q0, x4, x5, x6]))]) (v := (-1)) hx hb hr hlocks (by decide +kernel) (by decide +kernel) hP hD hS rfl d_MM_write_21
abbrev rm_MM_clear : Room := { frames := 0, cells := 0, slots := 0, locals := 0 }
set_option maxHeartbeats 4000000 in
set_option maxRecDepth 100000 in
theorem c_MM_clear (l : Launch) (g : gG) (sz : Nat) (h0 : Nat) (q0 : Nat) (x0 : Value) (x1 : Value) (x2 : Value) (x4 : Value) (x5 : Value) (x6 : Value) (u0 : Value) (u1 : Value) (u2 : Value) (u3 : Value) : Ci l y_MM_clear b_MM_clear 2 rm_MM_clear g [.ref h0] [(h0, .inr (0, [x0, x1, x2, .ref q0, x4, x5, x6])), (q0, .inr (1, [u0, u1, u2, u3, .int 0]))] sz (fun r _ => r = 0) := by
  refine startI (by decide) (Nat.le_of_ble_eq_true rfl) ?_
  intro p e s m below meth c A ls hx hb hr hml hlocks hmn hown htt hN hA hP hK hD hS hl
  have hown : s.vm.findClass "MacroMill" = some m.cls := hown
  have hl : lv_has ls 2 [(0, .ref h0)] := hl
  refine lv_aload_n hx hb d_MM_clear_0 rfl (lv_at hl 0 rfl) ?_
  refine va_get (D := g.1) (ci := 0) (v := .ref q0) (C := "MacroMill") (T := F_MM) (N := 7) hx hb htt in_MM hown hK hP 0 rfl rfl 3 (by decide) (htt _ k_210) (fun _ h9 => h9) rfl d_MM_clear_1 ?_
  refine va_get (D := g.1) (ci := 1) (v := .int 0) (C := "MacroMill$Files") (T := F_Files) (N := 5) hx hb htt in_Files hown hK hP 1 rfl rfl 4 (by decide) (htt _ k_326) (fun _ h9 => h9) rfl d_MM_clear_4 ?_
  refine lv_istore_n (lv' := [(1, .int 0), (0, .ref h0)]) hx hb d_MM_clear_7 rfl hl (by decide) rfl (fun ls hl => ?_)
  refine lv_aload_n hx hb d_MM_clear_8 rfl (lv_at hl 1 rfl) ?_
  refine va_get (D := g.1) (ci := 0) (v := .ref q0) (C := "MacroMill") (T := F_MM) (N := 7) hx hb htt in_MM hown hK hP 0 rfl rfl 3 (by decide) (htt _ k_210) (fun _ h9 => h9) rfl d_MM_clear_9 ?_
  refine lv_iconst (v := 0) hx hb d_MM_clear_12 (by decide) ?_
  refine va_put (D := g.1) (ci := 1) (v := .int 0) (ty := t_Files 4) (C := "MacroMill$Files") (T := F_Files) (N := 5) hx hb htt in_Files t_Files t_Files_ok n_Files hown hK hP hD hS 1 rfl rfl 4 (by decide) (htt _ k_326) (fun _ h9 => h9) rfl (t_Files_ok 4 (by decide)) rfl rfl (Nat.le_of_ble_eq_true rfl) d_MM_clear_13 (fun H locs hP hD hS => ?_)
  have hP : va_P g.1 classes [(h0, .inr (0, [x0, x1, x2, .ref q0, x4, x5, x6])), (q0, .inr (1, [u0, u1, u2, u3, .int 0]))] H := hP
  have hD : va_D A [(h0, .inr (0, [x0, x1, x2, .ref q0, x4, x5, x6])), (q0, .inr (1, [u0, u1, u2, u3, .int 0]))] := hD
  refine lv_iload_n hx hb d_MM_clear_16 rfl (lv_at hl 0 rfl) ?_
  exact fin_i (g := g) (ws := [(h0, .inr (0, [x0, x1, x2, .ref q0, x4, x5, x6])), (q0, .inr (1, [u0, u1, u2, u3, .int 0]))]) (v := 0) hx hb hr hlocks (by decide +kernel) (by decide +kernel) hP hD hS rfl d_MM_clear_17
abbrev rm_MM_run : Room := { frames := 0, cells := 0, slots := 0, locals := 0 }
set_option maxHeartbeats 4000000 in
set_option maxRecDepth 100000 in
theorem c_MM_run (l : Launch) (g : gG) (sz : Nat) (h0 : Nat) (v1 : Int32) (v2 : Int32) (v3 : Int32) (v4 : Int32) (q0 : Nat) (x0 : Value) (x1 : Value) (x2 : Value) (x4 : Value) (x5 : Value) (x6 : Value) (u0 : Value) (u1 : Value) (u2 : Value) (u3 : Value) : Ci l y_MM_run b_MM_run 5 rm_MM_run g [.ref h0, .int v1, .int v2, .int v3, .int v4] [(h0, .inr (0, [x0, x1, x2, .ref q0, x4, x5, x6])), (q0, .inr (1, [u0, u1, u2, u3, .int 0]))] sz (fun r _ => r = (-1)) := by
  refine startI (by decide) (Nat.le_of_ble_eq_true rfl) ?_
  intro p e s m below meth c A ls hx hb hr hml hlocks hmn hown htt hN hA hP hK hD hS hl
  have hown : s.vm.findClass "MacroMill" = some m.cls := hown
  have hl : lv_has ls 5 [(0, .ref h0), (1, .int v1), (2, .int v2), (3, .int v3), (4, .int v4)] := hl
  refine lv_iload_n hx hb d_MM_run_0 rfl (lv_at hl 1 rfl) ?_
  refine lv_if_lt (tgt := 25) hx hb d_MM_run_1 (by decide) (fun h1 => ?_) (fun h1 => ?_)
  · refine lv_iconst (v := (-1)) hx hb d_MM_run_25 (by decide) ?_
    exact fin_i (g := g) (ws := [(h0, .inr (0, [x0, x1, x2, .ref q0, x4, x5, x6])), (q0, .inr (1, [u0, u1, u2, u3, .int 0]))]) (v := (-1)) hx hb hr hlocks (by decide +kernel) (by decide +kernel) hP hD hS rfl d_MM_run_26
  · refine lv_iload_n hx hb d_MM_run_4 rfl (lv_at hl 1 rfl) ?_
    refine lv_aload_n hx hb d_MM_run_5 rfl (lv_at hl 0 rfl) ?_
    refine va_get (D := g.1) (ci := 0) (v := .ref q0) (C := "MacroMill") (T := F_MM) (N := 7) hx hb htt in_MM hown hK hP 0 rfl rfl 3 (by decide) (htt _ k_210) (fun _ h9 => h9) rfl d_MM_run_6 ?_
    refine va_get (D := g.1) (ci := 1) (v := .int 0) (C := "MacroMill$Files") (T := F_Files) (N := 5) hx hb htt in_Files hown hK hP 1 rfl rfl 4 (by decide) (htt _ k_326) (fun _ h9 => h9) rfl d_MM_run_9 ?_
    refine lv_icmp_ge (tgt := 25) hx hb d_MM_run_12 (by decide) (fun _ => ?_) (fun h9 => absurd (x_ge0 h1) h9)
    refine lv_iconst (v := (-1)) hx hb d_MM_run_25 (by decide) ?_
    exact fin_i (g := g) (ws := [(h0, .inr (0, [x0, x1, x2, .ref q0, x4, x5, x6])), (q0, .inr (1, [u0, u1, u2, u3, .int 0]))]) (v := (-1)) hx hb hr hlocks (by decide +kernel) (by decide +kernel) hP hD hS rfl d_MM_run_26
abbrev rm_MM_told : Room := { frames := 0, cells := 0, slots := 0, locals := 0 }
set_option maxHeartbeats 4000000 in
set_option maxRecDepth 100000 in
theorem c_MM_told (l : Launch) (g : gG) (sz : Nat) (h0 : Nat) (v1 : Int32) (q0 : Nat) (s0 : Nat) (m0 : Nat) (x0 : Value) (x1 : Value) (x2 : Value) (x3 : Value) (x5 : Value) (u0 : Value) (u1 : Value) (u2 : Value) (u5 : Value) (u9 : Value) (y0 : Value) (y1 : Value) (y2 : Value) (y3 : Value) (y5 : Value) (y6 : Value) (y7 : Value) (y8 : Value) (y9 : Value) (y10 : Value) (y11 : Value) (y12 : Value) (y13 : Value) (y14 : Value) (y15 : Value) (y16 : Value) (y17 : Value) (y18 : Value) (y19 : Value) (y20 : Value) (y21 : Value) (w0 : Value) (w1 : Value) (w2 : Value) (w3 : Value) (w4 : Value) (w6 : Value) (w7 : Value) (w8 : Value) (w9 : Value) (w10 : Value) (w11 : Value) (w12 : Value) (w13 : Value) (w14 : Value) (w15 : Value) (w16 : Value) (w17 : Value) (w18 : Value) : Ci l y_MM_told b_MM_told 2 rm_MM_told g [.ref h0, .int v1] [(h0, .inr (0, [x0, x1, x2, x3, .ref q0, x5, .ref s0])), (q0, .inr (2, [u0, u1, u2, .int 0, .int 0, u5, .int 0, .int 0, .int 0, u9])), (s0, .inr (8, [y0, y1, y2, y3, .ref m0, y5, y6, y7, y8, y9, y10, y11, y12, y13, y14, y15, y16, y17, y18, y19, y20, y21])), (m0, .inr (10, [w0, w1, w2, w3, w4, .int 0, w6, w7, w8, w9, w10, w11, w12, w13, w14, w15, w16, w17, w18]))] sz (fun r _ => r = tl v1) := by
  refine startI (by decide) (Nat.le_of_ble_eq_true rfl) ?_
  intro p e s m below meth c A ls hx hb hr hml hlocks hmn hown htt hN hA hP hK hD hS hl
  have hown : s.vm.findClass "MacroMill" = some m.cls := hown
  have hl : lv_has ls 2 [(0, .ref h0), (1, .int v1)] := hl
  refine lv_iload_n hx hb d_MM_told_0 rfl (lv_at hl 1 rfl) ?_
  by_cases ho : v1.toInt < 0 ∨ 5 < v1.toInt
  · refine lv_tableOut (tgt := 91) hx hb d_MM_told_1 ho (by decide) ?_
    refine lv_iconst (v := (-1)) hx hb d_MM_told_91 (by decide) ?_
    exact fin_i (g := g) (ws := [(h0, .inr (0, [x0, x1, x2, x3, .ref q0, x5, .ref s0])), (q0, .inr (2, [u0, u1, u2, .int 0, .int 0, u5, .int 0, .int 0, .int 0, u9])), (s0, .inr (8, [y0, y1, y2, y3, .ref m0, y5, y6, y7, y8, y9, y10, y11, y12, y13, y14, y15, y16, y17, y18, y19, y20, y21])), (m0, .inr (10, [w0, w1, w2, w3, w4, .int 0, w6, w7, w8, w9, w10, w11, w12, w13, w14, w15, w16, w17, w18]))]) (v := (-1)) hx hb hr hlocks (by decide +kernel) (by decide +kernel) hP hD hS (tl_out ho) d_MM_told_92
  · have h6 : v1.toInt = 0 ∨ v1.toInt = 1 ∨ v1.toInt = 2 ∨ v1.toInt = 3 ∨ v1.toInt = 4 ∨ v1.toInt = 5 := by omega
    rcases h6 with h6 | h6 | h6 | h6 | h6 | h6
    · refine lv_tableIn (tgt := 40) (off := 39) hx hb d_MM_told_1 (by omega) (by omega) (by rw [h6]; rfl) (by decide) ?_
      refine lv_aload_n hx hb d_MM_told_40 rfl (lv_at hl 0 rfl) ?_
      refine va_get (D := g.1) (ci := 0) (v := .ref q0) (C := "MacroMill") (T := F_MM) (N := 7) hx hb htt in_MM hown hK hP 0 rfl rfl 4 (by decide) (htt _ k_216) (fun _ h9 => h9) rfl d_MM_told_41 ?_
      refine va_get (D := g.1) (ci := 2) (v := .int 0) (C := "MacroMill$Outcome") (T := F_Outcome) (N := 10) hx hb htt in_Outcome hown hK hP 1 rfl rfl 3 (by decide) (htt _ k_327) (fun _ h9 => h9) rfl d_MM_told_44 ?_
      exact fin_i (g := g) (ws := [(h0, .inr (0, [x0, x1, x2, x3, .ref q0, x5, .ref s0])), (q0, .inr (2, [u0, u1, u2, .int 0, .int 0, u5, .int 0, .int 0, .int 0, u9])), (s0, .inr (8, [y0, y1, y2, y3, .ref m0, y5, y6, y7, y8, y9, y10, y11, y12, y13, y14, y15, y16, y17, y18, y19, y20, y21])), (m0, .inr (10, [w0, w1, w2, w3, w4, .int 0, w6, w7, w8, w9, w10, w11, w12, w13, w14, w15, w16, w17, w18]))]) (v := 0) hx hb hr hlocks (by decide +kernel) (by decide +kernel) hP hD hS (tl_in ho) d_MM_told_47
    · refine lv_tableIn (tgt := 48) (off := 47) hx hb d_MM_told_1 (by omega) (by omega) (by rw [h6]; rfl) (by decide) ?_
      refine lv_aload_n hx hb d_MM_told_48 rfl (lv_at hl 0 rfl) ?_
      refine va_get (D := g.1) (ci := 0) (v := .ref q0) (C := "MacroMill") (T := F_MM) (N := 7) hx hb htt in_MM hown hK hP 0 rfl rfl 4 (by decide) (htt _ k_216) (fun _ h9 => h9) rfl d_MM_told_49 ?_
      refine va_get (D := g.1) (ci := 2) (v := .int 0) (C := "MacroMill$Outcome") (T := F_Outcome) (N := 10) hx hb htt in_Outcome hown hK hP 1 rfl rfl 4 (by decide) (htt _ k_328) (fun _ h9 => h9) rfl d_MM_told_52 ?_
      exact fin_i (g := g) (ws := [(h0, .inr (0, [x0, x1, x2, x3, .ref q0, x5, .ref s0])), (q0, .inr (2, [u0, u1, u2, .int 0, .int 0, u5, .int 0, .int 0, .int 0, u9])), (s0, .inr (8, [y0, y1, y2, y3, .ref m0, y5, y6, y7, y8, y9, y10, y11, y12, y13, y14, y15, y16, y17, y18, y19, y20, y21])), (m0, .inr (10, [w0, w1, w2, w3, w4, .int 0, w6, w7, w8, w9, w10, w11, w12, w13, w14, w15, w16, w17, w18]))]) (v := 0) hx hb hr hlocks (by decide +kernel) (by decide +kernel) hP hD hS (tl_in ho) d_MM_told_55
    · refine lv_tableIn (tgt := 56) (off := 55) hx hb d_MM_told_1 (by omega) (by omega) (by rw [h6]; rfl) (by decide) ?_
      refine lv_aload_n hx hb d_MM_told_56 rfl (lv_at hl 0 rfl) ?_
      refine va_get (D := g.1) (ci := 0) (v := .ref q0) (C := "MacroMill") (T := F_MM) (N := 7) hx hb htt in_MM hown hK hP 0 rfl rfl 4 (by decide) (htt _ k_216) (fun _ h9 => h9) rfl d_MM_told_57 ?_
      refine va_get (D := g.1) (ci := 2) (v := .int 0) (C := "MacroMill$Outcome") (T := F_Outcome) (N := 10) hx hb htt in_Outcome hown hK hP 1 rfl rfl 6 (by decide) (htt _ k_329) (fun _ h9 => h9) rfl d_MM_told_60 ?_
      exact fin_i (g := g) (ws := [(h0, .inr (0, [x0, x1, x2, x3, .ref q0, x5, .ref s0])), (q0, .inr (2, [u0, u1, u2, .int 0, .int 0, u5, .int 0, .int 0, .int 0, u9])), (s0, .inr (8, [y0, y1, y2, y3, .ref m0, y5, y6, y7, y8, y9, y10, y11, y12, y13, y14, y15, y16, y17, y18, y19, y20, y21])), (m0, .inr (10, [w0, w1, w2, w3, w4, .int 0, w6, w7, w8, w9, w10, w11, w12, w13, w14, w15, w16, w17, w18]))]) (v := 0) hx hb hr hlocks (by decide +kernel) (by decide +kernel) hP hD hS (tl_in ho) d_MM_told_63
    · refine lv_tableIn (tgt := 64) (off := 63) hx hb d_MM_told_1 (by omega) (by omega) (by rw [h6]; rfl) (by decide) ?_
      refine lv_aload_n hx hb d_MM_told_64 rfl (lv_at hl 0 rfl) ?_
      refine va_get (D := g.1) (ci := 0) (v := .ref q0) (C := "MacroMill") (T := F_MM) (N := 7) hx hb htt in_MM hown hK hP 0 rfl rfl 4 (by decide) (htt _ k_216) (fun _ h9 => h9) rfl d_MM_told_65 ?_
      refine va_get (D := g.1) (ci := 2) (v := .int 0) (C := "MacroMill$Outcome") (T := F_Outcome) (N := 10) hx hb htt in_Outcome hown hK hP 1 rfl rfl 7 (by decide) (htt _ k_330) (fun _ h9 => h9) rfl d_MM_told_68 ?_
      exact fin_i (g := g) (ws := [(h0, .inr (0, [x0, x1, x2, x3, .ref q0, x5, .ref s0])), (q0, .inr (2, [u0, u1, u2, .int 0, .int 0, u5, .int 0, .int 0, .int 0, u9])), (s0, .inr (8, [y0, y1, y2, y3, .ref m0, y5, y6, y7, y8, y9, y10, y11, y12, y13, y14, y15, y16, y17, y18, y19, y20, y21])), (m0, .inr (10, [w0, w1, w2, w3, w4, .int 0, w6, w7, w8, w9, w10, w11, w12, w13, w14, w15, w16, w17, w18]))]) (v := 0) hx hb hr hlocks (by decide +kernel) (by decide +kernel) hP hD hS (tl_in ho) d_MM_told_71
    · refine lv_tableIn (tgt := 72) (off := 71) hx hb d_MM_told_1 (by omega) (by omega) (by rw [h6]; rfl) (by decide) ?_
      refine lv_aload_n hx hb d_MM_told_72 rfl (lv_at hl 0 rfl) ?_
      refine va_get (D := g.1) (ci := 0) (v := .ref q0) (C := "MacroMill") (T := F_MM) (N := 7) hx hb htt in_MM hown hK hP 0 rfl rfl 4 (by decide) (htt _ k_216) (fun _ h9 => h9) rfl d_MM_told_73 ?_
      refine va_get (D := g.1) (ci := 2) (v := .int 0) (C := "MacroMill$Outcome") (T := F_Outcome) (N := 10) hx hb htt in_Outcome hown hK hP 1 rfl rfl 8 (by decide) (htt _ k_331) (fun _ h9 => h9) rfl d_MM_told_76 ?_
      exact fin_i (g := g) (ws := [(h0, .inr (0, [x0, x1, x2, x3, .ref q0, x5, .ref s0])), (q0, .inr (2, [u0, u1, u2, .int 0, .int 0, u5, .int 0, .int 0, .int 0, u9])), (s0, .inr (8, [y0, y1, y2, y3, .ref m0, y5, y6, y7, y8, y9, y10, y11, y12, y13, y14, y15, y16, y17, y18, y19, y20, y21])), (m0, .inr (10, [w0, w1, w2, w3, w4, .int 0, w6, w7, w8, w9, w10, w11, w12, w13, w14, w15, w16, w17, w18]))]) (v := 0) hx hb hr hlocks (by decide +kernel) (by decide +kernel) hP hD hS (tl_in ho) d_MM_told_79
    · refine lv_tableIn (tgt := 80) (off := 79) hx hb d_MM_told_1 (by omega) (by omega) (by rw [h6]; rfl) (by decide) ?_
      refine lv_aload_n hx hb d_MM_told_80 rfl (lv_at hl 0 rfl) ?_
      refine va_get (D := g.1) (ci := 0) (v := .ref s0) (C := "MacroMill") (T := F_MM) (N := 7) hx hb htt in_MM hown hK hP 0 rfl rfl 6 (by decide) (htt _ k_234) (fun _ h9 => h9) rfl d_MM_told_81 ?_
      refine va_get (D := g.1) (ci := 8) (v := .ref m0) (C := "MacroMill$Second") (T := F_Second) (N := 22) hx hb htt in_Second hown hK hP 2 rfl rfl 4 (by decide) (htt _ k_332) (fun _ h9 => h9) rfl d_MM_told_84 ?_
      refine va_get (D := g.1) (ci := 10) (v := .int 0) (C := "MacroMill$Macros") (T := F_Macros) (N := 19) hx hb htt in_Macros hown hK hP 3 rfl rfl 5 (by decide) (htt _ k_333) (fun _ h9 => h9) rfl d_MM_told_87 ?_
      exact fin_i (g := g) (ws := [(h0, .inr (0, [x0, x1, x2, x3, .ref q0, x5, .ref s0])), (q0, .inr (2, [u0, u1, u2, .int 0, .int 0, u5, .int 0, .int 0, .int 0, u9])), (s0, .inr (8, [y0, y1, y2, y3, .ref m0, y5, y6, y7, y8, y9, y10, y11, y12, y13, y14, y15, y16, y17, y18, y19, y20, y21])), (m0, .inr (10, [w0, w1, w2, w3, w4, .int 0, w6, w7, w8, w9, w10, w11, w12, w13, w14, w15, w16, w17, w18]))]) (v := 0) hx hb hr hlocks (by decide +kernel) (by decide +kernel) hP hD hS (tl_in ho) d_MM_told_90
abbrev rm_MM_size : Room := { frames := 0, cells := 0, slots := 0, locals := 0 }
set_option maxHeartbeats 4000000 in
set_option maxRecDepth 100000 in
theorem c_MM_size (l : Launch) (g : gG) (sz : Nat) (h0 : Nat) (q0 : Nat) (x0 : Value) (x1 : Value) (x2 : Value) (x3 : Value) (x5 : Value) (x6 : Value) (u0 : Value) (u2 : Value) (u3 : Value) (u4 : Value) (u5 : Value) (u6 : Value) (u7 : Value) (u8 : Value) (u9 : Value) : Ci l y_MM_size b_MM_size 1 rm_MM_size g [.ref h0] [(h0, .inr (0, [x0, x1, x2, x3, .ref q0, x5, x6])), (q0, .inr (2, [u0, .int 0, u2, u3, u4, u5, u6, u7, u8, u9]))] sz (fun r _ => r = 0) := by
  refine startI (by decide) (Nat.le_of_ble_eq_true rfl) ?_
  intro p e s m below meth c A ls hx hb hr hml hlocks hmn hown htt hN hA hP hK hD hS hl
  have hown : s.vm.findClass "MacroMill" = some m.cls := hown
  have hl : lv_has ls 1 [(0, .ref h0)] := hl
  refine lv_aload_n hx hb d_MM_size_0 rfl (lv_at hl 0 rfl) ?_
  refine va_get (D := g.1) (ci := 0) (v := .ref q0) (C := "MacroMill") (T := F_MM) (N := 7) hx hb htt in_MM hown hK hP 0 rfl rfl 4 (by decide) (htt _ k_216) (fun _ h9 => h9) rfl d_MM_size_1 ?_
  refine va_get (D := g.1) (ci := 2) (v := .int 0) (C := "MacroMill$Outcome") (T := F_Outcome) (N := 10) hx hb htt in_Outcome hown hK hP 1 rfl rfl 1 (by decide) (htt _ k_334) (fun _ h9 => h9) rfl d_MM_size_4 ?_
  exact fin_i (g := g) (ws := [(h0, .inr (0, [x0, x1, x2, x3, .ref q0, x5, x6])), (q0, .inr (2, [u0, .int 0, u2, u3, u4, u5, u6, u7, u8, u9]))]) (v := 0) hx hb hr hlocks (by decide +kernel) (by decide +kernel) hP hD hS rfl d_MM_size_7
abbrev rm_MM_astray : Room := { frames := 0, cells := 0, slots := 0, locals := 0 }
set_option maxHeartbeats 4000000 in
set_option maxRecDepth 100000 in
theorem c_MM_astray (l : Launch) (g : gG) (sz : Nat) (h0 : Nat) (q0 : Nat) (x0 : Value) (x1 : Value) (x2 : Value) (x3 : Value) (x5 : Value) (x6 : Value) (u0 : Value) (u1 : Value) (u2 : Value) (u3 : Value) (u4 : Value) (u5 : Value) (u6 : Value) (u7 : Value) (u8 : Value) : Ci l y_MM_astray b_MM_astray 1 rm_MM_astray g [.ref h0] [(h0, .inr (0, [x0, x1, x2, x3, .ref q0, x5, x6])), (q0, .inr (2, [u0, u1, u2, u3, u4, u5, u6, u7, u8, .int 0]))] sz (fun r _ => r = 0) := by
  refine startI (by decide) (Nat.le_of_ble_eq_true rfl) ?_
  intro p e s m below meth c A ls hx hb hr hml hlocks hmn hown htt hN hA hP hK hD hS hl
  have hown : s.vm.findClass "MacroMill" = some m.cls := hown
  have hl : lv_has ls 1 [(0, .ref h0)] := hl
  refine lv_aload_n hx hb d_MM_astray_0 rfl (lv_at hl 0 rfl) ?_
  refine va_get (D := g.1) (ci := 0) (v := .ref q0) (C := "MacroMill") (T := F_MM) (N := 7) hx hb htt in_MM hown hK hP 0 rfl rfl 4 (by decide) (htt _ k_216) (fun _ h9 => h9) rfl d_MM_astray_1 ?_
  refine va_get (D := g.1) (ci := 2) (v := .int 0) (C := "MacroMill$Outcome") (T := F_Outcome) (N := 10) hx hb htt in_Outcome hown hK hP 1 rfl rfl 9 (by decide) (htt _ k_335) (fun _ h9 => h9) rfl d_MM_astray_4 ?_
  exact fin_i (g := g) (ws := [(h0, .inr (0, [x0, x1, x2, x3, .ref q0, x5, x6])), (q0, .inr (2, [u0, u1, u2, u3, u4, u5, u6, u7, u8, .int 0]))]) (v := 0) hx hb hr hlocks (by decide +kernel) (by decide +kernel) hP hD hS rfl d_MM_astray_7
abbrev rm_MM_word0 : Room := { frames := 0, cells := 0, slots := 0, locals := 0 }
set_option maxHeartbeats 4000000 in
set_option maxRecDepth 100000 in
theorem c_MM_word0 (l : Launch) (g : gG) (sz : Nat) (h0 : Nat) (q0 : Nat) (x0 : Value) (x1 : Value) (x2 : Value) (x3 : Value) (x5 : Value) (x6 : Value) (u0 : Value) (u2 : Value) (u3 : Value) (u4 : Value) (u5 : Value) (u6 : Value) (u7 : Value) (u8 : Value) (u9 : Value) : Cl l y_MM_word b_MM_word 6 rm_MM_word0 g [.ref h0, .int 0] [(h0, .inr (0, [x0, x1, x2, x3, .ref q0, x5, x6])), (q0, .inr (2, [u0, .int 0, u2, u3, u4, u5, u6, u7, u8, u9]))] sz (fun r _ => r = 0) := by
  refine startL (by decide) (Nat.le_of_ble_eq_true rfl) ?_
  intro p e s m below meth c A ls hx hb hr hml hlocks hmn hown htt hN hA hP hK hD hS hl
  have hown : s.vm.findClass "MacroMill" = some m.cls := hown
  have hl : lv_has ls 6 [(0, .ref h0), (1, .int 0)] := hl
  refine lv_iload_n hx hb d_MM_word_0 rfl (lv_at hl 1 rfl) ?_
  refine lv_if_lt (tgt := 18) hx hb d_MM_word_1 (by decide) (fun h9 => absurd h9 (by decide)) (fun _ => ?_)
  refine lv_iload_n hx hb d_MM_word_4 rfl (lv_at hl 1 rfl) ?_
  refine lv_aload_n hx hb d_MM_word_5 rfl (lv_at hl 0 rfl) ?_
  refine va_get (D := g.1) (ci := 0) (v := .ref q0) (C := "MacroMill") (T := F_MM) (N := 7) hx hb htt in_MM hown hK hP 0 rfl rfl 4 (by decide) (htt _ k_216) (fun _ h9 => h9) rfl d_MM_word_6 ?_
  refine va_get (D := g.1) (ci := 2) (v := .int 0) (C := "MacroMill$Outcome") (T := F_Outcome) (N := 10) hx hb htt in_Outcome hown hK hP 1 rfl rfl 1 (by decide) (htt _ k_334) (fun _ h9 => h9) rfl d_MM_word_9 ?_
  refine lv_bipush (v := 8) hx hb d_MM_word_12 (by decide) ?_
  refine lv_idiv hx hb d_MM_word_14 (by decide) ?_
  refine toI (y := 0) (by decide) ?_
  refine lv_icmp_le (tgt := 20) hx hb d_MM_word_15 (by decide) (fun _ => ?_) (fun h9 => absurd (by decide) h9)
  refine lv_lconst (v := 0) hx hb d_MM_word_20 (by decide) ?_
  refine lv_lstore_n (lv' := [(2, .long 0), (0, .ref h0), (1, .int 0)]) hx hb d_MM_word_21 rfl hl (by decide) rfl (fun ls hl => ?_)
  show W _ _ _ _ _ _ _ _ _ _ _ _ _ _ _ (F0 _ 22 _ _)
  refine lv_bipush (v := 7) hx hb d_MM_word_22 (by decide) ?_
  refine lv_istore (lv' := [(4, .int 7), (2, .long 0), (0, .ref h0), (1, .int 0)]) hx hb d_MM_word_24 hl (by decide) rfl (fun ls hl => ?_)
  refine lv_iload hx hb d_MM_word_26 (lv_at hl 0 rfl) ?_
  refine lv_if_lt (tgt := 83) hx hb d_MM_word_28 (by decide) (fun h9 => absurd h9 (by decide)) (fun _ => ?_)
  refine lv_bipush (v := 8) hx hb d_MM_word_31 (by decide) ?_
  refine lv_iload_n hx hb d_MM_word_33 rfl (lv_at hl 3 rfl) ?_
  refine lv_imul hx hb d_MM_word_34 ?_
  refine toI (y := 0) (by decide) ?_
  refine lv_iload hx hb d_MM_word_35 (lv_at hl 0 rfl) ?_
  refine lv_iadd hx hb d_MM_word_37 ?_
  refine toI (y := 7) (by decide) ?_
  refine lv_istore (lv' := [(5, .int 7), (4, .int 7), (2, .long 0), (0, .ref h0), (1, .int 0)]) hx hb d_MM_word_38 hl (by decide) rfl (fun ls hl => ?_)
  refine lv_lload_n hx hb d_MM_word_40 rfl (lv_at hl 2 rfl) ?_
  refine lv_bipush (v := 8) hx hb d_MM_word_41 (by decide) ?_
  show W _ _ _ _ _ _ _ _ _ _ _ _ _ _ _ (F0 _ 43 _ _)
  refine lv_lshl (v := 0) hx hb d_MM_word_43 (by decide) ?_
  refine lv_iload hx hb d_MM_word_44 (lv_at hl 0 rfl) ?_
  refine lv_aload_n hx hb d_MM_word_46 rfl (lv_at hl 3 rfl) ?_
  refine va_get (D := g.1) (ci := 0) (v := .ref q0) (C := "MacroMill") (T := F_MM) (N := 7) hx hb htt in_MM hown hK hP 0 rfl rfl 4 (by decide) (htt _ k_216) (fun _ h9 => h9) rfl d_MM_word_47 ?_
  refine va_get (D := g.1) (ci := 2) (v := .int 0) (C := "MacroMill$Outcome") (T := F_Outcome) (N := 10) hx hb htt in_Outcome hown hK hP 1 rfl rfl 1 (by decide) (htt _ k_334) (fun _ h9 => h9) rfl d_MM_word_50 ?_
  refine lv_icmp_ge (tgt := 73) hx hb d_MM_word_53 (by decide) (fun _ => ?_) (fun h9 => absurd (by decide) h9)
  refine lv_iconst (v := 0) hx hb d_MM_word_73 (by decide) ?_
  refine lv_i2l (v := 0) hx hb d_MM_word_74 (by decide) ?_
  refine lv_lor hx hb d_MM_word_75 ?_
  refine toL (y := 0) (by decide) ?_
  refine lv_lstore_n (lv' := [(2, .long 0), (5, .int 7), (4, .int 7), (0, .ref h0), (1, .int 0)]) hx hb d_MM_word_76 rfl hl (by decide) rfl (fun ls hl => ?_)
  refine lv_iinc (k := 2) (v := 6) (lv' := [(4, .int 6), (2, .long 0), (5, .int 7), (0, .ref h0), (1, .int 0)]) hx hb d_MM_word_77 hl rfl (by decide) (by decide) rfl (fun ls hl => ?_)
  refine lv_goto (tgt := 26) hx hb d_MM_word_80 (by decide) ?_
  show W _ _ _ _ _ _ _ _ _ _ _ _ _ _ _ (F0 _ 26 _ _)
  refine lv_iload hx hb d_MM_word_26 (lv_at hl 0 rfl) ?_
  refine lv_if_lt (tgt := 83) hx hb d_MM_word_28 (by decide) (fun h9 => absurd h9 (by decide)) (fun _ => ?_)
  refine lv_bipush (v := 8) hx hb d_MM_word_31 (by decide) ?_
  refine lv_iload_n hx hb d_MM_word_33 rfl (lv_at hl 4 rfl) ?_
  refine lv_imul hx hb d_MM_word_34 ?_
  refine toI (y := 0) (by decide) ?_
  refine lv_iload hx hb d_MM_word_35 (lv_at hl 0 rfl) ?_
  refine lv_iadd hx hb d_MM_word_37 ?_
  refine toI (y := 6) (by decide) ?_
  refine lv_istore (lv' := [(5, .int 6), (4, .int 6), (2, .long 0), (0, .ref h0), (1, .int 0)]) hx hb d_MM_word_38 hl (by decide) rfl (fun ls hl => ?_)
  refine lv_lload_n hx hb d_MM_word_40 rfl (lv_at hl 2 rfl) ?_
  refine lv_bipush (v := 8) hx hb d_MM_word_41 (by decide) ?_
  refine lv_lshl (v := 0) hx hb d_MM_word_43 (by decide) ?_
  refine lv_iload hx hb d_MM_word_44 (lv_at hl 0 rfl) ?_
  show W _ _ _ _ _ _ _ _ _ _ _ _ _ _ _ (F0 _ 46 _ _)
  refine lv_aload_n hx hb d_MM_word_46 rfl (lv_at hl 3 rfl) ?_
  refine va_get (D := g.1) (ci := 0) (v := .ref q0) (C := "MacroMill") (T := F_MM) (N := 7) hx hb htt in_MM hown hK hP 0 rfl rfl 4 (by decide) (htt _ k_216) (fun _ h9 => h9) rfl d_MM_word_47 ?_
  refine va_get (D := g.1) (ci := 2) (v := .int 0) (C := "MacroMill$Outcome") (T := F_Outcome) (N := 10) hx hb htt in_Outcome hown hK hP 1 rfl rfl 1 (by decide) (htt _ k_334) (fun _ h9 => h9) rfl d_MM_word_50 ?_
  refine lv_icmp_ge (tgt := 73) hx hb d_MM_word_53 (by decide) (fun _ => ?_) (fun h9 => absurd (by decide) h9)
  refine lv_iconst (v := 0) hx hb d_MM_word_73 (by decide) ?_
  refine lv_i2l (v := 0) hx hb d_MM_word_74 (by decide) ?_
  refine lv_lor hx hb d_MM_word_75 ?_
  refine toL (y := 0) (by decide) ?_
  refine lv_lstore_n (lv' := [(2, .long 0), (5, .int 6), (4, .int 6), (0, .ref h0), (1, .int 0)]) hx hb d_MM_word_76 rfl hl (by decide) rfl (fun ls hl => ?_)
  refine lv_iinc (k := 2) (v := 5) (lv' := [(4, .int 5), (2, .long 0), (5, .int 6), (0, .ref h0), (1, .int 0)]) hx hb d_MM_word_77 hl rfl (by decide) (by decide) rfl (fun ls hl => ?_)
  refine lv_goto (tgt := 26) hx hb d_MM_word_80 (by decide) ?_
  refine lv_iload hx hb d_MM_word_26 (lv_at hl 0 rfl) ?_
  refine lv_if_lt (tgt := 83) hx hb d_MM_word_28 (by decide) (fun h9 => absurd h9 (by decide)) (fun _ => ?_)
  show W _ _ _ _ _ _ _ _ _ _ _ _ _ _ _ (F0 _ 31 _ _)
  refine lv_bipush (v := 8) hx hb d_MM_word_31 (by decide) ?_
  refine lv_iload_n hx hb d_MM_word_33 rfl (lv_at hl 4 rfl) ?_
  refine lv_imul hx hb d_MM_word_34 ?_
  refine toI (y := 0) (by decide) ?_
  refine lv_iload hx hb d_MM_word_35 (lv_at hl 0 rfl) ?_
  refine lv_iadd hx hb d_MM_word_37 ?_
  refine toI (y := 5) (by decide) ?_
  refine lv_istore (lv' := [(5, .int 5), (4, .int 5), (2, .long 0), (0, .ref h0), (1, .int 0)]) hx hb d_MM_word_38 hl (by decide) rfl (fun ls hl => ?_)
  refine lv_lload_n hx hb d_MM_word_40 rfl (lv_at hl 2 rfl) ?_
  refine lv_bipush (v := 8) hx hb d_MM_word_41 (by decide) ?_
  refine lv_lshl (v := 0) hx hb d_MM_word_43 (by decide) ?_
  refine lv_iload hx hb d_MM_word_44 (lv_at hl 0 rfl) ?_
  refine lv_aload_n hx hb d_MM_word_46 rfl (lv_at hl 3 rfl) ?_
  refine va_get (D := g.1) (ci := 0) (v := .ref q0) (C := "MacroMill") (T := F_MM) (N := 7) hx hb htt in_MM hown hK hP 0 rfl rfl 4 (by decide) (htt _ k_216) (fun _ h9 => h9) rfl d_MM_word_47 ?_
  show W _ _ _ _ _ _ _ _ _ _ _ _ _ _ _ (F0 _ 50 _ _)
  refine va_get (D := g.1) (ci := 2) (v := .int 0) (C := "MacroMill$Outcome") (T := F_Outcome) (N := 10) hx hb htt in_Outcome hown hK hP 1 rfl rfl 1 (by decide) (htt _ k_334) (fun _ h9 => h9) rfl d_MM_word_50 ?_
  refine lv_icmp_ge (tgt := 73) hx hb d_MM_word_53 (by decide) (fun _ => ?_) (fun h9 => absurd (by decide) h9)
  refine lv_iconst (v := 0) hx hb d_MM_word_73 (by decide) ?_
  refine lv_i2l (v := 0) hx hb d_MM_word_74 (by decide) ?_
  refine lv_lor hx hb d_MM_word_75 ?_
  refine toL (y := 0) (by decide) ?_
  refine lv_lstore_n (lv' := [(2, .long 0), (5, .int 5), (4, .int 5), (0, .ref h0), (1, .int 0)]) hx hb d_MM_word_76 rfl hl (by decide) rfl (fun ls hl => ?_)
  refine lv_iinc (k := 2) (v := 4) (lv' := [(4, .int 4), (2, .long 0), (5, .int 5), (0, .ref h0), (1, .int 0)]) hx hb d_MM_word_77 hl rfl (by decide) (by decide) rfl (fun ls hl => ?_)
  refine lv_goto (tgt := 26) hx hb d_MM_word_80 (by decide) ?_
  refine lv_iload hx hb d_MM_word_26 (lv_at hl 0 rfl) ?_
  refine lv_if_lt (tgt := 83) hx hb d_MM_word_28 (by decide) (fun h9 => absurd h9 (by decide)) (fun _ => ?_)
  refine lv_bipush (v := 8) hx hb d_MM_word_31 (by decide) ?_
  refine lv_iload_n hx hb d_MM_word_33 rfl (lv_at hl 4 rfl) ?_
  show W _ _ _ _ _ _ _ _ _ _ _ _ _ _ _ (F0 _ 34 _ _)
  refine lv_imul hx hb d_MM_word_34 ?_
  refine toI (y := 0) (by decide) ?_
  refine lv_iload hx hb d_MM_word_35 (lv_at hl 0 rfl) ?_
  refine lv_iadd hx hb d_MM_word_37 ?_
  refine toI (y := 4) (by decide) ?_
  refine lv_istore (lv' := [(5, .int 4), (4, .int 4), (2, .long 0), (0, .ref h0), (1, .int 0)]) hx hb d_MM_word_38 hl (by decide) rfl (fun ls hl => ?_)
  refine lv_lload_n hx hb d_MM_word_40 rfl (lv_at hl 2 rfl) ?_
  refine lv_bipush (v := 8) hx hb d_MM_word_41 (by decide) ?_
  refine lv_lshl (v := 0) hx hb d_MM_word_43 (by decide) ?_
  refine lv_iload hx hb d_MM_word_44 (lv_at hl 0 rfl) ?_
  refine lv_aload_n hx hb d_MM_word_46 rfl (lv_at hl 3 rfl) ?_
  refine va_get (D := g.1) (ci := 0) (v := .ref q0) (C := "MacroMill") (T := F_MM) (N := 7) hx hb htt in_MM hown hK hP 0 rfl rfl 4 (by decide) (htt _ k_216) (fun _ h9 => h9) rfl d_MM_word_47 ?_
  refine va_get (D := g.1) (ci := 2) (v := .int 0) (C := "MacroMill$Outcome") (T := F_Outcome) (N := 10) hx hb htt in_Outcome hown hK hP 1 rfl rfl 1 (by decide) (htt _ k_334) (fun _ h9 => h9) rfl d_MM_word_50 ?_
  refine lv_icmp_ge (tgt := 73) hx hb d_MM_word_53 (by decide) (fun _ => ?_) (fun h9 => absurd (by decide) h9)
  show W _ _ _ _ _ _ _ _ _ _ _ _ _ _ _ (F0 _ 73 _ _)
  refine lv_iconst (v := 0) hx hb d_MM_word_73 (by decide) ?_
  refine lv_i2l (v := 0) hx hb d_MM_word_74 (by decide) ?_
  refine lv_lor hx hb d_MM_word_75 ?_
  refine toL (y := 0) (by decide) ?_
  refine lv_lstore_n (lv' := [(2, .long 0), (5, .int 4), (4, .int 4), (0, .ref h0), (1, .int 0)]) hx hb d_MM_word_76 rfl hl (by decide) rfl (fun ls hl => ?_)
  refine lv_iinc (k := 2) (v := 3) (lv' := [(4, .int 3), (2, .long 0), (5, .int 4), (0, .ref h0), (1, .int 0)]) hx hb d_MM_word_77 hl rfl (by decide) (by decide) rfl (fun ls hl => ?_)
  refine lv_goto (tgt := 26) hx hb d_MM_word_80 (by decide) ?_
  refine lv_iload hx hb d_MM_word_26 (lv_at hl 0 rfl) ?_
  refine lv_if_lt (tgt := 83) hx hb d_MM_word_28 (by decide) (fun h9 => absurd h9 (by decide)) (fun _ => ?_)
  refine lv_bipush (v := 8) hx hb d_MM_word_31 (by decide) ?_
  refine lv_iload_n hx hb d_MM_word_33 rfl (lv_at hl 4 rfl) ?_
  refine lv_imul hx hb d_MM_word_34 ?_
  refine toI (y := 0) (by decide) ?_
  refine lv_iload hx hb d_MM_word_35 (lv_at hl 0 rfl) ?_
  show W _ _ _ _ _ _ _ _ _ _ _ _ _ _ _ (F0 _ 37 _ _)
  refine lv_iadd hx hb d_MM_word_37 ?_
  refine toI (y := 3) (by decide) ?_
  refine lv_istore (lv' := [(5, .int 3), (4, .int 3), (2, .long 0), (0, .ref h0), (1, .int 0)]) hx hb d_MM_word_38 hl (by decide) rfl (fun ls hl => ?_)
  refine lv_lload_n hx hb d_MM_word_40 rfl (lv_at hl 2 rfl) ?_
  refine lv_bipush (v := 8) hx hb d_MM_word_41 (by decide) ?_
  refine lv_lshl (v := 0) hx hb d_MM_word_43 (by decide) ?_
  refine lv_iload hx hb d_MM_word_44 (lv_at hl 0 rfl) ?_
  refine lv_aload_n hx hb d_MM_word_46 rfl (lv_at hl 3 rfl) ?_
  refine va_get (D := g.1) (ci := 0) (v := .ref q0) (C := "MacroMill") (T := F_MM) (N := 7) hx hb htt in_MM hown hK hP 0 rfl rfl 4 (by decide) (htt _ k_216) (fun _ h9 => h9) rfl d_MM_word_47 ?_
  refine va_get (D := g.1) (ci := 2) (v := .int 0) (C := "MacroMill$Outcome") (T := F_Outcome) (N := 10) hx hb htt in_Outcome hown hK hP 1 rfl rfl 1 (by decide) (htt _ k_334) (fun _ h9 => h9) rfl d_MM_word_50 ?_
  refine lv_icmp_ge (tgt := 73) hx hb d_MM_word_53 (by decide) (fun _ => ?_) (fun h9 => absurd (by decide) h9)
  refine lv_iconst (v := 0) hx hb d_MM_word_73 (by decide) ?_
  refine lv_i2l (v := 0) hx hb d_MM_word_74 (by decide) ?_
  show W _ _ _ _ _ _ _ _ _ _ _ _ _ _ _ (F0 _ 75 _ _)
  refine lv_lor hx hb d_MM_word_75 ?_
  refine toL (y := 0) (by decide) ?_
  refine lv_lstore_n (lv' := [(2, .long 0), (5, .int 3), (4, .int 3), (0, .ref h0), (1, .int 0)]) hx hb d_MM_word_76 rfl hl (by decide) rfl (fun ls hl => ?_)
  refine lv_iinc (k := 2) (v := 2) (lv' := [(4, .int 2), (2, .long 0), (5, .int 3), (0, .ref h0), (1, .int 0)]) hx hb d_MM_word_77 hl rfl (by decide) (by decide) rfl (fun ls hl => ?_)
  refine lv_goto (tgt := 26) hx hb d_MM_word_80 (by decide) ?_
  refine lv_iload hx hb d_MM_word_26 (lv_at hl 0 rfl) ?_
  refine lv_if_lt (tgt := 83) hx hb d_MM_word_28 (by decide) (fun h9 => absurd h9 (by decide)) (fun _ => ?_)
  refine lv_bipush (v := 8) hx hb d_MM_word_31 (by decide) ?_
  refine lv_iload_n hx hb d_MM_word_33 rfl (lv_at hl 4 rfl) ?_
  refine lv_imul hx hb d_MM_word_34 ?_
  refine toI (y := 0) (by decide) ?_
  refine lv_iload hx hb d_MM_word_35 (lv_at hl 0 rfl) ?_
  refine lv_iadd hx hb d_MM_word_37 ?_
  refine toI (y := 2) (by decide) ?_
  refine lv_istore (lv' := [(5, .int 2), (4, .int 2), (2, .long 0), (0, .ref h0), (1, .int 0)]) hx hb d_MM_word_38 hl (by decide) rfl (fun ls hl => ?_)
  show W _ _ _ _ _ _ _ _ _ _ _ _ _ _ _ (F0 _ 40 _ _)
  refine lv_lload_n hx hb d_MM_word_40 rfl (lv_at hl 2 rfl) ?_
  refine lv_bipush (v := 8) hx hb d_MM_word_41 (by decide) ?_
  refine lv_lshl (v := 0) hx hb d_MM_word_43 (by decide) ?_
  refine lv_iload hx hb d_MM_word_44 (lv_at hl 0 rfl) ?_
  refine lv_aload_n hx hb d_MM_word_46 rfl (lv_at hl 3 rfl) ?_
  refine va_get (D := g.1) (ci := 0) (v := .ref q0) (C := "MacroMill") (T := F_MM) (N := 7) hx hb htt in_MM hown hK hP 0 rfl rfl 4 (by decide) (htt _ k_216) (fun _ h9 => h9) rfl d_MM_word_47 ?_
  refine va_get (D := g.1) (ci := 2) (v := .int 0) (C := "MacroMill$Outcome") (T := F_Outcome) (N := 10) hx hb htt in_Outcome hown hK hP 1 rfl rfl 1 (by decide) (htt _ k_334) (fun _ h9 => h9) rfl d_MM_word_50 ?_
  refine lv_icmp_ge (tgt := 73) hx hb d_MM_word_53 (by decide) (fun _ => ?_) (fun h9 => absurd (by decide) h9)
  refine lv_iconst (v := 0) hx hb d_MM_word_73 (by decide) ?_
  refine lv_i2l (v := 0) hx hb d_MM_word_74 (by decide) ?_
  refine lv_lor hx hb d_MM_word_75 ?_
  refine toL (y := 0) (by decide) ?_
  refine lv_lstore_n (lv' := [(2, .long 0), (5, .int 2), (4, .int 2), (0, .ref h0), (1, .int 0)]) hx hb d_MM_word_76 rfl hl (by decide) rfl (fun ls hl => ?_)
  show W _ _ _ _ _ _ _ _ _ _ _ _ _ _ _ (F0 _ 77 _ _)
  refine lv_iinc (k := 2) (v := 1) (lv' := [(4, .int 1), (2, .long 0), (5, .int 2), (0, .ref h0), (1, .int 0)]) hx hb d_MM_word_77 hl rfl (by decide) (by decide) rfl (fun ls hl => ?_)
  refine lv_goto (tgt := 26) hx hb d_MM_word_80 (by decide) ?_
  refine lv_iload hx hb d_MM_word_26 (lv_at hl 0 rfl) ?_
  refine lv_if_lt (tgt := 83) hx hb d_MM_word_28 (by decide) (fun h9 => absurd h9 (by decide)) (fun _ => ?_)
  refine lv_bipush (v := 8) hx hb d_MM_word_31 (by decide) ?_
  refine lv_iload_n hx hb d_MM_word_33 rfl (lv_at hl 4 rfl) ?_
  refine lv_imul hx hb d_MM_word_34 ?_
  refine toI (y := 0) (by decide) ?_
  refine lv_iload hx hb d_MM_word_35 (lv_at hl 0 rfl) ?_
  refine lv_iadd hx hb d_MM_word_37 ?_
  refine toI (y := 1) (by decide) ?_
  refine lv_istore (lv' := [(5, .int 1), (4, .int 1), (2, .long 0), (0, .ref h0), (1, .int 0)]) hx hb d_MM_word_38 hl (by decide) rfl (fun ls hl => ?_)
  refine lv_lload_n hx hb d_MM_word_40 rfl (lv_at hl 2 rfl) ?_
  refine lv_bipush (v := 8) hx hb d_MM_word_41 (by decide) ?_
  show W _ _ _ _ _ _ _ _ _ _ _ _ _ _ _ (F0 _ 43 _ _)
  refine lv_lshl (v := 0) hx hb d_MM_word_43 (by decide) ?_
  refine lv_iload hx hb d_MM_word_44 (lv_at hl 0 rfl) ?_
  refine lv_aload_n hx hb d_MM_word_46 rfl (lv_at hl 3 rfl) ?_
  refine va_get (D := g.1) (ci := 0) (v := .ref q0) (C := "MacroMill") (T := F_MM) (N := 7) hx hb htt in_MM hown hK hP 0 rfl rfl 4 (by decide) (htt _ k_216) (fun _ h9 => h9) rfl d_MM_word_47 ?_
  refine va_get (D := g.1) (ci := 2) (v := .int 0) (C := "MacroMill$Outcome") (T := F_Outcome) (N := 10) hx hb htt in_Outcome hown hK hP 1 rfl rfl 1 (by decide) (htt _ k_334) (fun _ h9 => h9) rfl d_MM_word_50 ?_
  refine lv_icmp_ge (tgt := 73) hx hb d_MM_word_53 (by decide) (fun _ => ?_) (fun h9 => absurd (by decide) h9)
  refine lv_iconst (v := 0) hx hb d_MM_word_73 (by decide) ?_
  refine lv_i2l (v := 0) hx hb d_MM_word_74 (by decide) ?_
  refine lv_lor hx hb d_MM_word_75 ?_
  refine toL (y := 0) (by decide) ?_
  refine lv_lstore_n (lv' := [(2, .long 0), (5, .int 1), (4, .int 1), (0, .ref h0), (1, .int 0)]) hx hb d_MM_word_76 rfl hl (by decide) rfl (fun ls hl => ?_)
  refine lv_iinc (k := 2) (v := 0) (lv' := [(4, .int 0), (2, .long 0), (5, .int 1), (0, .ref h0), (1, .int 0)]) hx hb d_MM_word_77 hl rfl (by decide) (by decide) rfl (fun ls hl => ?_)
  refine lv_goto (tgt := 26) hx hb d_MM_word_80 (by decide) ?_
  show W _ _ _ _ _ _ _ _ _ _ _ _ _ _ _ (F0 _ 26 _ _)
  refine lv_iload hx hb d_MM_word_26 (lv_at hl 0 rfl) ?_
  refine lv_if_lt (tgt := 83) hx hb d_MM_word_28 (by decide) (fun h9 => absurd h9 (by decide)) (fun _ => ?_)
  refine lv_bipush (v := 8) hx hb d_MM_word_31 (by decide) ?_
  refine lv_iload_n hx hb d_MM_word_33 rfl (lv_at hl 4 rfl) ?_
  refine lv_imul hx hb d_MM_word_34 ?_
  refine toI (y := 0) (by decide) ?_
  refine lv_iload hx hb d_MM_word_35 (lv_at hl 0 rfl) ?_
  refine lv_iadd hx hb d_MM_word_37 ?_
  refine toI (y := 0) (by decide) ?_
  refine lv_istore (lv' := [(5, .int 0), (4, .int 0), (2, .long 0), (0, .ref h0), (1, .int 0)]) hx hb d_MM_word_38 hl (by decide) rfl (fun ls hl => ?_)
  refine lv_lload_n hx hb d_MM_word_40 rfl (lv_at hl 2 rfl) ?_
  refine lv_bipush (v := 8) hx hb d_MM_word_41 (by decide) ?_
  refine lv_lshl (v := 0) hx hb d_MM_word_43 (by decide) ?_
  refine lv_iload hx hb d_MM_word_44 (lv_at hl 0 rfl) ?_
  show W _ _ _ _ _ _ _ _ _ _ _ _ _ _ _ (F0 _ 46 _ _)
  refine lv_aload_n hx hb d_MM_word_46 rfl (lv_at hl 3 rfl) ?_
  refine va_get (D := g.1) (ci := 0) (v := .ref q0) (C := "MacroMill") (T := F_MM) (N := 7) hx hb htt in_MM hown hK hP 0 rfl rfl 4 (by decide) (htt _ k_216) (fun _ h9 => h9) rfl d_MM_word_47 ?_
  refine va_get (D := g.1) (ci := 2) (v := .int 0) (C := "MacroMill$Outcome") (T := F_Outcome) (N := 10) hx hb htt in_Outcome hown hK hP 1 rfl rfl 1 (by decide) (htt _ k_334) (fun _ h9 => h9) rfl d_MM_word_50 ?_
  refine lv_icmp_ge (tgt := 73) hx hb d_MM_word_53 (by decide) (fun _ => ?_) (fun h9 => absurd (by decide) h9)
  refine lv_iconst (v := 0) hx hb d_MM_word_73 (by decide) ?_
  refine lv_i2l (v := 0) hx hb d_MM_word_74 (by decide) ?_
  refine lv_lor hx hb d_MM_word_75 ?_
  refine toL (y := 0) (by decide) ?_
  refine lv_lstore_n (lv' := [(2, .long 0), (5, .int 0), (4, .int 0), (0, .ref h0), (1, .int 0)]) hx hb d_MM_word_76 rfl hl (by decide) rfl (fun ls hl => ?_)
  refine lv_iinc (k := 2) (v := (-1)) (lv' := [(4, .int (-1)), (2, .long 0), (5, .int 0), (0, .ref h0), (1, .int 0)]) hx hb d_MM_word_77 hl rfl (by decide) (by decide) rfl (fun ls hl => ?_)
  refine lv_goto (tgt := 26) hx hb d_MM_word_80 (by decide) ?_
  refine lv_iload hx hb d_MM_word_26 (lv_at hl 0 rfl) ?_
  refine lv_if_lt (tgt := 83) hx hb d_MM_word_28 (by decide) (fun _ => ?_) (fun h9 => absurd (by decide) h9)
  show W _ _ _ _ _ _ _ _ _ _ _ _ _ _ _ (F0 _ 83 _ _)
  refine lv_lload_n hx hb d_MM_word_83 rfl (lv_at hl 1 rfl) ?_
  exact fin_l (g := g) (ws := [(h0, .inr (0, [x0, x1, x2, x3, .ref q0, x5, x6])), (q0, .inr (2, [u0, .int 0, u2, u3, u4, u5, u6, u7, u8, u9]))]) (v := 0) hx hb hr hlocks (by decide +kernel) (by decide +kernel) hP hD hS rfl d_MM_word_84
abbrev rm_MM_word1 : Room := { frames := 0, cells := 0, slots := 0, locals := 0 }
set_option maxHeartbeats 4000000 in
set_option maxRecDepth 100000 in
theorem c_MM_word1 (l : Launch) (g : gG) (sz : Nat) (h0 : Nat) (v1 : Int32) (q0 : Nat) (x0 : Value) (x1 : Value) (x2 : Value) (x3 : Value) (x5 : Value) (x6 : Value) (u0 : Value) (u2 : Value) (u3 : Value) (u4 : Value) (u5 : Value) (u6 : Value) (u7 : Value) (u8 : Value) (u9 : Value) (hv : ¬ v1 = 0) : Cl l y_MM_word b_MM_word 6 rm_MM_word1 g [.ref h0, .int v1] [(h0, .inr (0, [x0, x1, x2, x3, .ref q0, x5, x6])), (q0, .inr (2, [u0, .int 0, u2, u3, u4, u5, u6, u7, u8, u9]))] sz (fun r _ => r = 0) := by
  refine startL (by decide) (Nat.le_of_ble_eq_true rfl) ?_
  intro p e s m below meth c A ls hx hb hr hml hlocks hmn hown htt hN hA hP hK hD hS hl
  have hown : s.vm.findClass "MacroMill" = some m.cls := hown
  have hl : lv_has ls 6 [(0, .ref h0), (1, .int v1)] := hl
  refine lv_iload_n hx hb d_MM_word_0 rfl (lv_at hl 1 rfl) ?_
  refine lv_if_lt (tgt := 18) hx hb d_MM_word_1 (by decide) (fun h1 => ?_) (fun h1 => ?_)
  · refine lv_lconst (v := 0) hx hb d_MM_word_18 (by decide) ?_
    exact fin_l (g := g) (ws := [(h0, .inr (0, [x0, x1, x2, x3, .ref q0, x5, x6])), (q0, .inr (2, [u0, .int 0, u2, u3, u4, u5, u6, u7, u8, u9]))]) (v := 0) hx hb hr hlocks (by decide +kernel) (by decide +kernel) hP hD hS rfl d_MM_word_19
  · refine lv_iload_n hx hb d_MM_word_4 rfl (lv_at hl 1 rfl) ?_
    refine lv_aload_n hx hb d_MM_word_5 rfl (lv_at hl 0 rfl) ?_
    refine va_get (D := g.1) (ci := 0) (v := .ref q0) (C := "MacroMill") (T := F_MM) (N := 7) hx hb htt in_MM hown hK hP 0 rfl rfl 4 (by decide) (htt _ k_216) (fun _ h9 => h9) rfl d_MM_word_6 ?_
    refine va_get (D := g.1) (ci := 2) (v := .int 0) (C := "MacroMill$Outcome") (T := F_Outcome) (N := 10) hx hb htt in_Outcome hown hK hP 1 rfl rfl 1 (by decide) (htt _ k_334) (fun _ h9 => h9) rfl d_MM_word_9 ?_
    refine lv_bipush (v := 8) hx hb d_MM_word_12 (by decide) ?_
    refine lv_idiv hx hb d_MM_word_14 (by decide) ?_
    refine toI (y := 0) (by decide) ?_
    refine lv_icmp_le (tgt := 20) hx hb d_MM_word_15 (by decide) (fun h9 => absurd h9 (x_w1 hv h1)) (fun _ => ?_)
    refine lv_lconst (v := 0) hx hb d_MM_word_18 (by decide) ?_
    exact fin_l (g := g) (ws := [(h0, .inr (0, [x0, x1, x2, x3, .ref q0, x5, x6])), (q0, .inr (2, [u0, .int 0, u2, u3, u4, u5, u6, u7, u8, u9]))]) (v := 0) hx hb hr hlocks (by decide +kernel) (by decide +kernel) hP hD hS rfl d_MM_word_19
theorem c_MM_word (l : Launch) (g : gG) (sz : Nat) (h0 : Nat) (v1 : Int32) (q0 : Nat) (x0 : Value) (x1 : Value) (x2 : Value) (x3 : Value) (x5 : Value) (x6 : Value) (u0 : Value) (u2 : Value) (u3 : Value) (u4 : Value) (u5 : Value) (u6 : Value) (u7 : Value) (u8 : Value) (u9 : Value) : Cl l y_MM_word b_MM_word 6 rm_MM_word1 g [.ref h0, .int v1] [(h0, .inr (0, [x0, x1, x2, x3, .ref q0, x5, x6])), (q0, .inr (2, [u0, .int 0, u2, u3, u4, u5, u6, u7, u8, u9]))] sz (fun r _ => r = 0) := by
  by_cases hv : v1 = 0
  · subst hv
    exact c_MM_word0 l g sz h0 q0 x0 x1 x2 x3 x5 x6 u0 u2 u3 u4 u5 u6 u7 u8 u9
  · exact c_MM_word1 l g sz h0 v1 q0 x0 x1 x2 x3 x5 x6 u0 u2 u3 u4 u5 u6 u7 u8 u9 hv
abbrev rm_MM_hashOf : Room := { frames := 0, cells := 0, slots := 0, locals := 0 }
set_option maxHeartbeats 4000000 in
set_option maxRecDepth 100000 in
theorem c_MM_hashOf (l : Launch) (g : gG) (sz : Nat) (t0 : Nat) : Ci l y_MM_hashOf b_MM_hashOf 5 rm_MM_hashOf g [.ref t0, .int 0, .int 0] [] sz (fun r _ => r = 0) := by
  refine startI (by decide) (Nat.le_of_ble_eq_true rfl) ?_
  intro p e s m below meth c A ls hx hb hr hml hlocks hmn hown htt hN hA hP hK hD hS hl
  have hown : s.vm.findClass "MacroMill" = some m.cls := hown
  have hl : lv_has ls 5 [(0, .ref t0), (1, .int 0), (2, .int 0)] := hl
  refine lv_iload_n hx hb d_MM_hashOf_0 rfl (lv_at hl 2 rfl) ?_
  refine lv_istore_n (lv' := [(3, .int 0), (0, .ref t0), (1, .int 0), (2, .int 0)]) hx hb d_MM_hashOf_1 rfl hl (by decide) rfl (fun ls hl => ?_)
  refine lv_iconst (v := 0) hx hb d_MM_hashOf_2 (by decide) ?_
  refine lv_istore (lv' := [(4, .int 0), (3, .int 0), (0, .ref t0), (1, .int 0), (2, .int 0)]) hx hb d_MM_hashOf_3 hl (by decide) rfl (fun ls hl => ?_)
  refine lv_iload hx hb d_MM_hashOf_5 (lv_at hl 0 rfl) ?_
  refine lv_iload_n hx hb d_MM_hashOf_7 rfl (lv_at hl 4 rfl) ?_
  refine lv_icmp_ge (tgt := 29) hx hb d_MM_hashOf_8 (by decide) (fun _ => ?_) (fun h9 => absurd (by decide) h9)
  refine lv_iload_n hx hb d_MM_hashOf_29 rfl (lv_at hl 1 rfl) ?_
  refine lv_iload_n hx hb d_MM_hashOf_30 rfl (lv_at hl 1 rfl) ?_
  refine lv_bipush (v := 15) hx hb d_MM_hashOf_31 (by decide) ?_
  refine lv_iushr (v := 0) hx hb d_MM_hashOf_33 (by decide) ?_
  show W _ _ _ _ _ _ _ _ _ _ _ _ _ _ _ (F0 _ 34 _ _)
  refine lv_ixor hx hb d_MM_hashOf_34 ?_
  refine toI (y := 0) (by decide) ?_
  exact fin_i (g := g) (ws := []) (v := 0) hx hb hr hlocks (by decide +kernel) (by decide +kernel) hP hD hS rfl d_MM_hashOf_35
abbrev rm_Macros_find : Room := { frames := 1, cells := 0, slots := 0, locals := 24 }
set_option maxHeartbeats 4000000 in
set_option maxRecDepth 100000 in
theorem c_Macros_find (l : Launch) (g : gG) (sz : Nat) (h0 : Nat) (t0 : Nat) (b1 : Nat) (f1 : Nat → Int32) (x0 : Value) (x1 : Value) (x3 : Value) (x4 : Value) (x5 : Value) (x6 : Value) (x7 : Value) (x8 : Value) (x9 : Value) (x10 : Value) (x11 : Value) (x12 : Value) (x13 : Value) (x14 : Value) (x15 : Value) (x16 : Value) (x17 : Value) (x18 : Value) (hf : ∀ j, j < 512 → f1 j = (-1)) : Ci l y_Macros_find b_Macros_find 7 rm_Macros_find g [.ref h0, .ref t0, .int 0, .int 0] [(h0, .inr (10, [x0, x1, .ref b1, x3, x4, x5, x6, x7, x8, x9, x10, x11, x12, x13, x14, x15, x16, x17, x18])), (b1, .inl (g.2 1, 512, .inl f1))] sz (fun r _ => r = (-1)) := by
  refine startI (by decide) (Nat.le_of_ble_eq_true rfl) ?_
  intro p e s m below meth c A ls hx hb hr hml hlocks hmn hown htt hN hA hP hK hD hS hl
  have hown : s.vm.findClass "MacroMill$Macros" = some m.cls := hown
  have hl : lv_has ls 7 [(0, .ref h0), (1, .ref t0), (2, .int 0), (3, .int 0)] := hl
  refine lv_aload_n hx hb d_Macros_find_0 rfl (lv_at hl 0 rfl) ?_
  refine va_get (D := g.1) (ci := 10) (v := .ref b1) (C := "MacroMill$Macros") (T := F_Macros) (N := 19) hx hb htt in_Macros hown hK hP 0 rfl rfl 2 (by decide) (htt _ k_85) (fun _ h9 => h9) rfl d_Macros_find_1 ?_
  refine lv_aload_n hx hb d_Macros_find_4 rfl (lv_at hl 1 rfl) ?_
  refine lv_iload_n hx hb d_Macros_find_5 rfl (lv_at hl 2 rfl) ?_
  refine lv_iload_n hx hb d_Macros_find_6 rfl (lv_at hl 3 rfl) ?_
  refine go_i (As := [.ref t0, .int 0, .int 0]) (g := g) (A := A) (wc := []) (wr := [(h0, .inr (10, [x0, x1, .ref b1, x3, x4, x5, x6, x7, x8, x9, x10, x11, x12, x13, x14, x15, x16, x17, x18])), (b1, .inl (g.2 1, 512, .inl f1))]) [] [0, 1] rfl rfl rfl rfl (by decide) hP hK hD hS hA hN (fun hp => va_runSN (As := [.ref t0, .int 0, .int 0]) (rest := [.ref b1]) ⟨hx, hb, hml, hown, htt⟩ (c_MM_hashOf l g _ t0) ⟨(cb_N (host := "MacroMill") htt k_336 k_317 hN nM_5 hd_MM_hashOf ⟨(by decide +kernel), (by decide +kernel)⟩), htt _ k_337, trivial⟩ hp rfl rfl hl.1 rfl (lv_room (Nat.le_of_ble_eq_true rfl)) d_Macros_find_7 ⟨(by decide +kernel), (by decide +kernel)⟩) (fun r9 w9 H locs hw9 hP hD hS => ?_)
  obtain rfl := hw9
  have hP := va_Pleft hP
  have hD := va_Dleft hD
  refine W.widen (k := 0) (n := 0) (by decide +kernel) (by decide +kernel) ?_
  have hP : va_P g.1 classes [(h0, .inr (10, [x0, x1, .ref b1, x3, x4, x5, x6, x7, x8, x9, x10, x11, x12, x13, x14, x15, x16, x17, x18])), (b1, .inl (g.2 1, 512, .inl f1))] H := hP
  have hD : va_D A [(h0, .inr (10, [x0, x1, .ref b1, x3, x4, x5, x6, x7, x8, x9, x10, x11, x12, x13, x14, x15, x16, x17, x18])), (b1, .inl (g.2 1, 512, .inl f1))] := hD
  refine lv_sipush (v := 511) hx hb d_Macros_find_10 (by decide) ?_
  refine lv_iand hx hb d_Macros_find_13 ?_
  refine toI (y := 0) (by decide) ?_
  refine va_iald (i := 0) hx hb hK hP 1 1 rfl rfl (by unfold vp_in; decide) d_Macros_find_14 ?_
  refine toI (y := (-1)) (hf (0 : Int32).toNatClampNeg (by decide)) ?_
  refine lv_istore (lv' := [(4, .int (-1)), (0, .ref h0), (1, .ref t0), (2, .int 0), (3, .int 0)]) hx hb d_Macros_find_15 hl (by decide) rfl (fun ls hl => ?_)
  refine lv_iconst (v := 0) hx hb d_Macros_find_17 (by decide) ?_
  show W _ _ _ _ _ _ _ _ _ _ _ _ _ _ _ (F0 _ 18 _ _)
  refine lv_istore (lv' := [(5, .int 0), (4, .int (-1)), (0, .ref h0), (1, .ref t0), (2, .int 0), (3, .int 0)]) hx hb d_Macros_find_18 hl (by decide) rfl (fun ls hl => ?_)
  refine lv_iload hx hb d_Macros_find_20 (lv_at hl 0 rfl) ?_
  refine lv_sipush (v := 400) hx hb d_Macros_find_22 (by decide) ?_
  refine lv_icmp_ge (tgt := 95) hx hb d_Macros_find_25 (by decide) (fun h9 => absurd h9 (by decide)) (fun _ => ?_)
  refine lv_iload hx hb d_Macros_find_28 (lv_at hl 1 rfl) ?_
  refine lv_if_lt (tgt := 95) hx hb d_Macros_find_30 (by decide) (fun _ => ?_) (fun h9 => absurd (by decide) h9)
  refine lv_iconst (v := (-1)) hx hb d_Macros_find_95 (by decide) ?_
  exact fin_i (g := g) (ws := [(h0, .inr (10, [x0, x1, .ref b1, x3, x4, x5, x6, x7, x8, x9, x10, x11, x12, x13, x14, x15, x16, x17, x18])), (b1, .inl (g.2 1, 512, .inl f1))]) (v := (-1)) hx hb hr hlocks (by decide +kernel) (by decide +kernel) hP hD hS rfl d_Macros_find_96
abbrev rm_MM_parameters : Room := { frames := 2, cells := 0, slots := 0, locals := 50 }
set_option maxHeartbeats 4000000 in
set_option maxRecDepth 100000 in
theorem c_MM_parameters (l : Launch) (g : gG) (sz : Nat) (h0 : Nat) (t0 : Nat) (s0 : Nat) (m0 : Nat) (b1 : Nat) (f1 : Nat → Int32) (x2 : Value) (x3 : Value) (x4 : Value) (x5 : Value) (y0 : Value) (y1 : Value) (y2 : Value) (y3 : Value) (y5 : Value) (y6 : Value) (y7 : Value) (y8 : Value) (y9 : Value) (y10 : Value) (y11 : Value) (y12 : Value) (y13 : Value) (y14 : Value) (y15 : Value) (y16 : Value) (y17 : Value) (y18 : Value) (y19 : Value) (y20 : Value) (y21 : Value) (w0 : Value) (w1 : Value) (w3 : Value) (w4 : Value) (w5 : Value) (w6 : Value) (w7 : Value) (w8 : Value) (w9 : Value) (w10 : Value) (w11 : Value) (w12 : Value) (w13 : Value) (w14 : Value) (w15 : Value) (w16 : Value) (w17 : Value) (w18 : Value) (hf : ∀ j, j < 512 → f1 j = (-1)) : Ci l y_MM_parameters b_MM_parameters 3 rm_MM_parameters g [.ref h0] [(h0, .inr (0, [.ref t0, .int 0, x2, x3, x4, x5, .ref s0])), (s0, .inr (8, [y0, y1, y2, y3, .ref m0, y5, y6, y7, y8, y9, y10, y11, y12, y13, y14, y15, y16, y17, y18, y19, y20, y21])), (m0, .inr (10, [w0, w1, .ref b1, w3, w4, w5, w6, w7, w8, w9, w10, w11, w12, w13, w14, w15, w16, w17, w18])), (b1, .inl (g.2 1, 512, .inl f1))] sz (fun r _ => r = (-1)) := by
  refine startI (by decide) (Nat.le_of_ble_eq_true rfl) ?_
  intro p e s m below meth c A ls hx hb hr hml hlocks hmn hown htt hN hA hP hK hD hS hl
  have hown : s.vm.findClass "MacroMill" = some m.cls := hown
  have hl : lv_has ls 3 [(0, .ref h0)] := hl
  refine lv_aload_n hx hb d_MM_parameters_0 rfl (lv_at hl 0 rfl) ?_
  refine go_i (As := [.ref h0]) (g := g) (A := A) (wc := [(h0, .inr (0, [.ref t0, .int 0, x2, x3, x4, x5, .ref s0]))]) (wr := [(s0, .inr (8, [y0, y1, y2, y3, .ref m0, y5, y6, y7, y8, y9, y10, y11, y12, y13, y14, y15, y16, y17, y18, y19, y20, y21])), (m0, .inr (10, [w0, w1, .ref b1, w3, w4, w5, w6, w7, w8, w9, w10, w11, w12, w13, w14, w15, w16, w17, w18])), (b1, .inl (g.2 1, 512, .inl f1))]) [0] [1, 2, 3] rfl rfl rfl rfl (by decide) hP hK hD hS hA hN (fun hp => va_runV (As := []) (rest := []) ⟨hx, hb, hml, hown, htt⟩ (c_MM_useTape l g _ h0 (0) (.ref t0) (x2) (x3) (x4) (x5) (.ref s0)) ⟨(cb_L htt k_322 k_317 k_323 hd_MM_useTape ⟨(by decide +kernel), (by decide +kernel)⟩), htt _ k_324, htt _ k_325⟩ ⟨hp.1, va_recv hK hP (ci := 0) (q0 := 0) rfl rfl, hp.2⟩ rfl rfl hl.1 rfl (lv_room (Nat.le_of_ble_eq_true rfl)) d_MM_parameters_1 ⟨(by decide +kernel), (by decide +kernel)⟩) (fun r9 w9 H locs hw9 hP hD hS => ?_)
  obtain ⟨rfl, rfl⟩ := hw9
  refine W.widen (k := 0) (n := 0) (by decide +kernel) (by decide +kernel) ?_
  have hP : va_P g.1 classes [(s0, .inr (8, [y0, y1, y2, y3, .ref m0, y5, y6, y7, y8, y9, y10, y11, y12, y13, y14, y15, y16, y17, y18, y19, y20, y21])), (m0, .inr (10, [w0, w1, .ref b1, w3, w4, w5, w6, w7, w8, w9, w10, w11, w12, w13, w14, w15, w16, w17, w18])), (b1, .inl (g.2 1, 512, .inl f1)), (h0, .inr (0, [.ref t0, .int 0, .int 0, x3, x4, x5, .ref s0]))] H := hP
  have hD : va_D A [(s0, .inr (8, [y0, y1, y2, y3, .ref m0, y5, y6, y7, y8, y9, y10, y11, y12, y13, y14, y15, y16, y17, y18, y19, y20, y21])), (m0, .inr (10, [w0, w1, .ref b1, w3, w4, w5, w6, w7, w8, w9, w10, w11, w12, w13, w14, w15, w16, w17, w18])), (b1, .inl (g.2 1, 512, .inl f1)), (h0, .inr (0, [.ref t0, .int 0, .int 0, x3, x4, x5, .ref s0]))] := hD
  refine lv_istore_n (lv' := [(1, .int 0), (0, .ref h0)]) hx hb d_MM_parameters_4 rfl hl (by decide) rfl (fun ls hl => ?_)
  refine lv_aload_n hx hb d_MM_parameters_5 rfl (lv_at hl 1 rfl) ?_
  refine va_get (D := g.1) (ci := 0) (v := .ref s0) (C := "MacroMill") (T := F_MM) (N := 7) hx hb htt in_MM hown hK hP 3 rfl rfl 6 (by decide) (htt _ k_234) (fun _ h9 => h9) rfl d_MM_parameters_6 ?_
  refine va_get (D := g.1) (ci := 8) (v := .ref m0) (C := "MacroMill$Second") (T := F_Second) (N := 22) hx hb htt in_Second hown hK hP 0 rfl rfl 4 (by decide) (htt _ k_332) (fun _ h9 => h9) rfl d_MM_parameters_9 ?_
  refine lv_aload_n hx hb d_MM_parameters_12 rfl (lv_at hl 1 rfl) ?_
  refine va_get (D := g.1) (ci := 0) (v := .ref t0) (C := "MacroMill") (T := F_MM) (N := 7) hx hb htt in_MM hown hK hP 3 rfl rfl 0 (by decide) (htt _ k_204) (fun _ h9 => h9) rfl d_MM_parameters_13 ?_
  refine lv_iconst (v := 0) hx hb d_MM_parameters_16 (by decide) ?_
  refine lv_iload_n hx hb d_MM_parameters_17 rfl (lv_at hl 0 rfl) ?_
  refine go_i (As := [.ref m0, .ref t0, .int 0, .int 0]) (g := g) (A := A) (wc := [(m0, .inr (10, [w0, w1, .ref b1, w3, w4, w5, w6, w7, w8, w9, w10, w11, w12, w13, w14, w15, w16, w17, w18])), (b1, .inl (g.2 1, 512, .inl f1))]) (wr := [(s0, .inr (8, [y0, y1, y2, y3, .ref m0, y5, y6, y7, y8, y9, y10, y11, y12, y13, y14, y15, y16, y17, y18, y19, y20, y21])), (h0, .inr (0, [.ref t0, .int 0, .int 0, x3, x4, x5, .ref s0]))]) [1, 2] [0, 3] rfl rfl rfl rfl (by decide) hP hK hD hS hA hN (fun hp => va_runV (As := [.ref t0, .int 0, .int 0]) (rest := []) ⟨hx, hb, hml, hown, htt⟩ (c_Macros_find l g _ m0 t0 b1 f1 (w0) (w1) (w3) (w4) (w5) (w6) (w7) (w8) (w9) (w10) (w11) (w12) (w13) (w14) (w15) (w16) (w17) (w18) hf) ⟨(cb_L htt k_338 k_156 k_339 hd_Macros_find ⟨(by decide +kernel), (by decide +kernel)⟩), htt _ k_340, htt _ k_341⟩ ⟨hp.1, va_recv hK hP (ci := 10) (q0 := 1) rfl rfl, hp.2⟩ rfl rfl hl.1 rfl (lv_room (Nat.le_of_ble_eq_true rfl)) d_MM_parameters_18 ⟨(by decide +kernel), (by decide +kernel)⟩) (fun r9 w9 H locs hw9 hP hD hS => ?_)
  obtain rfl := hw9
  have hP := va_Pleft hP
  have hD := va_Dleft hD
  refine W.widen (k := 0) (n := 0) (by decide +kernel) (by decide +kernel) ?_
  have hP : va_P g.1 classes [(s0, .inr (8, [y0, y1, y2, y3, .ref m0, y5, y6, y7, y8, y9, y10, y11, y12, y13, y14, y15, y16, y17, y18, y19, y20, y21])), (h0, .inr (0, [.ref t0, .int 0, .int 0, x3, x4, x5, .ref s0]))] H := hP
  have hD : va_D A [(s0, .inr (8, [y0, y1, y2, y3, .ref m0, y5, y6, y7, y8, y9, y10, y11, y12, y13, y14, y15, y16, y17, y18, y19, y20, y21])), (h0, .inr (0, [.ref t0, .int 0, .int 0, x3, x4, x5, .ref s0]))] := hD
  show W _ _ _ _ _ _ _ _ _ _ _ _ _ _ _ (F0 _ 21 _ _)
  refine lv_istore_n (lv' := [(2, .int (-1)), (1, .int 0), (0, .ref h0)]) hx hb d_MM_parameters_21 rfl hl (by decide) rfl (fun ls hl => ?_)
  refine lv_iload_n hx hb d_MM_parameters_22 rfl (lv_at hl 0 rfl) ?_
  refine lv_if_lt (tgt := 40) hx hb d_MM_parameters_23 (by decide) (fun _ => ?_) (fun h9 => absurd (by decide) h9)
  refine lv_iconst (v := (-1)) hx hb d_MM_parameters_40 (by decide) ?_
  exact fin_i (g := g) (ws := [(s0, .inr (8, [y0, y1, y2, y3, .ref m0, y5, y6, y7, y8, y9, y10, y11, y12, y13, y14, y15, y16, y17, y18, y19, y20, y21])), (h0, .inr (0, [.ref t0, .int 0, .int 0, x3, x4, x5, .ref s0]))]) (v := (-1)) hx hb hr hlocks (by decide +kernel) (by decide +kernel) hP hD hS rfl d_MM_parameters_41
