abbrev rm_Files_init : Room := { frames := 1, cells := 4, slots := 34881, locals := 12 }
set_option maxHeartbeats 4000000 in
set_option maxRecDepth 100000 in
theorem c_Files_init (l : Launch) (g : gG) (sz : Nat) (h0 : Nat) : Cv l y_Files_init b_Files_init 1 rm_Files_init g [.ref h0] [(h0, .inr (1, [.null, .null, .null, .null, .int 0]))] sz (fun w => ∃ (a7 : Nat) (a16 : Nat) (a24 : Nat) (a32 : Nat), w = [(h0, .inr (1, [.ref a7, .ref a16, .ref a24, .ref a32, .int 0]))]) := by
  refine startV (by decide) (Nat.le_of_ble_eq_true rfl) ?_
  intro p e s m below meth c A ls hx hb hr hml hlocks hmn hown htt hN hA hP hK hD hS hl
  have hin : meth.name = "<init>" := hmn
  have hown : s.vm.findClass "MacroMill$Files" = some m.cls := hown
  have hl : lv_has ls 1 [(0, .ref h0)] := hl
  refine lv_aload_n hx hb d_Files_init_0 rfl (lv_at hl 0 rfl) ?_
  refine W.objInit hx hb hown (htt _ k_0) (htt _ k_1) (htt _ k_2) rfl (by rw [hml]; exact hl.1) rfl d_Files_init_1 (Nat.le_of_ble_eq_true rfl) (Nat.le_of_ble_eq_true rfl) ?_
  refine W.eq (g2 := F0 m 4 ls []) rfl ?_
  refine lv_aload_n hx hb d_Files_init_4 rfl (lv_at hl 0 rfl) ?_
  refine lv_ldc (v := 32768) hx hb hown (htt _ k_3) d_Files_init_5 ?_
  refine nea0 (g := g) (A := A) (atype := .byte) (ty := .byte) (a0 := (32768, .inl (fun _ => 0))) (N' := 32768) hx hb htt 0 rfl no_byte k_4 rfl hK hP hD hS hA (a0_byte 32768) (by decide +kernel) (by decide +kernel) (by decide +kernel) (by decide +kernel) (by decide +kernel) d_Files_init_7 (fun a7 H hP hD hS => ?_)
  refine W.widen (k := 1) (n := 32768) (by decide +kernel) (by decide +kernel) ?_
  refine va_putF (D := g.1) (ci := 1) (v := .ref a7) (ty := t_Files 0) (C := "MacroMill$Files") (T := F_Files) (N := 5) hx hb htt in_Files t_Files t_Files_ok n_Files hown hK hP hD hS 0 rfl rfl 0 (by decide) (htt _ k_5) (fun _ h9 => h9) rfl hin rfl (t_Files_ok 0 (by decide)) rfl rfl (Nat.le_of_ble_eq_true rfl) d_Files_init_9 (fun H locs hP hD hS => ?_)
  have hP : va_P g.1 classes [(h0, .inr (1, [.ref a7, .null, .null, .null, .int 0]))] H := hP
  have hD : va_D A [(h0, .inr (1, [.ref a7, .null, .null, .null, .int 0]))] := hD
  refine lv_aload_n hx hb d_Files_init_12 rfl (lv_at hl 0 rfl) ?_
  refine lv_sipush (v := 2048) hx hb d_Files_init_13 (by decide) ?_
  refine nea0 (g := g) (A := A) (atype := .byte) (ty := .byte) (a0 := (2048, .inl (fun _ => 0))) (N' := 2048) hx hb htt 0 rfl no_byte k_4 rfl hK hP hD hS hA (a0_byte 2048) (by decide +kernel) (by decide +kernel) (by decide +kernel) (by decide +kernel) (by decide +kernel) d_Files_init_16 (fun a16 H hP hD hS => ?_)
  refine W.widen (k := 2) (n := 34816) (by decide +kernel) (by decide +kernel) ?_
  refine va_putF (D := g.1) (ci := 1) (v := .ref a16) (ty := t_Files 1) (C := "MacroMill$Files") (T := F_Files) (N := 5) hx hb htt in_Files t_Files t_Files_ok n_Files hown hK hP hD hS 0 rfl rfl 1 (by decide) (htt _ k_6) (fun _ h9 => h9) rfl hin rfl (t_Files_ok 1 (by decide)) rfl rfl (Nat.le_of_ble_eq_true rfl) d_Files_init_18 (fun H locs hP hD hS => ?_)
  have hP : va_P g.1 classes [(h0, .inr (1, [.ref a7, .ref a16, .null, .null, .int 0]))] H := hP
  have hD : va_D A [(h0, .inr (1, [.ref a7, .ref a16, .null, .null, .int 0]))] := hD
  refine lv_aload_n hx hb d_Files_init_21 rfl (lv_at hl 0 rfl) ?_
  show W _ _ _ _ _ _ _ _ _ _ _ _ _ _ _ (F0 _ 22 _ _)
  refine lv_bipush (v := 32) hx hb d_Files_init_22 (by decide) ?_
  refine nea0 (g := g) (A := A) (atype := .int) (ty := .int) (a0 := (32, .inl (fun _ => 0))) (N' := 32) hx hb htt 1 rfl no_int k_7 rfl hK hP hD hS hA (a0_int 32) (by decide +kernel) (by decide +kernel) (by decide +kernel) (by decide +kernel) (by decide +kernel) d_Files_init_24 (fun a24 H hP hD hS => ?_)
  refine W.widen (k := 3) (n := 34848) (by decide +kernel) (by decide +kernel) ?_
  refine va_putF (D := g.1) (ci := 1) (v := .ref a24) (ty := t_Files 2) (C := "MacroMill$Files") (T := F_Files) (N := 5) hx hb htt in_Files t_Files t_Files_ok n_Files hown hK hP hD hS 0 rfl rfl 2 (by decide) (htt _ k_8) (fun _ h9 => h9) rfl hin rfl (t_Files_ok 2 (by decide)) rfl rfl (Nat.le_of_ble_eq_true rfl) d_Files_init_26 (fun H locs hP hD hS => ?_)
  have hP : va_P g.1 classes [(h0, .inr (1, [.ref a7, .ref a16, .ref a24, .null, .int 0]))] H := hP
  have hD : va_D A [(h0, .inr (1, [.ref a7, .ref a16, .ref a24, .null, .int 0]))] := hD
  refine lv_aload_n hx hb d_Files_init_29 rfl (lv_at hl 0 rfl) ?_
  refine lv_bipush (v := 33) hx hb d_Files_init_30 (by decide) ?_
  refine nea0 (g := g) (A := A) (atype := .int) (ty := .int) (a0 := (33, .inl (fun _ => 0))) (N' := 33) hx hb htt 1 rfl no_int k_7 rfl hK hP hD hS hA (a0_int 33) (by decide +kernel) (by decide +kernel) (by decide +kernel) (by decide +kernel) (by decide +kernel) d_Files_init_32 (fun a32 H hP hD hS => ?_)
  refine W.widen (k := 4) (n := 34881) (by decide +kernel) (by decide +kernel) ?_
  refine va_putF (D := g.1) (ci := 1) (v := .ref a32) (ty := t_Files 3) (C := "MacroMill$Files") (T := F_Files) (N := 5) hx hb htt in_Files t_Files t_Files_ok n_Files hown hK hP hD hS 0 rfl rfl 3 (by decide) (htt _ k_9) (fun _ h9 => h9) rfl hin rfl (t_Files_ok 3 (by decide)) rfl rfl (Nat.le_of_ble_eq_true rfl) d_Files_init_34 (fun H locs hP hD hS => ?_)
  have hP : va_P g.1 classes [(h0, .inr (1, [.ref a7, .ref a16, .ref a24, .ref a32, .int 0]))] H := hP
  have hD : va_D A [(h0, .inr (1, [.ref a7, .ref a16, .ref a24, .ref a32, .int 0]))] := hD
  exact fin_v (g := g) (ws := [(h0, .inr (1, [.ref a7, .ref a16, .ref a24, .ref a32, .int 0]))]) hx hb hr hlocks (by decide +kernel) (by decide +kernel) hP hD hS ⟨a7, a16, a24, a32, rfl⟩ d_Files_init_37
abbrev rm_Outcome_init : Room := { frames := 1, cells := 1, slots := 65536, locals := 12 }
set_option maxHeartbeats 4000000 in
set_option maxRecDepth 100000 in
theorem c_Outcome_init (l : Launch) (g : gG) (sz : Nat) (h0 : Nat) : Cv l y_Outcome_init b_Outcome_init 1 rm_Outcome_init g [.ref h0] [(h0, .inr (2, [.null, .int 0, .int 0, .int 0, .int 0, .int 0, .int 0, .int 0, .int 0, .int 0]))] sz (fun w => ∃ (a7 : Nat), w = [(h0, .inr (2, [.ref a7, .int 0, .int 0, .int 0, .int 0, .int 0, .int 0, .int 0, .int 0, .int 0]))]) := by
  refine startV (by decide) (Nat.le_of_ble_eq_true rfl) ?_
  intro p e s m below meth c A ls hx hb hr hml hlocks hmn hown htt hN hA hP hK hD hS hl
  have hin : meth.name = "<init>" := hmn
  have hown : s.vm.findClass "MacroMill$Outcome" = some m.cls := hown
  have hl : lv_has ls 1 [(0, .ref h0)] := hl
  refine lv_aload_n hx hb d_Outcome_init_0 rfl (lv_at hl 0 rfl) ?_
  refine W.objInit hx hb hown (htt _ k_10) (htt _ k_1) (htt _ k_2) rfl (by rw [hml]; exact hl.1) rfl d_Outcome_init_1 (Nat.le_of_ble_eq_true rfl) (Nat.le_of_ble_eq_true rfl) ?_
  refine W.eq (g2 := F0 m 4 ls []) rfl ?_
  refine lv_aload_n hx hb d_Outcome_init_4 rfl (lv_at hl 0 rfl) ?_
  refine lv_ldc (v := 65536) hx hb hown (htt _ k_11) d_Outcome_init_5 ?_
  refine nea0 (g := g) (A := A) (atype := .byte) (ty := .byte) (a0 := (65536, .inl (fun _ => 0))) (N' := 65536) hx hb htt 0 rfl no_byte k_4 rfl hK hP hD hS hA (a0_byte 65536) (by decide +kernel) (by decide +kernel) (by decide +kernel) (by decide +kernel) (by decide +kernel) d_Outcome_init_7 (fun a7 H hP hD hS => ?_)
  refine W.widen (k := 1) (n := 65536) (by decide +kernel) (by decide +kernel) ?_
  refine va_putF (D := g.1) (ci := 2) (v := .ref a7) (ty := t_Outcome 0) (C := "MacroMill$Outcome") (T := F_Outcome) (N := 10) hx hb htt in_Outcome t_Outcome t_Outcome_ok n_Outcome hown hK hP hD hS 0 rfl rfl 0 (by decide) (htt _ k_12) (fun _ h9 => h9) rfl hin rfl (t_Outcome_ok 0 (by decide)) rfl rfl (Nat.le_of_ble_eq_true rfl) d_Outcome_init_9 (fun H locs hP hD hS => ?_)
  have hP : va_P g.1 classes [(h0, .inr (2, [.ref a7, .int 0, .int 0, .int 0, .int 0, .int 0, .int 0, .int 0, .int 0, .int 0]))] H := hP
  have hD : va_D A [(h0, .inr (2, [.ref a7, .int 0, .int 0, .int 0, .int 0, .int 0, .int 0, .int 0, .int 0, .int 0]))] := hD
  exact fin_v (g := g) (ws := [(h0, .inr (2, [.ref a7, .int 0, .int 0, .int 0, .int 0, .int 0, .int 0, .int 0, .int 0, .int 0]))]) hx hb hr hlocks (by decide +kernel) (by decide +kernel) hP hD hS ⟨a7, rfl⟩ d_Outcome_init_12
abbrev rm_Reckoner_init : Room := { frames := 1, cells := 5, slots := 5000, locals := 12 }
set_option maxHeartbeats 4000000 in
set_option maxRecDepth 100000 in
theorem c_Reckoner_init (l : Launch) (g : gG) (sz : Nat) (h0 : Nat) : Cv l y_Reckoner_init b_Reckoner_init 1 rm_Reckoner_init g [.ref h0] [(h0, .inr (3, [.null, .null, .int 0, .null, .null, .null, .int 0, .int 0, .int 0, .int 0, .int 0, .int 0, .int 0]))] sz (fun w => ∃ (a8 : Nat) (a17 : Nat) (a26 : Nat) (a35 : Nat) (a44 : Nat), w = [(h0, .inr (3, [.ref a8, .ref a17, .int 0, .ref a26, .ref a35, .ref a44, .int 0, .int 0, .int 0, .int 0, .int 0, .int 0, .int 0]))]) := by
  refine startV (by decide) (Nat.le_of_ble_eq_true rfl) ?_
  intro p e s m below meth c A ls hx hb hr hml hlocks hmn hown htt hN hA hP hK hD hS hl
  have hin : meth.name = "<init>" := hmn
  have hown : s.vm.findClass "MacroMill$Reckoner" = some m.cls := hown
  have hl : lv_has ls 1 [(0, .ref h0)] := hl
  refine lv_aload_n hx hb d_Reckoner_init_0 rfl (lv_at hl 0 rfl) ?_
  refine W.objInit hx hb hown (htt _ k_13) (htt _ k_1) (htt _ k_2) rfl (by rw [hml]; exact hl.1) rfl d_Reckoner_init_1 (Nat.le_of_ble_eq_true rfl) (Nat.le_of_ble_eq_true rfl) ?_
  refine W.eq (g2 := F0 m 4 ls []) rfl ?_
  refine lv_aload_n hx hb d_Reckoner_init_4 rfl (lv_at hl 0 rfl) ?_
  refine lv_sipush (v := 1000) hx hb d_Reckoner_init_5 (by decide) ?_
  refine nea0 (g := g) (A := A) (atype := .long) (ty := .long) (a0 := (1000, .inr (.inl (fun _ => 0)))) (N' := 1000) hx hb htt 2 rfl no_long k_14 rfl hK hP hD hS hA (a0_long 1000) (by decide +kernel) (by decide +kernel) (by decide +kernel) (by decide +kernel) (by decide +kernel) d_Reckoner_init_8 (fun a8 H hP hD hS => ?_)
  refine W.widen (k := 1) (n := 1000) (by decide +kernel) (by decide +kernel) ?_
  refine va_putF (D := g.1) (ci := 3) (v := .ref a8) (ty := t_Reckoner 0) (C := "MacroMill$Reckoner") (T := F_Reckoner) (N := 13) hx hb htt in_Reckoner t_Reckoner t_Reckoner_ok n_Reckoner hown hK hP hD hS 0 rfl rfl 0 (by decide) (htt _ k_15) (fun _ h9 => h9) rfl hin rfl (t_Reckoner_ok 0 (by decide)) rfl rfl (Nat.le_of_ble_eq_true rfl) d_Reckoner_init_10 (fun H locs hP hD hS => ?_)
  have hP : va_P g.1 classes [(h0, .inr (3, [.ref a8, .null, .int 0, .null, .null, .null, .int 0, .int 0, .int 0, .int 0, .int 0, .int 0, .int 0]))] H := hP
  have hD : va_D A [(h0, .inr (3, [.ref a8, .null, .int 0, .null, .null, .null, .int 0, .int 0, .int 0, .int 0, .int 0, .int 0, .int 0]))] := hD
  refine lv_aload_n hx hb d_Reckoner_init_13 rfl (lv_at hl 0 rfl) ?_
  refine lv_sipush (v := 1000) hx hb d_Reckoner_init_14 (by decide) ?_
  refine nea0 (g := g) (A := A) (atype := .boolean) (ty := .boolean) (a0 := (1000, .inl (fun _ => 0))) (N' := 1000) hx hb htt 3 rfl no_boolean k_16 rfl hK hP hD hS hA (a0_boolean 1000) (by decide +kernel) (by decide +kernel) (by decide +kernel) (by decide +kernel) (by decide +kernel) d_Reckoner_init_17 (fun a17 H hP hD hS => ?_)
  refine W.widen (k := 2) (n := 2000) (by decide +kernel) (by decide +kernel) ?_
  refine va_putF (D := g.1) (ci := 3) (v := .ref a17) (ty := t_Reckoner 1) (C := "MacroMill$Reckoner") (T := F_Reckoner) (N := 13) hx hb htt in_Reckoner t_Reckoner t_Reckoner_ok n_Reckoner hown hK hP hD hS 0 rfl rfl 1 (by decide) (htt _ k_17) (fun _ h9 => h9) rfl hin rfl (t_Reckoner_ok 1 (by decide)) rfl rfl (Nat.le_of_ble_eq_true rfl) d_Reckoner_init_19 (fun H locs hP hD hS => ?_)
  have hP : va_P g.1 classes [(h0, .inr (3, [.ref a8, .ref a17, .int 0, .null, .null, .null, .int 0, .int 0, .int 0, .int 0, .int 0, .int 0, .int 0]))] H := hP
  have hD : va_D A [(h0, .inr (3, [.ref a8, .ref a17, .int 0, .null, .null, .null, .int 0, .int 0, .int 0, .int 0, .int 0, .int 0, .int 0]))] := hD
  refine lv_aload_n hx hb d_Reckoner_init_22 rfl (lv_at hl 0 rfl) ?_
  show W _ _ _ _ _ _ _ _ _ _ _ _ _ _ _ (F0 _ 23 _ _)
  refine lv_sipush (v := 1000) hx hb d_Reckoner_init_23 (by decide) ?_
  refine nea0 (g := g) (A := A) (atype := .int) (ty := .int) (a0 := (1000, .inl (fun _ => 0))) (N' := 1000) hx hb htt 1 rfl no_int k_7 rfl hK hP hD hS hA (a0_int 1000) (by decide +kernel) (by decide +kernel) (by decide +kernel) (by decide +kernel) (by decide +kernel) d_Reckoner_init_26 (fun a26 H hP hD hS => ?_)
  refine W.widen (k := 3) (n := 3000) (by decide +kernel) (by decide +kernel) ?_
  refine va_putF (D := g.1) (ci := 3) (v := .ref a26) (ty := t_Reckoner 3) (C := "MacroMill$Reckoner") (T := F_Reckoner) (N := 13) hx hb htt in_Reckoner t_Reckoner t_Reckoner_ok n_Reckoner hown hK hP hD hS 0 rfl rfl 3 (by decide) (htt _ k_18) (fun _ h9 => h9) rfl hin rfl (t_Reckoner_ok 3 (by decide)) rfl rfl (Nat.le_of_ble_eq_true rfl) d_Reckoner_init_28 (fun H locs hP hD hS => ?_)
  have hP : va_P g.1 classes [(h0, .inr (3, [.ref a8, .ref a17, .int 0, .ref a26, .null, .null, .int 0, .int 0, .int 0, .int 0, .int 0, .int 0, .int 0]))] H := hP
  have hD : va_D A [(h0, .inr (3, [.ref a8, .ref a17, .int 0, .ref a26, .null, .null, .int 0, .int 0, .int 0, .int 0, .int 0, .int 0, .int 0]))] := hD
  refine lv_aload_n hx hb d_Reckoner_init_31 rfl (lv_at hl 0 rfl) ?_
  refine lv_sipush (v := 1000) hx hb d_Reckoner_init_32 (by decide) ?_
  refine nea0 (g := g) (A := A) (atype := .int) (ty := .int) (a0 := (1000, .inl (fun _ => 0))) (N' := 1000) hx hb htt 1 rfl no_int k_7 rfl hK hP hD hS hA (a0_int 1000) (by decide +kernel) (by decide +kernel) (by decide +kernel) (by decide +kernel) (by decide +kernel) d_Reckoner_init_35 (fun a35 H hP hD hS => ?_)
  refine W.widen (k := 4) (n := 4000) (by decide +kernel) (by decide +kernel) ?_
  refine va_putF (D := g.1) (ci := 3) (v := .ref a35) (ty := t_Reckoner 4) (C := "MacroMill$Reckoner") (T := F_Reckoner) (N := 13) hx hb htt in_Reckoner t_Reckoner t_Reckoner_ok n_Reckoner hown hK hP hD hS 0 rfl rfl 4 (by decide) (htt _ k_19) (fun _ h9 => h9) rfl hin rfl (t_Reckoner_ok 4 (by decide)) rfl rfl (Nat.le_of_ble_eq_true rfl) d_Reckoner_init_37 (fun H locs hP hD hS => ?_)
  have hP : va_P g.1 classes [(h0, .inr (3, [.ref a8, .ref a17, .int 0, .ref a26, .ref a35, .null, .int 0, .int 0, .int 0, .int 0, .int 0, .int 0, .int 0]))] H := hP
  have hD : va_D A [(h0, .inr (3, [.ref a8, .ref a17, .int 0, .ref a26, .ref a35, .null, .int 0, .int 0, .int 0, .int 0, .int 0, .int 0, .int 0]))] := hD
  refine lv_aload_n hx hb d_Reckoner_init_40 rfl (lv_at hl 0 rfl) ?_
  refine lv_sipush (v := 1000) hx hb d_Reckoner_init_41 (by decide) ?_
  refine nea0 (g := g) (A := A) (atype := .boolean) (ty := .boolean) (a0 := (1000, .inl (fun _ => 0))) (N' := 1000) hx hb htt 3 rfl no_boolean k_16 rfl hK hP hD hS hA (a0_boolean 1000) (by decide +kernel) (by decide +kernel) (by decide +kernel) (by decide +kernel) (by decide +kernel) d_Reckoner_init_44 (fun a44 H hP hD hS => ?_)
  refine W.widen (k := 5) (n := 5000) (by decide +kernel) (by decide +kernel) ?_
  refine va_putF (D := g.1) (ci := 3) (v := .ref a44) (ty := t_Reckoner 5) (C := "MacroMill$Reckoner") (T := F_Reckoner) (N := 13) hx hb htt in_Reckoner t_Reckoner t_Reckoner_ok n_Reckoner hown hK hP hD hS 0 rfl rfl 5 (by decide) (htt _ k_20) (fun _ h9 => h9) rfl hin rfl (t_Reckoner_ok 5 (by decide)) rfl rfl (Nat.le_of_ble_eq_true rfl) d_Reckoner_init_46 (fun H locs hP hD hS => ?_)
  have hP : va_P g.1 classes [(h0, .inr (3, [.ref a8, .ref a17, .int 0, .ref a26, .ref a35, .ref a44, .int 0, .int 0, .int 0, .int 0, .int 0, .int 0, .int 0]))] H := hP
  have hD : va_D A [(h0, .inr (3, [.ref a8, .ref a17, .int 0, .ref a26, .ref a35, .ref a44, .int 0, .int 0, .int 0, .int 0, .int 0, .int 0, .int 0]))] := hD
  exact fin_v (g := g) (ws := [(h0, .inr (3, [.ref a8, .ref a17, .int 0, .ref a26, .ref a35, .ref a44, .int 0, .int 0, .int 0, .int 0, .int 0, .int 0, .int 0]))]) hx hb hr hlocks (by decide +kernel) (by decide +kernel) hP hD hS ⟨a8, a17, a26, a35, a44, rfl⟩ d_Reckoner_init_49
abbrev rm_Calls_init : Room := { frames := 1, cells := 7, slots := 24826, locals := 12 }
set_option maxHeartbeats 4000000 in
set_option maxRecDepth 100000 in
theorem c_Calls_init (l : Launch) (g : gG) (sz : Nat) (h0 : Nat) : Cv l y_Calls_init b_Calls_init 1 rm_Calls_init g [.ref h0] [(h0, .inr (6, [.null, .int 0, .null, .int 0, .null, .null, .null, .null, .null, .int 0]))] sz (fun w => ∃ (a8 : Nat) (a17 : Nat) (a25 : Nat) (a33 : Nat) (a41 : Nat) (a49 : Nat) (a57 : Nat), w = [(h0, .inr (6, [.ref a8, .int 0, .ref a17, .int 0, .ref a25, .ref a33, .ref a41, .ref a49, .ref a57, .int 0]))]) := by
  refine startV (by decide) (Nat.le_of_ble_eq_true rfl) ?_
  intro p e s m below meth c A ls hx hb hr hml hlocks hmn hown htt hN hA hP hK hD hS hl
  have hin : meth.name = "<init>" := hmn
  have hown : s.vm.findClass "MacroMill$Calls" = some m.cls := hown
  have hl : lv_has ls 1 [(0, .ref h0)] := hl
  refine lv_aload_n hx hb d_Calls_init_0 rfl (lv_at hl 0 rfl) ?_
  refine W.objInit hx hb hown (htt _ k_21) (htt _ k_1) (htt _ k_2) rfl (by rw [hml]; exact hl.1) rfl d_Calls_init_1 (Nat.le_of_ble_eq_true rfl) (Nat.le_of_ble_eq_true rfl) ?_
  refine W.eq (g2 := F0 m 4 ls []) rfl ?_
  refine lv_aload_n hx hb d_Calls_init_4 rfl (lv_at hl 0 rfl) ?_
  refine lv_sipush (v := 16384) hx hb d_Calls_init_5 (by decide) ?_
  refine nea0 (g := g) (A := A) (atype := .byte) (ty := .byte) (a0 := (16384, .inl (fun _ => 0))) (N' := 16384) hx hb htt 0 rfl no_byte k_4 rfl hK hP hD hS hA (a0_byte 16384) (by decide +kernel) (by decide +kernel) (by decide +kernel) (by decide +kernel) (by decide +kernel) d_Calls_init_8 (fun a8 H hP hD hS => ?_)
  refine W.widen (k := 1) (n := 16384) (by decide +kernel) (by decide +kernel) ?_
  refine va_putF (D := g.1) (ci := 6) (v := .ref a8) (ty := t_Calls 0) (C := "MacroMill$Calls") (T := F_Calls) (N := 10) hx hb htt in_Calls t_Calls t_Calls_ok n_Calls hown hK hP hD hS 0 rfl rfl 0 (by decide) (htt _ k_22) (fun _ h9 => h9) rfl hin rfl (t_Calls_ok 0 (by decide)) rfl rfl (Nat.le_of_ble_eq_true rfl) d_Calls_init_10 (fun H locs hP hD hS => ?_)
  have hP : va_P g.1 classes [(h0, .inr (6, [.ref a8, .int 0, .null, .int 0, .null, .null, .null, .null, .null, .int 0]))] H := hP
  have hD : va_D A [(h0, .inr (6, [.ref a8, .int 0, .null, .int 0, .null, .null, .null, .null, .null, .int 0]))] := hD
  refine lv_aload_n hx hb d_Calls_init_13 rfl (lv_at hl 0 rfl) ?_
  refine lv_sipush (v := 8192) hx hb d_Calls_init_14 (by decide) ?_
  refine nea0 (g := g) (A := A) (atype := .int) (ty := .int) (a0 := (8192, .inl (fun _ => 0))) (N' := 8192) hx hb htt 1 rfl no_int k_7 rfl hK hP hD hS hA (a0_int 8192) (by decide +kernel) (by decide +kernel) (by decide +kernel) (by decide +kernel) (by decide +kernel) d_Calls_init_17 (fun a17 H hP hD hS => ?_)
  refine W.widen (k := 2) (n := 24576) (by decide +kernel) (by decide +kernel) ?_
  refine va_putF (D := g.1) (ci := 6) (v := .ref a17) (ty := t_Calls 2) (C := "MacroMill$Calls") (T := F_Calls) (N := 10) hx hb htt in_Calls t_Calls t_Calls_ok n_Calls hown hK hP hD hS 0 rfl rfl 2 (by decide) (htt _ k_23) (fun _ h9 => h9) rfl hin rfl (t_Calls_ok 2 (by decide)) rfl rfl (Nat.le_of_ble_eq_true rfl) d_Calls_init_19 (fun H locs hP hD hS => ?_)
  have hP : va_P g.1 classes [(h0, .inr (6, [.ref a8, .int 0, .ref a17, .int 0, .null, .null, .null, .null, .null, .int 0]))] H := hP
  have hD : va_D A [(h0, .inr (6, [.ref a8, .int 0, .ref a17, .int 0, .null, .null, .null, .null, .null, .int 0]))] := hD
  refine lv_aload_n hx hb d_Calls_init_22 rfl (lv_at hl 0 rfl) ?_
  show W _ _ _ _ _ _ _ _ _ _ _ _ _ _ _ (F0 _ 23 _ _)
  refine lv_bipush (v := 50) hx hb d_Calls_init_23 (by decide) ?_
  refine nea0 (g := g) (A := A) (atype := .int) (ty := .int) (a0 := (50, .inl (fun _ => 0))) (N' := 50) hx hb htt 1 rfl no_int k_7 rfl hK hP hD hS hA (a0_int 50) (by decide +kernel) (by decide +kernel) (by decide +kernel) (by decide +kernel) (by decide +kernel) d_Calls_init_25 (fun a25 H hP hD hS => ?_)
  refine W.widen (k := 3) (n := 24626) (by decide +kernel) (by decide +kernel) ?_
  refine va_putF (D := g.1) (ci := 6) (v := .ref a25) (ty := t_Calls 4) (C := "MacroMill$Calls") (T := F_Calls) (N := 10) hx hb htt in_Calls t_Calls t_Calls_ok n_Calls hown hK hP hD hS 0 rfl rfl 4 (by decide) (htt _ k_24) (fun _ h9 => h9) rfl hin rfl (t_Calls_ok 4 (by decide)) rfl rfl (Nat.le_of_ble_eq_true rfl) d_Calls_init_27 (fun H locs hP hD hS => ?_)
  have hP : va_P g.1 classes [(h0, .inr (6, [.ref a8, .int 0, .ref a17, .int 0, .ref a25, .null, .null, .null, .null, .int 0]))] H := hP
  have hD : va_D A [(h0, .inr (6, [.ref a8, .int 0, .ref a17, .int 0, .ref a25, .null, .null, .null, .null, .int 0]))] := hD
  refine lv_aload_n hx hb d_Calls_init_30 rfl (lv_at hl 0 rfl) ?_
  refine lv_bipush (v := 50) hx hb d_Calls_init_31 (by decide) ?_
  refine nea0 (g := g) (A := A) (atype := .int) (ty := .int) (a0 := (50, .inl (fun _ => 0))) (N' := 50) hx hb htt 1 rfl no_int k_7 rfl hK hP hD hS hA (a0_int 50) (by decide +kernel) (by decide +kernel) (by decide +kernel) (by decide +kernel) (by decide +kernel) d_Calls_init_33 (fun a33 H hP hD hS => ?_)
  refine W.widen (k := 4) (n := 24676) (by decide +kernel) (by decide +kernel) ?_
  refine va_putF (D := g.1) (ci := 6) (v := .ref a33) (ty := t_Calls 5) (C := "MacroMill$Calls") (T := F_Calls) (N := 10) hx hb htt in_Calls t_Calls t_Calls_ok n_Calls hown hK hP hD hS 0 rfl rfl 5 (by decide) (htt _ k_25) (fun _ h9 => h9) rfl hin rfl (t_Calls_ok 5 (by decide)) rfl rfl (Nat.le_of_ble_eq_true rfl) d_Calls_init_35 (fun H locs hP hD hS => ?_)
  have hP : va_P g.1 classes [(h0, .inr (6, [.ref a8, .int 0, .ref a17, .int 0, .ref a25, .ref a33, .null, .null, .null, .int 0]))] H := hP
  have hD : va_D A [(h0, .inr (6, [.ref a8, .int 0, .ref a17, .int 0, .ref a25, .ref a33, .null, .null, .null, .int 0]))] := hD
  refine lv_aload_n hx hb d_Calls_init_38 rfl (lv_at hl 0 rfl) ?_
  refine lv_bipush (v := 50) hx hb d_Calls_init_39 (by decide) ?_
  refine nea0 (g := g) (A := A) (atype := .int) (ty := .int) (a0 := (50, .inl (fun _ => 0))) (N' := 50) hx hb htt 1 rfl no_int k_7 rfl hK hP hD hS hA (a0_int 50) (by decide +kernel) (by decide +kernel) (by decide +kernel) (by decide +kernel) (by decide +kernel) d_Calls_init_41 (fun a41 H hP hD hS => ?_)
  refine W.widen (k := 5) (n := 24726) (by decide +kernel) (by decide +kernel) ?_
  refine va_putF (D := g.1) (ci := 6) (v := .ref a41) (ty := t_Calls 6) (C := "MacroMill$Calls") (T := F_Calls) (N := 10) hx hb htt in_Calls t_Calls t_Calls_ok n_Calls hown hK hP hD hS 0 rfl rfl 6 (by decide) (htt _ k_26) (fun _ h9 => h9) rfl hin rfl (t_Calls_ok 6 (by decide)) rfl rfl (Nat.le_of_ble_eq_true rfl) d_Calls_init_43 (fun H locs hP hD hS => ?_)
  have hP : va_P g.1 classes [(h0, .inr (6, [.ref a8, .int 0, .ref a17, .int 0, .ref a25, .ref a33, .ref a41, .null, .null, .int 0]))] H := hP
  have hD : va_D A [(h0, .inr (6, [.ref a8, .int 0, .ref a17, .int 0, .ref a25, .ref a33, .ref a41, .null, .null, .int 0]))] := hD
  refine lv_aload_n hx hb d_Calls_init_46 rfl (lv_at hl 0 rfl) ?_
  show W _ _ _ _ _ _ _ _ _ _ _ _ _ _ _ (F0 _ 47 _ _)
  refine lv_bipush (v := 50) hx hb d_Calls_init_47 (by decide) ?_
  refine nea0 (g := g) (A := A) (atype := .int) (ty := .int) (a0 := (50, .inl (fun _ => 0))) (N' := 50) hx hb htt 1 rfl no_int k_7 rfl hK hP hD hS hA (a0_int 50) (by decide +kernel) (by decide +kernel) (by decide +kernel) (by decide +kernel) (by decide +kernel) d_Calls_init_49 (fun a49 H hP hD hS => ?_)
  refine W.widen (k := 6) (n := 24776) (by decide +kernel) (by decide +kernel) ?_
  refine va_putF (D := g.1) (ci := 6) (v := .ref a49) (ty := t_Calls 7) (C := "MacroMill$Calls") (T := F_Calls) (N := 10) hx hb htt in_Calls t_Calls t_Calls_ok n_Calls hown hK hP hD hS 0 rfl rfl 7 (by decide) (htt _ k_27) (fun _ h9 => h9) rfl hin rfl (t_Calls_ok 7 (by decide)) rfl rfl (Nat.le_of_ble_eq_true rfl) d_Calls_init_51 (fun H locs hP hD hS => ?_)
  have hP : va_P g.1 classes [(h0, .inr (6, [.ref a8, .int 0, .ref a17, .int 0, .ref a25, .ref a33, .ref a41, .ref a49, .null, .int 0]))] H := hP
  have hD : va_D A [(h0, .inr (6, [.ref a8, .int 0, .ref a17, .int 0, .ref a25, .ref a33, .ref a41, .ref a49, .null, .int 0]))] := hD
  refine lv_aload_n hx hb d_Calls_init_54 rfl (lv_at hl 0 rfl) ?_
  refine lv_bipush (v := 50) hx hb d_Calls_init_55 (by decide) ?_
  refine nea0 (g := g) (A := A) (atype := .boolean) (ty := .boolean) (a0 := (50, .inl (fun _ => 0))) (N' := 50) hx hb htt 3 rfl no_boolean k_16 rfl hK hP hD hS hA (a0_boolean 50) (by decide +kernel) (by decide +kernel) (by decide +kernel) (by decide +kernel) (by decide +kernel) d_Calls_init_57 (fun a57 H hP hD hS => ?_)
  refine W.widen (k := 7) (n := 24826) (by decide +kernel) (by decide +kernel) ?_
  refine va_putF (D := g.1) (ci := 6) (v := .ref a57) (ty := t_Calls 8) (C := "MacroMill$Calls") (T := F_Calls) (N := 10) hx hb htt in_Calls t_Calls t_Calls_ok n_Calls hown hK hP hD hS 0 rfl rfl 8 (by decide) (htt _ k_28) (fun _ h9 => h9) rfl hin rfl (t_Calls_ok 8 (by decide)) rfl rfl (Nat.le_of_ble_eq_true rfl) d_Calls_init_59 (fun H locs hP hD hS => ?_)
  have hP : va_P g.1 classes [(h0, .inr (6, [.ref a8, .int 0, .ref a17, .int 0, .ref a25, .ref a33, .ref a41, .ref a49, .ref a57, .int 0]))] H := hP
  have hD : va_D A [(h0, .inr (6, [.ref a8, .int 0, .ref a17, .int 0, .ref a25, .ref a33, .ref a41, .ref a49, .ref a57, .int 0]))] := hD
  exact fin_v (g := g) (ws := [(h0, .inr (6, [.ref a8, .int 0, .ref a17, .int 0, .ref a25, .ref a33, .ref a41, .ref a49, .ref a57, .int 0]))]) hx hb hr hlocks (by decide +kernel) (by decide +kernel) hP hD hS ⟨a8, a17, a25, a33, a41, a49, a57, rfl⟩ d_Calls_init_62
abbrev rm_Meanings_init : Room := { frames := 1, cells := 7, slots := 35121, locals := 12 }
set_option maxHeartbeats 4000000 in
set_option maxRecDepth 100000 in
theorem c_Meanings_init (l : Launch) (g : gG) (sz : Nat) (h0 : Nat) : Cv l y_Meanings_init b_Meanings_init 1 rm_Meanings_init g [.ref h0] [(h0, .inr (7, [.null, .int 0, .null, .null, .int 0, .null, .null, .null, .null, .int 0, .int 0]))] sz (fun w => ∃ (a7 : Nat) (a16 : Nat) (a25 : Nat) (a34 : Nat) (a43 : Nat) (a52 : Nat) (a61 : Nat), w = [(h0, .inr (7, [.ref a7, .int 0, .ref a16, .ref a25, .int 0, .ref a34, .ref a43, .ref a52, .ref a61, .int 0, .int 0]))]) := by
  refine startV (by decide) (Nat.le_of_ble_eq_true rfl) ?_
  intro p e s m below meth c A ls hx hb hr hml hlocks hmn hown htt hN hA hP hK hD hS hl
  have hin : meth.name = "<init>" := hmn
  have hown : s.vm.findClass "MacroMill$Meanings" = some m.cls := hown
  have hl : lv_has ls 1 [(0, .ref h0)] := hl
  refine lv_aload_n hx hb d_Meanings_init_0 rfl (lv_at hl 0 rfl) ?_
  refine W.objInit hx hb hown (htt _ k_29) (htt _ k_1) (htt _ k_2) rfl (by rw [hml]; exact hl.1) rfl d_Meanings_init_1 (Nat.le_of_ble_eq_true rfl) (Nat.le_of_ble_eq_true rfl) ?_
  refine W.eq (g2 := F0 m 4 ls []) rfl ?_
  refine lv_aload_n hx hb d_Meanings_init_4 rfl (lv_at hl 0 rfl) ?_
  refine lv_ldc (v := 33280) hx hb hown (htt _ k_30) d_Meanings_init_5 ?_
  refine nea0 (g := g) (A := A) (atype := .byte) (ty := .byte) (a0 := (33280, .inl (fun _ => 0))) (N' := 33280) hx hb htt 0 rfl no_byte k_4 rfl hK hP hD hS hA (a0_byte 33280) (by decide +kernel) (by decide +kernel) (by decide +kernel) (by decide +kernel) (by decide +kernel) d_Meanings_init_7 (fun a7 H hP hD hS => ?_)
  refine W.widen (k := 1) (n := 33280) (by decide +kernel) (by decide +kernel) ?_
  refine va_putF (D := g.1) (ci := 7) (v := .ref a7) (ty := t_Meanings 0) (C := "MacroMill$Meanings") (T := F_Meanings) (N := 11) hx hb htt in_Meanings t_Meanings t_Meanings_ok n_Meanings hown hK hP hD hS 0 rfl rfl 0 (by decide) (htt _ k_31) (fun _ h9 => h9) rfl hin rfl (t_Meanings_ok 0 (by decide)) rfl rfl (Nat.le_of_ble_eq_true rfl) d_Meanings_init_9 (fun H locs hP hD hS => ?_)
  have hP : va_P g.1 classes [(h0, .inr (7, [.ref a7, .int 0, .null, .null, .int 0, .null, .null, .null, .null, .int 0, .int 0]))] H := hP
  have hD : va_D A [(h0, .inr (7, [.ref a7, .int 0, .null, .null, .int 0, .null, .null, .null, .null, .int 0, .int 0]))] := hD
  refine lv_aload_n hx hb d_Meanings_init_12 rfl (lv_at hl 0 rfl) ?_
  refine lv_sipush (v := 256) hx hb d_Meanings_init_13 (by decide) ?_
  refine nea0 (g := g) (A := A) (atype := .int) (ty := .int) (a0 := (256, .inl (fun _ => 0))) (N' := 256) hx hb htt 1 rfl no_int k_7 rfl hK hP hD hS hA (a0_int 256) (by decide +kernel) (by decide +kernel) (by decide +kernel) (by decide +kernel) (by decide +kernel) d_Meanings_init_16 (fun a16 H hP hD hS => ?_)
  refine W.widen (k := 2) (n := 33536) (by decide +kernel) (by decide +kernel) ?_
  refine va_putF (D := g.1) (ci := 7) (v := .ref a16) (ty := t_Meanings 2) (C := "MacroMill$Meanings") (T := F_Meanings) (N := 11) hx hb htt in_Meanings t_Meanings t_Meanings_ok n_Meanings hown hK hP hD hS 0 rfl rfl 2 (by decide) (htt _ k_32) (fun _ h9 => h9) rfl hin rfl (t_Meanings_ok 2 (by decide)) rfl rfl (Nat.le_of_ble_eq_true rfl) d_Meanings_init_18 (fun H locs hP hD hS => ?_)
  have hP : va_P g.1 classes [(h0, .inr (7, [.ref a7, .int 0, .ref a16, .null, .int 0, .null, .null, .null, .null, .int 0, .int 0]))] H := hP
  have hD : va_D A [(h0, .inr (7, [.ref a7, .int 0, .ref a16, .null, .int 0, .null, .null, .null, .null, .int 0, .int 0]))] := hD
  refine lv_aload_n hx hb d_Meanings_init_21 rfl (lv_at hl 0 rfl) ?_
  show W _ _ _ _ _ _ _ _ _ _ _ _ _ _ _ (F0 _ 22 _ _)
  refine lv_sipush (v := 317) hx hb d_Meanings_init_22 (by decide) ?_
  refine nea0 (g := g) (A := A) (atype := .int) (ty := .int) (a0 := (317, .inl (fun _ => 0))) (N' := 317) hx hb htt 1 rfl no_int k_7 rfl hK hP hD hS hA (a0_int 317) (by decide +kernel) (by decide +kernel) (by decide +kernel) (by decide +kernel) (by decide +kernel) d_Meanings_init_25 (fun a25 H hP hD hS => ?_)
  refine W.widen (k := 3) (n := 33853) (by decide +kernel) (by decide +kernel) ?_
  refine va_putF (D := g.1) (ci := 7) (v := .ref a25) (ty := t_Meanings 3) (C := "MacroMill$Meanings") (T := F_Meanings) (N := 11) hx hb htt in_Meanings t_Meanings t_Meanings_ok n_Meanings hown hK hP hD hS 0 rfl rfl 3 (by decide) (htt _ k_33) (fun _ h9 => h9) rfl hin rfl (t_Meanings_ok 3 (by decide)) rfl rfl (Nat.le_of_ble_eq_true rfl) d_Meanings_init_27 (fun H locs hP hD hS => ?_)
  have hP : va_P g.1 classes [(h0, .inr (7, [.ref a7, .int 0, .ref a16, .ref a25, .int 0, .null, .null, .null, .null, .int 0, .int 0]))] H := hP
  have hD : va_D A [(h0, .inr (7, [.ref a7, .int 0, .ref a16, .ref a25, .int 0, .null, .null, .null, .null, .int 0, .int 0]))] := hD
  refine lv_aload_n hx hb d_Meanings_init_30 rfl (lv_at hl 0 rfl) ?_
  refine lv_sipush (v := 317) hx hb d_Meanings_init_31 (by decide) ?_
  refine nea0 (g := g) (A := A) (atype := .int) (ty := .int) (a0 := (317, .inl (fun _ => 0))) (N' := 317) hx hb htt 1 rfl no_int k_7 rfl hK hP hD hS hA (a0_int 317) (by decide +kernel) (by decide +kernel) (by decide +kernel) (by decide +kernel) (by decide +kernel) d_Meanings_init_34 (fun a34 H hP hD hS => ?_)
  refine W.widen (k := 4) (n := 34170) (by decide +kernel) (by decide +kernel) ?_
  refine va_putF (D := g.1) (ci := 7) (v := .ref a34) (ty := t_Meanings 5) (C := "MacroMill$Meanings") (T := F_Meanings) (N := 11) hx hb htt in_Meanings t_Meanings t_Meanings_ok n_Meanings hown hK hP hD hS 0 rfl rfl 5 (by decide) (htt _ k_34) (fun _ h9 => h9) rfl hin rfl (t_Meanings_ok 5 (by decide)) rfl rfl (Nat.le_of_ble_eq_true rfl) d_Meanings_init_36 (fun H locs hP hD hS => ?_)
  have hP : va_P g.1 classes [(h0, .inr (7, [.ref a7, .int 0, .ref a16, .ref a25, .int 0, .ref a34, .null, .null, .null, .int 0, .int 0]))] H := hP
  have hD : va_D A [(h0, .inr (7, [.ref a7, .int 0, .ref a16, .ref a25, .int 0, .ref a34, .null, .null, .null, .int 0, .int 0]))] := hD
  refine lv_aload_n hx hb d_Meanings_init_39 rfl (lv_at hl 0 rfl) ?_
  refine lv_sipush (v := 317) hx hb d_Meanings_init_40 (by decide) ?_
  refine nea0 (g := g) (A := A) (atype := .int) (ty := .int) (a0 := (317, .inl (fun _ => 0))) (N' := 317) hx hb htt 1 rfl no_int k_7 rfl hK hP hD hS hA (a0_int 317) (by decide +kernel) (by decide +kernel) (by decide +kernel) (by decide +kernel) (by decide +kernel) d_Meanings_init_43 (fun a43 H hP hD hS => ?_)
  refine W.widen (k := 5) (n := 34487) (by decide +kernel) (by decide +kernel) ?_
  refine va_putF (D := g.1) (ci := 7) (v := .ref a43) (ty := t_Meanings 6) (C := "MacroMill$Meanings") (T := F_Meanings) (N := 11) hx hb htt in_Meanings t_Meanings t_Meanings_ok n_Meanings hown hK hP hD hS 0 rfl rfl 6 (by decide) (htt _ k_35) (fun _ h9 => h9) rfl hin rfl (t_Meanings_ok 6 (by decide)) rfl rfl (Nat.le_of_ble_eq_true rfl) d_Meanings_init_45 (fun H locs hP hD hS => ?_)
  have hP : va_P g.1 classes [(h0, .inr (7, [.ref a7, .int 0, .ref a16, .ref a25, .int 0, .ref a34, .ref a43, .null, .null, .int 0, .int 0]))] H := hP
  have hD : va_D A [(h0, .inr (7, [.ref a7, .int 0, .ref a16, .ref a25, .int 0, .ref a34, .ref a43, .null, .null, .int 0, .int 0]))] := hD
  refine lv_aload_n hx hb d_Meanings_init_48 rfl (lv_at hl 0 rfl) ?_
  show W _ _ _ _ _ _ _ _ _ _ _ _ _ _ _ (F0 _ 49 _ _)
  refine lv_sipush (v := 317) hx hb d_Meanings_init_49 (by decide) ?_
  refine nea0 (g := g) (A := A) (atype := .int) (ty := .int) (a0 := (317, .inl (fun _ => 0))) (N' := 317) hx hb htt 1 rfl no_int k_7 rfl hK hP hD hS hA (a0_int 317) (by decide +kernel) (by decide +kernel) (by decide +kernel) (by decide +kernel) (by decide +kernel) d_Meanings_init_52 (fun a52 H hP hD hS => ?_)
  refine W.widen (k := 6) (n := 34804) (by decide +kernel) (by decide +kernel) ?_
  refine va_putF (D := g.1) (ci := 7) (v := .ref a52) (ty := t_Meanings 7) (C := "MacroMill$Meanings") (T := F_Meanings) (N := 11) hx hb htt in_Meanings t_Meanings t_Meanings_ok n_Meanings hown hK hP hD hS 0 rfl rfl 7 (by decide) (htt _ k_36) (fun _ h9 => h9) rfl hin rfl (t_Meanings_ok 7 (by decide)) rfl rfl (Nat.le_of_ble_eq_true rfl) d_Meanings_init_54 (fun H locs hP hD hS => ?_)
  have hP : va_P g.1 classes [(h0, .inr (7, [.ref a7, .int 0, .ref a16, .ref a25, .int 0, .ref a34, .ref a43, .ref a52, .null, .int 0, .int 0]))] H := hP
  have hD : va_D A [(h0, .inr (7, [.ref a7, .int 0, .ref a16, .ref a25, .int 0, .ref a34, .ref a43, .ref a52, .null, .int 0, .int 0]))] := hD
  refine lv_aload_n hx hb d_Meanings_init_57 rfl (lv_at hl 0 rfl) ?_
  refine lv_sipush (v := 317) hx hb d_Meanings_init_58 (by decide) ?_
  refine nea0 (g := g) (A := A) (atype := .int) (ty := .int) (a0 := (317, .inl (fun _ => 0))) (N' := 317) hx hb htt 1 rfl no_int k_7 rfl hK hP hD hS hA (a0_int 317) (by decide +kernel) (by decide +kernel) (by decide +kernel) (by decide +kernel) (by decide +kernel) d_Meanings_init_61 (fun a61 H hP hD hS => ?_)
  refine W.widen (k := 7) (n := 35121) (by decide +kernel) (by decide +kernel) ?_
  refine va_putF (D := g.1) (ci := 7) (v := .ref a61) (ty := t_Meanings 8) (C := "MacroMill$Meanings") (T := F_Meanings) (N := 11) hx hb htt in_Meanings t_Meanings t_Meanings_ok n_Meanings hown hK hP hD hS 0 rfl rfl 8 (by decide) (htt _ k_37) (fun _ h9 => h9) rfl hin rfl (t_Meanings_ok 8 (by decide)) rfl rfl (Nat.le_of_ble_eq_true rfl) d_Meanings_init_63 (fun H locs hP hD hS => ?_)
  have hP : va_P g.1 classes [(h0, .inr (7, [.ref a7, .int 0, .ref a16, .ref a25, .int 0, .ref a34, .ref a43, .ref a52, .ref a61, .int 0, .int 0]))] H := hP
  have hD : va_D A [(h0, .inr (7, [.ref a7, .int 0, .ref a16, .ref a25, .int 0, .ref a34, .ref a43, .ref a52, .ref a61, .int 0, .int 0]))] := hD
  exact fin_v (g := g) (ws := [(h0, .inr (7, [.ref a7, .int 0, .ref a16, .ref a25, .int 0, .ref a34, .ref a43, .ref a52, .ref a61, .int 0, .int 0]))]) hx hb hr hlocks (by decide +kernel) (by decide +kernel) hP hD hS ⟨a7, a16, a25, a34, a43, a52, a61, rfl⟩ d_Meanings_init_66
abbrev rm_Input_init : Room := { frames := 1, cells := 2, slots := 32776, locals := 12 }
set_option maxHeartbeats 4000000 in
set_option maxRecDepth 100000 in
theorem c_Input_init (l : Launch) (g : gG) (sz : Nat) (h0 : Nat) (o1 : Nat) : Cv l y_Input_init b_Input_init 2 rm_Input_init g [.ref h0, .ref o1] [(h0, .inr (5, [.null, .null, .int 0, .int 0, .int 0, .int 0, .null, .int 0, .int 0, .int 0, .int 0, .int 0]))] sz (fun w => ∃ (a7 : Nat) (a15 : Nat), w = [(h0, .inr (5, [.ref a7, .ref o1, .int 0, .int 0, .int 0, .int 0, .ref a15, .int 0, .int 0, .int 0, .int 0, .int 0]))]) := by
  refine startV (by decide) (Nat.le_of_ble_eq_true rfl) ?_
  intro p e s m below meth c A ls hx hb hr hml hlocks hmn hown htt hN hA hP hK hD hS hl
  have hin : meth.name = "<init>" := hmn
  have hown : s.vm.findClass "MacroMill$Input" = some m.cls := hown
  have hl : lv_has ls 2 [(0, .ref h0), (1, .ref o1)] := hl
  refine lv_aload_n hx hb d_Input_init_0 rfl (lv_at hl 0 rfl) ?_
  refine W.objInit hx hb hown (htt _ k_38) (htt _ k_1) (htt _ k_2) rfl (by rw [hml]; exact hl.1) rfl d_Input_init_1 (Nat.le_of_ble_eq_true rfl) (Nat.le_of_ble_eq_true rfl) ?_
  refine W.eq (g2 := F0 m 4 ls []) rfl ?_
  refine lv_aload_n hx hb d_Input_init_4 rfl (lv_at hl 0 rfl) ?_
  refine lv_ldc (v := 32768) hx hb hown (htt _ k_39) d_Input_init_5 ?_
  refine nea0 (g := g) (A := A) (atype := .byte) (ty := .byte) (a0 := (32768, .inl (fun _ => 0))) (N' := 32768) hx hb htt 0 rfl no_byte k_4 rfl hK hP hD hS hA (a0_byte 32768) (by decide +kernel) (by decide +kernel) (by decide +kernel) (by decide +kernel) (by decide +kernel) d_Input_init_7 (fun a7 H hP hD hS => ?_)
  refine W.widen (k := 1) (n := 32768) (by decide +kernel) (by decide +kernel) ?_
  refine va_putF (D := g.1) (ci := 5) (v := .ref a7) (ty := t_Input 0) (C := "MacroMill$Input") (T := F_Input) (N := 12) hx hb htt in_Input t_Input t_Input_ok n_Input hown hK hP hD hS 0 rfl rfl 0 (by decide) (htt _ k_40) (fun _ h9 => h9) rfl hin rfl (t_Input_ok 0 (by decide)) rfl rfl (Nat.le_of_ble_eq_true rfl) d_Input_init_9 (fun H locs hP hD hS => ?_)
  have hP : va_P g.1 classes [(h0, .inr (5, [.ref a7, .null, .int 0, .int 0, .int 0, .int 0, .null, .int 0, .int 0, .int 0, .int 0, .int 0]))] H := hP
  have hD : va_D A [(h0, .inr (5, [.ref a7, .null, .int 0, .int 0, .int 0, .int 0, .null, .int 0, .int 0, .int 0, .int 0, .int 0]))] := hD
  refine lv_aload_n hx hb d_Input_init_12 rfl (lv_at hl 0 rfl) ?_
  refine lv_bipush (v := 8) hx hb d_Input_init_13 (by decide) ?_
  refine nea0 (g := g) (A := A) (atype := .byte) (ty := .byte) (a0 := (8, .inl (fun _ => 0))) (N' := 8) hx hb htt 0 rfl no_byte k_4 rfl hK hP hD hS hA (a0_byte 8) (by decide +kernel) (by decide +kernel) (by decide +kernel) (by decide +kernel) (by decide +kernel) d_Input_init_15 (fun a15 H hP hD hS => ?_)
  refine W.widen (k := 2) (n := 32776) (by decide +kernel) (by decide +kernel) ?_
  refine va_putF (D := g.1) (ci := 5) (v := .ref a15) (ty := t_Input 6) (C := "MacroMill$Input") (T := F_Input) (N := 12) hx hb htt in_Input t_Input t_Input_ok n_Input hown hK hP hD hS 0 rfl rfl 6 (by decide) (htt _ k_41) (fun _ h9 => h9) rfl hin rfl (t_Input_ok 6 (by decide)) rfl rfl (Nat.le_of_ble_eq_true rfl) d_Input_init_17 (fun H locs hP hD hS => ?_)
  have hP : va_P g.1 classes [(h0, .inr (5, [.ref a7, .null, .int 0, .int 0, .int 0, .int 0, .ref a15, .int 0, .int 0, .int 0, .int 0, .int 0]))] H := hP
  have hD : va_D A [(h0, .inr (5, [.ref a7, .null, .int 0, .int 0, .int 0, .int 0, .ref a15, .int 0, .int 0, .int 0, .int 0, .int 0]))] := hD
  refine lv_aload_n hx hb d_Input_init_20 rfl (lv_at hl 0 rfl) ?_
  show W _ _ _ _ _ _ _ _ _ _ _ _ _ _ _ (F0 _ 21 _ _)
  refine lv_aload_n hx hb d_Input_init_21 rfl (lv_at hl 1 rfl) ?_
  refine va_putF (D := g.1) (ci := 5) (v := .ref o1) (ty := t_Input 1) (C := "MacroMill$Input") (T := F_Input) (N := 12) hx hb htt in_Input t_Input t_Input_ok n_Input hown hK hP hD hS 0 rfl rfl 1 (by decide) (htt _ k_42) (fun _ h9 => h9) rfl hin rfl (t_Input_ok 1 (by decide)) rfl rfl (Nat.le_of_ble_eq_true rfl) d_Input_init_22 (fun H locs hP hD hS => ?_)
  have hP : va_P g.1 classes [(h0, .inr (5, [.ref a7, .ref o1, .int 0, .int 0, .int 0, .int 0, .ref a15, .int 0, .int 0, .int 0, .int 0, .int 0]))] H := hP
  have hD : va_D A [(h0, .inr (5, [.ref a7, .ref o1, .int 0, .int 0, .int 0, .int 0, .ref a15, .int 0, .int 0, .int 0, .int 0, .int 0]))] := hD
  exact fin_v (g := g) (ws := [(h0, .inr (5, [.ref a7, .ref o1, .int 0, .int 0, .int 0, .int 0, .ref a15, .int 0, .int 0, .int 0, .int 0, .int 0]))]) hx hb hr hlocks (by decide +kernel) (by decide +kernel) hP hD hS ⟨a7, a15, rfl⟩ d_Input_init_25
abbrev rm_First_init : Room := { frames := 2, cells := 24, slots := 191080, locals := 33 }
set_option maxHeartbeats 4000000 in
set_option maxRecDepth 100000 in
theorem c_First_init (l : Launch) (g : gG) (sz : Nat) (h0 : Nat) (o1 : Nat) (o2 : Nat) : Cv l y_First_init b_First_init 3 rm_First_init g [.ref h0, .ref o1, .ref o2] [(h0, .inr (4, [.null, .null, .null, .null, .null, .null, .int 0, .null, .null, .null, .null, .int 0, .int 0, .int 0, .int 0]))] sz (fun w => ∃ (q5 : Nat) (q16 : Nat) (a29 : Nat) (a37 : Nat) (a45 : Nat) (a53 : Nat) (a61_2 : Nat) (q77 : Nat), w = [(h0, .inr (4, [.ref o1, .ref o2, .ref q77, .ref q5, .ref q16, .ref a29, .int 0, .ref a37, .ref a45, .ref a53, .ref a61_2, .int 0, .int 0, .int 0, .int 0]))]) := by
  refine startV (by decide) (Nat.le_of_ble_eq_true rfl) ?_
  intro p e s m below meth c A ls hx hb hr hml hlocks hmn hown htt hN hA hP hK hD hS hl
  have hin : meth.name = "<init>" := hmn
  have hown : s.vm.findClass "MacroMill$First" = some m.cls := hown
  have hl : lv_has ls 3 [(0, .ref h0), (1, .ref o1), (2, .ref o2)] := hl
  refine lv_aload_n hx hb d_First_init_0 rfl (lv_at hl 0 rfl) ?_
  refine W.objInit hx hb hown (htt _ k_43) (htt _ k_1) (htt _ k_2) rfl (by rw [hml]; exact hl.1) rfl d_First_init_1 (Nat.le_of_ble_eq_true rfl) (Nat.le_of_ble_eq_true rfl) ?_
  refine W.eq (g2 := F0 m 4 ls []) rfl ?_
  refine lv_aload_n hx hb d_First_init_4 rfl (lv_at hl 0 rfl) ?_
  refine va_new (D := g.1) (ci := 6) (fs := [.null, .int 0, .null, .int 0, .null, .null, .null, .null, .null, .int 0]) (C := "MacroMill$Calls") (T := F_Calls) (N := 10) hx hb htt in_Calls t_Calls t_Calls_ok hown (htt _ k_44) (htt _ k_45) (htt _ k_46) hK hP hD hS hA rfl z_Calls (by decide +kernel) (by decide +kernel) d_First_init_5 (fun q5 H hP hD hS => ?_)
  refine W.widen (k := 1) (n := 10) (by decide +kernel) (by decide +kernel) ?_
  have hP : va_P g.1 classes [(h0, .inr (4, [.null, .null, .null, .null, .null, .null, .int 0, .null, .null, .null, .null, .int 0, .int 0, .int 0, .int 0])), (q5, .inr (6, [.null, .int 0, .null, .int 0, .null, .null, .null, .null, .null, .int 0]))] H := hP
  have hD : va_D A [(h0, .inr (4, [.null, .null, .null, .null, .null, .null, .int 0, .null, .null, .null, .null, .int 0, .int 0, .int 0, .int 0])), (q5, .inr (6, [.null, .int 0, .null, .int 0, .null, .null, .null, .null, .null, .int 0]))] := hD
  refine lv_dup hx hb d_First_init_8 rfl ?_
  refine go_v (As := [.ref q5]) (g := g) (A := A) (wc := [(q5, .inr (6, [.null, .int 0, .null, .int 0, .null, .null, .null, .null, .null, .int 0]))]) (wr := [(h0, .inr (4, [.null, .null, .null, .null, .null, .null, .int 0, .null, .null, .null, .null, .int 0, .int 0, .int 0, .int 0]))]) [1] [0] rfl rfl rfl rfl (by decide) hP hK hD hS hA hN (fun hp => va_runIN (As := []) (rest := [.ref q5, .ref h0]) ⟨hx, hb, hml, hown, htt⟩ (c_Calls_init l g _ q5) ⟨(cb_N (host := "MacroMill") htt k_47 k_46 hN nM_0 hd_Calls_init ⟨(by decide +kernel), (by decide +kernel)⟩), rfl, htt _ k_48⟩ hp rfl rfl hl.1 rfl (lv_room (Nat.le_of_ble_eq_true rfl)) d_First_init_9 ⟨(by decide +kernel), (by decide +kernel)⟩) (fun w9 H locs hw9 hP hD hS => ?_)
  obtain ⟨a8, a17, a25, a33, a41, a49, a57, rfl⟩ := hw9
  refine W.widen (k := 8) (n := 24836) (by decide +kernel) (by decide +kernel) ?_
  have hP : va_P g.1 classes [(h0, .inr (4, [.null, .null, .null, .null, .null, .null, .int 0, .null, .null, .null, .null, .int 0, .int 0, .int 0, .int 0])), (q5, .inr (6, [.ref a8, .int 0, .ref a17, .int 0, .ref a25, .ref a33, .ref a41, .ref a49, .ref a57, .int 0]))] H := hP
  have hD : va_D A [(h0, .inr (4, [.null, .null, .null, .null, .null, .null, .int 0, .null, .null, .null, .null, .int 0, .int 0, .int 0, .int 0])), (q5, .inr (6, [.ref a8, .int 0, .ref a17, .int 0, .ref a25, .ref a33, .ref a41, .ref a49, .ref a57, .int 0]))] := hD
  refine va_putF (D := g.1) (ci := 4) (v := .ref q5) (ty := t_First 3) (C := "MacroMill$First") (T := F_First) (N := 15) hx hb htt in_First t_First t_First_ok n_First hown hK hP hD hS 0 rfl rfl 3 (by decide) (htt _ k_49) (fun _ h9 => h9) rfl hin rfl (t_First_ok 3 (by decide)) rfl rfl (Nat.le_of_ble_eq_true rfl) d_First_init_12 (fun H locs hP hD hS => ?_)
  have hP : va_P g.1 classes [(h0, .inr (4, [.null, .null, .null, .ref q5, .null, .null, .int 0, .null, .null, .null, .null, .int 0, .int 0, .int 0, .int 0])), (q5, .inr (6, [.ref a8, .int 0, .ref a17, .int 0, .ref a25, .ref a33, .ref a41, .ref a49, .ref a57, .int 0]))] H := hP
  have hD : va_D A [(h0, .inr (4, [.null, .null, .null, .ref q5, .null, .null, .int 0, .null, .null, .null, .null, .int 0, .int 0, .int 0, .int 0])), (q5, .inr (6, [.ref a8, .int 0, .ref a17, .int 0, .ref a25, .ref a33, .ref a41, .ref a49, .ref a57, .int 0]))] := hD
  refine lv_aload_n hx hb d_First_init_15 rfl (lv_at hl 0 rfl) ?_
  refine va_new (D := g.1) (ci := 7) (fs := [.null, .int 0, .null, .null, .int 0, .null, .null, .null, .null, .int 0, .int 0]) (C := "MacroMill$Meanings") (T := F_Meanings) (N := 11) hx hb htt in_Meanings t_Meanings t_Meanings_ok hown (htt _ k_50) (htt _ k_51) (htt _ k_52) hK hP hD hS hA rfl z_Meanings (by decide +kernel) (by decide +kernel) d_First_init_16 (fun q16 H hP hD hS => ?_)
  refine W.widen (k := 9) (n := 24847) (by decide +kernel) (by decide +kernel) ?_
  have hP : va_P g.1 classes [(h0, .inr (4, [.null, .null, .null, .ref q5, .null, .null, .int 0, .null, .null, .null, .null, .int 0, .int 0, .int 0, .int 0])), (q5, .inr (6, [.ref a8, .int 0, .ref a17, .int 0, .ref a25, .ref a33, .ref a41, .ref a49, .ref a57, .int 0])), (q16, .inr (7, [.null, .int 0, .null, .null, .int 0, .null, .null, .null, .null, .int 0, .int 0]))] H := hP
  have hD : va_D A [(h0, .inr (4, [.null, .null, .null, .ref q5, .null, .null, .int 0, .null, .null, .null, .null, .int 0, .int 0, .int 0, .int 0])), (q5, .inr (6, [.ref a8, .int 0, .ref a17, .int 0, .ref a25, .ref a33, .ref a41, .ref a49, .ref a57, .int 0])), (q16, .inr (7, [.null, .int 0, .null, .null, .int 0, .null, .null, .null, .null, .int 0, .int 0]))] := hD
  refine lv_dup hx hb d_First_init_19 rfl ?_
  refine go_v (As := [.ref q16]) (g := g) (A := A) (wc := [(q16, .inr (7, [.null, .int 0, .null, .null, .int 0, .null, .null, .null, .null, .int 0, .int 0]))]) (wr := [(h0, .inr (4, [.null, .null, .null, .ref q5, .null, .null, .int 0, .null, .null, .null, .null, .int 0, .int 0, .int 0, .int 0])), (q5, .inr (6, [.ref a8, .int 0, .ref a17, .int 0, .ref a25, .ref a33, .ref a41, .ref a49, .ref a57, .int 0]))]) [2] [0, 1] rfl rfl rfl rfl (by decide) hP hK hD hS hA hN (fun hp => va_runIN (As := []) (rest := [.ref q16, .ref h0]) ⟨hx, hb, hml, hown, htt⟩ (c_Meanings_init l g _ q16) ⟨(cb_N (host := "MacroMill") htt k_53 k_52 hN nM_1 hd_Meanings_init ⟨(by decide +kernel), (by decide +kernel)⟩), rfl, htt _ k_54⟩ hp rfl rfl hl.1 rfl (lv_room (Nat.le_of_ble_eq_true rfl)) d_First_init_20 ⟨(by decide +kernel), (by decide +kernel)⟩) (fun w9 H locs hw9 hP hD hS => ?_)
  obtain ⟨a7, a16, a25_2, a34, a43, a52, a61, rfl⟩ := hw9
  refine W.widen (k := 16) (n := 59968) (by decide +kernel) (by decide +kernel) ?_
  have hP : va_P g.1 classes [(h0, .inr (4, [.null, .null, .null, .ref q5, .null, .null, .int 0, .null, .null, .null, .null, .int 0, .int 0, .int 0, .int 0])), (q5, .inr (6, [.ref a8, .int 0, .ref a17, .int 0, .ref a25, .ref a33, .ref a41, .ref a49, .ref a57, .int 0])), (q16, .inr (7, [.ref a7, .int 0, .ref a16, .ref a25_2, .int 0, .ref a34, .ref a43, .ref a52, .ref a61, .int 0, .int 0]))] H := hP
  have hD : va_D A [(h0, .inr (4, [.null, .null, .null, .ref q5, .null, .null, .int 0, .null, .null, .null, .null, .int 0, .int 0, .int 0, .int 0])), (q5, .inr (6, [.ref a8, .int 0, .ref a17, .int 0, .ref a25, .ref a33, .ref a41, .ref a49, .ref a57, .int 0])), (q16, .inr (7, [.ref a7, .int 0, .ref a16, .ref a25_2, .int 0, .ref a34, .ref a43, .ref a52, .ref a61, .int 0, .int 0]))] := hD
  show W _ _ _ _ _ _ _ _ _ _ _ _ _ _ _ (F0 _ 23 _ _)
  refine va_putF (D := g.1) (ci := 4) (v := .ref q16) (ty := t_First 4) (C := "MacroMill$First") (T := F_First) (N := 15) hx hb htt in_First t_First t_First_ok n_First hown hK hP hD hS 0 rfl rfl 4 (by decide) (htt _ k_55) (fun _ h9 => h9) rfl hin rfl (t_First_ok 4 (by decide)) rfl rfl (Nat.le_of_ble_eq_true rfl) d_First_init_23 (fun H locs hP hD hS => ?_)
  have hP : va_P g.1 classes [(h0, .inr (4, [.null, .null, .null, .ref q5, .ref q16, .null, .int 0, .null, .null, .null, .null, .int 0, .int 0, .int 0, .int 0])), (q5, .inr (6, [.ref a8, .int 0, .ref a17, .int 0, .ref a25, .ref a33, .ref a41, .ref a49, .ref a57, .int 0])), (q16, .inr (7, [.ref a7, .int 0, .ref a16, .ref a25_2, .int 0, .ref a34, .ref a43, .ref a52, .ref a61, .int 0, .int 0]))] H := hP
  have hD : va_D A [(h0, .inr (4, [.null, .null, .null, .ref q5, .ref q16, .null, .int 0, .null, .null, .null, .null, .int 0, .int 0, .int 0, .int 0])), (q5, .inr (6, [.ref a8, .int 0, .ref a17, .int 0, .ref a25, .ref a33, .ref a41, .ref a49, .ref a57, .int 0])), (q16, .inr (7, [.ref a7, .int 0, .ref a16, .ref a25_2, .int 0, .ref a34, .ref a43, .ref a52, .ref a61, .int 0, .int 0]))] := hD
  refine lv_aload_n hx hb d_First_init_26 rfl (lv_at hl 0 rfl) ?_
  refine lv_ldc (v := 32768) hx hb hown (htt _ k_56) d_First_init_27 ?_
  refine nea0 (g := g) (A := A) (atype := .byte) (ty := .byte) (a0 := (32768, .inl (fun _ => 0))) (N' := 32768) hx hb htt 0 rfl no_byte k_4 rfl hK hP hD hS hA (a0_byte 32768) (by decide +kernel) (by decide +kernel) (by decide +kernel) (by decide +kernel) (by decide +kernel) d_First_init_29 (fun a29 H hP hD hS => ?_)
  refine W.widen (k := 17) (n := 92736) (by decide +kernel) (by decide +kernel) ?_
  refine va_putF (D := g.1) (ci := 4) (v := .ref a29) (ty := t_First 5) (C := "MacroMill$First") (T := F_First) (N := 15) hx hb htt in_First t_First t_First_ok n_First hown hK hP hD hS 0 rfl rfl 5 (by decide) (htt _ k_57) (fun _ h9 => h9) rfl hin rfl (t_First_ok 5 (by decide)) rfl rfl (Nat.le_of_ble_eq_true rfl) d_First_init_31 (fun H locs hP hD hS => ?_)
  have hP : va_P g.1 classes [(h0, .inr (4, [.null, .null, .null, .ref q5, .ref q16, .ref a29, .int 0, .null, .null, .null, .null, .int 0, .int 0, .int 0, .int 0])), (q5, .inr (6, [.ref a8, .int 0, .ref a17, .int 0, .ref a25, .ref a33, .ref a41, .ref a49, .ref a57, .int 0])), (q16, .inr (7, [.ref a7, .int 0, .ref a16, .ref a25_2, .int 0, .ref a34, .ref a43, .ref a52, .ref a61, .int 0, .int 0]))] H := hP
  have hD : va_D A [(h0, .inr (4, [.null, .null, .null, .ref q5, .ref q16, .ref a29, .int 0, .null, .null, .null, .null, .int 0, .int 0, .int 0, .int 0])), (q5, .inr (6, [.ref a8, .int 0, .ref a17, .int 0, .ref a25, .ref a33, .ref a41, .ref a49, .ref a57, .int 0])), (q16, .inr (7, [.ref a7, .int 0, .ref a16, .ref a25_2, .int 0, .ref a34, .ref a43, .ref a52, .ref a61, .int 0, .int 0]))] := hD
  refine lv_aload_n hx hb d_First_init_34 rfl (lv_at hl 0 rfl) ?_
  refine lv_ldc (v := 32768) hx hb hown (htt _ k_56) d_First_init_35 ?_
  refine nea0 (g := g) (A := A) (atype := .byte) (ty := .byte) (a0 := (32768, .inl (fun _ => 0))) (N' := 32768) hx hb htt 0 rfl no_byte k_4 rfl hK hP hD hS hA (a0_byte 32768) (by decide +kernel) (by decide +kernel) (by decide +kernel) (by decide +kernel) (by decide +kernel) d_First_init_37 (fun a37 H hP hD hS => ?_)
  refine W.widen (k := 18) (n := 125504) (by decide +kernel) (by decide +kernel) ?_
  refine va_putF (D := g.1) (ci := 4) (v := .ref a37) (ty := t_First 7) (C := "MacroMill$First") (T := F_First) (N := 15) hx hb htt in_First t_First t_First_ok n_First hown hK hP hD hS 0 rfl rfl 7 (by decide) (htt _ k_58) (fun _ h9 => h9) rfl hin rfl (t_First_ok 7 (by decide)) rfl rfl (Nat.le_of_ble_eq_true rfl) d_First_init_39 (fun H locs hP hD hS => ?_)
  have hP : va_P g.1 classes [(h0, .inr (4, [.null, .null, .null, .ref q5, .ref q16, .ref a29, .int 0, .ref a37, .null, .null, .null, .int 0, .int 0, .int 0, .int 0])), (q5, .inr (6, [.ref a8, .int 0, .ref a17, .int 0, .ref a25, .ref a33, .ref a41, .ref a49, .ref a57, .int 0])), (q16, .inr (7, [.ref a7, .int 0, .ref a16, .ref a25_2, .int 0, .ref a34, .ref a43, .ref a52, .ref a61, .int 0, .int 0]))] H := hP
  have hD : va_D A [(h0, .inr (4, [.null, .null, .null, .ref q5, .ref q16, .ref a29, .int 0, .ref a37, .null, .null, .null, .int 0, .int 0, .int 0, .int 0])), (q5, .inr (6, [.ref a8, .int 0, .ref a17, .int 0, .ref a25, .ref a33, .ref a41, .ref a49, .ref a57, .int 0])), (q16, .inr (7, [.ref a7, .int 0, .ref a16, .ref a25_2, .int 0, .ref a34, .ref a43, .ref a52, .ref a61, .int 0, .int 0]))] := hD
  refine lv_aload_n hx hb d_First_init_42 rfl (lv_at hl 0 rfl) ?_
  refine lv_ldc (v := 32768) hx hb hown (htt _ k_56) d_First_init_43 ?_
  refine nea0 (g := g) (A := A) (atype := .int) (ty := .int) (a0 := (32768, .inl (fun _ => 0))) (N' := 32768) hx hb htt 1 rfl no_int k_7 rfl hK hP hD hS hA (a0_int 32768) (by decide +kernel) (by decide +kernel) (by decide +kernel) (by decide +kernel) (by decide +kernel) d_First_init_45 (fun a45 H hP hD hS => ?_)
  refine W.widen (k := 19) (n := 158272) (by decide +kernel) (by decide +kernel) ?_
  show W _ _ _ _ _ _ _ _ _ _ _ _ _ _ _ (F0 _ 47 _ _)
  refine va_putF (D := g.1) (ci := 4) (v := .ref a45) (ty := t_First 8) (C := "MacroMill$First") (T := F_First) (N := 15) hx hb htt in_First t_First t_First_ok n_First hown hK hP hD hS 0 rfl rfl 8 (by decide) (htt _ k_59) (fun _ h9 => h9) rfl hin rfl (t_First_ok 8 (by decide)) rfl rfl (Nat.le_of_ble_eq_true rfl) d_First_init_47 (fun H locs hP hD hS => ?_)
  have hP : va_P g.1 classes [(h0, .inr (4, [.null, .null, .null, .ref q5, .ref q16, .ref a29, .int 0, .ref a37, .ref a45, .null, .null, .int 0, .int 0, .int 0, .int 0])), (q5, .inr (6, [.ref a8, .int 0, .ref a17, .int 0, .ref a25, .ref a33, .ref a41, .ref a49, .ref a57, .int 0])), (q16, .inr (7, [.ref a7, .int 0, .ref a16, .ref a25_2, .int 0, .ref a34, .ref a43, .ref a52, .ref a61, .int 0, .int 0]))] H := hP
  have hD : va_D A [(h0, .inr (4, [.null, .null, .null, .ref q5, .ref q16, .ref a29, .int 0, .ref a37, .ref a45, .null, .null, .int 0, .int 0, .int 0, .int 0])), (q5, .inr (6, [.ref a8, .int 0, .ref a17, .int 0, .ref a25, .ref a33, .ref a41, .ref a49, .ref a57, .int 0])), (q16, .inr (7, [.ref a7, .int 0, .ref a16, .ref a25_2, .int 0, .ref a34, .ref a43, .ref a52, .ref a61, .int 0, .int 0]))] := hD
  refine lv_aload_n hx hb d_First_init_50 rfl (lv_at hl 0 rfl) ?_
  refine lv_bipush (v := 10) hx hb d_First_init_51 (by decide) ?_
  refine nea0 (g := g) (A := A) (atype := .int) (ty := .int) (a0 := (10, .inl (fun _ => 0))) (N' := 10) hx hb htt 1 rfl no_int k_7 rfl hK hP hD hS hA (a0_int 10) (by decide +kernel) (by decide +kernel) (by decide +kernel) (by decide +kernel) (by decide +kernel) d_First_init_53 (fun a53 H hP hD hS => ?_)
  refine W.widen (k := 20) (n := 158282) (by decide +kernel) (by decide +kernel) ?_
  refine va_putF (D := g.1) (ci := 4) (v := .ref a53) (ty := t_First 9) (C := "MacroMill$First") (T := F_First) (N := 15) hx hb htt in_First t_First t_First_ok n_First hown hK hP hD hS 0 rfl rfl 9 (by decide) (htt _ k_60) (fun _ h9 => h9) rfl hin rfl (t_First_ok 9 (by decide)) rfl rfl (Nat.le_of_ble_eq_true rfl) d_First_init_55 (fun H locs hP hD hS => ?_)
  have hP : va_P g.1 classes [(h0, .inr (4, [.null, .null, .null, .ref q5, .ref q16, .ref a29, .int 0, .ref a37, .ref a45, .ref a53, .null, .int 0, .int 0, .int 0, .int 0])), (q5, .inr (6, [.ref a8, .int 0, .ref a17, .int 0, .ref a25, .ref a33, .ref a41, .ref a49, .ref a57, .int 0])), (q16, .inr (7, [.ref a7, .int 0, .ref a16, .ref a25_2, .int 0, .ref a34, .ref a43, .ref a52, .ref a61, .int 0, .int 0]))] H := hP
  have hD : va_D A [(h0, .inr (4, [.null, .null, .null, .ref q5, .ref q16, .ref a29, .int 0, .ref a37, .ref a45, .ref a53, .null, .int 0, .int 0, .int 0, .int 0])), (q5, .inr (6, [.ref a8, .int 0, .ref a17, .int 0, .ref a25, .ref a33, .ref a41, .ref a49, .ref a57, .int 0])), (q16, .inr (7, [.ref a7, .int 0, .ref a16, .ref a25_2, .int 0, .ref a34, .ref a43, .ref a52, .ref a61, .int 0, .int 0]))] := hD
  refine lv_aload_n hx hb d_First_init_58 rfl (lv_at hl 0 rfl) ?_
  refine lv_bipush (v := 10) hx hb d_First_init_59 (by decide) ?_
  refine nea0 (g := g) (A := A) (atype := .int) (ty := .int) (a0 := (10, .inl (fun _ => 0))) (N' := 10) hx hb htt 1 rfl no_int k_7 rfl hK hP hD hS hA (a0_int 10) (by decide +kernel) (by decide +kernel) (by decide +kernel) (by decide +kernel) (by decide +kernel) d_First_init_61 (fun a61_2 H hP hD hS => ?_)
  refine W.widen (k := 21) (n := 158292) (by decide +kernel) (by decide +kernel) ?_
  refine va_putF (D := g.1) (ci := 4) (v := .ref a61_2) (ty := t_First 10) (C := "MacroMill$First") (T := F_First) (N := 15) hx hb htt in_First t_First t_First_ok n_First hown hK hP hD hS 0 rfl rfl 10 (by decide) (htt _ k_61) (fun _ h9 => h9) rfl hin rfl (t_First_ok 10 (by decide)) rfl rfl (Nat.le_of_ble_eq_true rfl) d_First_init_63 (fun H locs hP hD hS => ?_)
  have hP : va_P g.1 classes [(h0, .inr (4, [.null, .null, .null, .ref q5, .ref q16, .ref a29, .int 0, .ref a37, .ref a45, .ref a53, .ref a61_2, .int 0, .int 0, .int 0, .int 0])), (q5, .inr (6, [.ref a8, .int 0, .ref a17, .int 0, .ref a25, .ref a33, .ref a41, .ref a49, .ref a57, .int 0])), (q16, .inr (7, [.ref a7, .int 0, .ref a16, .ref a25_2, .int 0, .ref a34, .ref a43, .ref a52, .ref a61, .int 0, .int 0]))] H := hP
  have hD : va_D A [(h0, .inr (4, [.null, .null, .null, .ref q5, .ref q16, .ref a29, .int 0, .ref a37, .ref a45, .ref a53, .ref a61_2, .int 0, .int 0, .int 0, .int 0])), (q5, .inr (6, [.ref a8, .int 0, .ref a17, .int 0, .ref a25, .ref a33, .ref a41, .ref a49, .ref a57, .int 0])), (q16, .inr (7, [.ref a7, .int 0, .ref a16, .ref a25_2, .int 0, .ref a34, .ref a43, .ref a52, .ref a61, .int 0, .int 0]))] := hD
  refine lv_aload_n hx hb d_First_init_66 rfl (lv_at hl 0 rfl) ?_
  refine lv_aload_n hx hb d_First_init_67 rfl (lv_at hl 1 rfl) ?_
  refine va_putF (D := g.1) (ci := 4) (v := .ref o1) (ty := t_First 0) (C := "MacroMill$First") (T := F_First) (N := 15) hx hb htt in_First t_First t_First_ok n_First hown hK hP hD hS 0 rfl rfl 0 (by decide) (htt _ k_62) (fun _ h9 => h9) rfl hin rfl (t_First_ok 0 (by decide)) rfl rfl (Nat.le_of_ble_eq_true rfl) d_First_init_68 (fun H locs hP hD hS => ?_)
  have hP : va_P g.1 classes [(h0, .inr (4, [.ref o1, .null, .null, .ref q5, .ref q16, .ref a29, .int 0, .ref a37, .ref a45, .ref a53, .ref a61_2, .int 0, .int 0, .int 0, .int 0])), (q5, .inr (6, [.ref a8, .int 0, .ref a17, .int 0, .ref a25, .ref a33, .ref a41, .ref a49, .ref a57, .int 0])), (q16, .inr (7, [.ref a7, .int 0, .ref a16, .ref a25_2, .int 0, .ref a34, .ref a43, .ref a52, .ref a61, .int 0, .int 0]))] H := hP
  have hD : va_D A [(h0, .inr (4, [.ref o1, .null, .null, .ref q5, .ref q16, .ref a29, .int 0, .ref a37, .ref a45, .ref a53, .ref a61_2, .int 0, .int 0, .int 0, .int 0])), (q5, .inr (6, [.ref a8, .int 0, .ref a17, .int 0, .ref a25, .ref a33, .ref a41, .ref a49, .ref a57, .int 0])), (q16, .inr (7, [.ref a7, .int 0, .ref a16, .ref a25_2, .int 0, .ref a34, .ref a43, .ref a52, .ref a61, .int 0, .int 0]))] := hD
  show W _ _ _ _ _ _ _ _ _ _ _ _ _ _ _ (F0 _ 71 _ _)
  refine lv_aload_n hx hb d_First_init_71 rfl (lv_at hl 0 rfl) ?_
  refine lv_aload_n hx hb d_First_init_72 rfl (lv_at hl 2 rfl) ?_
  refine va_putF (D := g.1) (ci := 4) (v := .ref o2) (ty := t_First 1) (C := "MacroMill$First") (T := F_First) (N := 15) hx hb htt in_First t_First t_First_ok n_First hown hK hP hD hS 0 rfl rfl 1 (by decide) (htt _ k_63) (fun _ h9 => h9) rfl hin rfl (t_First_ok 1 (by decide)) rfl rfl (Nat.le_of_ble_eq_true rfl) d_First_init_73 (fun H locs hP hD hS => ?_)
  have hP : va_P g.1 classes [(h0, .inr (4, [.ref o1, .ref o2, .null, .ref q5, .ref q16, .ref a29, .int 0, .ref a37, .ref a45, .ref a53, .ref a61_2, .int 0, .int 0, .int 0, .int 0])), (q5, .inr (6, [.ref a8, .int 0, .ref a17, .int 0, .ref a25, .ref a33, .ref a41, .ref a49, .ref a57, .int 0])), (q16, .inr (7, [.ref a7, .int 0, .ref a16, .ref a25_2, .int 0, .ref a34, .ref a43, .ref a52, .ref a61, .int 0, .int 0]))] H := hP
  have hD : va_D A [(h0, .inr (4, [.ref o1, .ref o2, .null, .ref q5, .ref q16, .ref a29, .int 0, .ref a37, .ref a45, .ref a53, .ref a61_2, .int 0, .int 0, .int 0, .int 0])), (q5, .inr (6, [.ref a8, .int 0, .ref a17, .int 0, .ref a25, .ref a33, .ref a41, .ref a49, .ref a57, .int 0])), (q16, .inr (7, [.ref a7, .int 0, .ref a16, .ref a25_2, .int 0, .ref a34, .ref a43, .ref a52, .ref a61, .int 0, .int 0]))] := hD
  refine lv_aload_n hx hb d_First_init_76 rfl (lv_at hl 0 rfl) ?_
  refine va_new (D := g.1) (ci := 5) (fs := [.null, .null, .int 0, .int 0, .int 0, .int 0, .null, .int 0, .int 0, .int 0, .int 0, .int 0]) (C := "MacroMill$Input") (T := F_Input) (N := 12) hx hb htt in_Input t_Input t_Input_ok hown (htt _ k_64) (htt _ k_65) (htt _ k_66) hK hP hD hS hA rfl z_Input (by decide +kernel) (by decide +kernel) d_First_init_77 (fun q77 H hP hD hS => ?_)
  refine W.widen (k := 22) (n := 158304) (by decide +kernel) (by decide +kernel) ?_
  have hP : va_P g.1 classes [(h0, .inr (4, [.ref o1, .ref o2, .null, .ref q5, .ref q16, .ref a29, .int 0, .ref a37, .ref a45, .ref a53, .ref a61_2, .int 0, .int 0, .int 0, .int 0])), (q5, .inr (6, [.ref a8, .int 0, .ref a17, .int 0, .ref a25, .ref a33, .ref a41, .ref a49, .ref a57, .int 0])), (q16, .inr (7, [.ref a7, .int 0, .ref a16, .ref a25_2, .int 0, .ref a34, .ref a43, .ref a52, .ref a61, .int 0, .int 0])), (q77, .inr (5, [.null, .null, .int 0, .int 0, .int 0, .int 0, .null, .int 0, .int 0, .int 0, .int 0, .int 0]))] H := hP
  have hD : va_D A [(h0, .inr (4, [.ref o1, .ref o2, .null, .ref q5, .ref q16, .ref a29, .int 0, .ref a37, .ref a45, .ref a53, .ref a61_2, .int 0, .int 0, .int 0, .int 0])), (q5, .inr (6, [.ref a8, .int 0, .ref a17, .int 0, .ref a25, .ref a33, .ref a41, .ref a49, .ref a57, .int 0])), (q16, .inr (7, [.ref a7, .int 0, .ref a16, .ref a25_2, .int 0, .ref a34, .ref a43, .ref a52, .ref a61, .int 0, .int 0])), (q77, .inr (5, [.null, .null, .int 0, .int 0, .int 0, .int 0, .null, .int 0, .int 0, .int 0, .int 0, .int 0]))] := hD
  refine lv_dup hx hb d_First_init_80 rfl ?_
  refine lv_aload_n hx hb d_First_init_81 rfl (lv_at hl 1 rfl) ?_
  refine go_v (As := [.ref q77, .ref o1]) (g := g) (A := A) (wc := [(q77, .inr (5, [.null, .null, .int 0, .int 0, .int 0, .int 0, .null, .int 0, .int 0, .int 0, .int 0, .int 0]))]) (wr := [(h0, .inr (4, [.ref o1, .ref o2, .null, .ref q5, .ref q16, .ref a29, .int 0, .ref a37, .ref a45, .ref a53, .ref a61_2, .int 0, .int 0, .int 0, .int 0])), (q5, .inr (6, [.ref a8, .int 0, .ref a17, .int 0, .ref a25, .ref a33, .ref a41, .ref a49, .ref a57, .int 0])), (q16, .inr (7, [.ref a7, .int 0, .ref a16, .ref a25_2, .int 0, .ref a34, .ref a43, .ref a52, .ref a61, .int 0, .int 0]))]) [3] [0, 1, 2] rfl rfl rfl rfl (by decide) hP hK hD hS hA hN (fun hp => va_runI (As := [.ref o1]) (rest := [.ref q77, .ref h0]) ⟨hx, hb, hml, hown, htt⟩ (c_Input_init l g _ q77 o1) ⟨(cb_L htt k_67 k_66 k_68 hd_Input_init ⟨(by decide +kernel), (by decide +kernel)⟩), rfl, htt _ k_69⟩ hp rfl rfl hl.1 rfl (lv_room (Nat.le_of_ble_eq_true rfl)) d_First_init_82 ⟨(by decide +kernel), (by decide +kernel)⟩) (fun w9 H locs hw9 hP hD hS => ?_)
  obtain ⟨a7_2, a15, rfl⟩ := hw9
  refine W.widen (k := 24) (n := 191080) (by decide +kernel) (by decide +kernel) ?_
  have hP : va_P g.1 classes [(h0, .inr (4, [.ref o1, .ref o2, .null, .ref q5, .ref q16, .ref a29, .int 0, .ref a37, .ref a45, .ref a53, .ref a61_2, .int 0, .int 0, .int 0, .int 0])), (q5, .inr (6, [.ref a8, .int 0, .ref a17, .int 0, .ref a25, .ref a33, .ref a41, .ref a49, .ref a57, .int 0])), (q16, .inr (7, [.ref a7, .int 0, .ref a16, .ref a25_2, .int 0, .ref a34, .ref a43, .ref a52, .ref a61, .int 0, .int 0])), (q77, .inr (5, [.ref a7_2, .ref o1, .int 0, .int 0, .int 0, .int 0, .ref a15, .int 0, .int 0, .int 0, .int 0, .int 0]))] H := hP
  have hD : va_D A [(h0, .inr (4, [.ref o1, .ref o2, .null, .ref q5, .ref q16, .ref a29, .int 0, .ref a37, .ref a45, .ref a53, .ref a61_2, .int 0, .int 0, .int 0, .int 0])), (q5, .inr (6, [.ref a8, .int 0, .ref a17, .int 0, .ref a25, .ref a33, .ref a41, .ref a49, .ref a57, .int 0])), (q16, .inr (7, [.ref a7, .int 0, .ref a16, .ref a25_2, .int 0, .ref a34, .ref a43, .ref a52, .ref a61, .int 0, .int 0])), (q77, .inr (5, [.ref a7_2, .ref o1, .int 0, .int 0, .int 0, .int 0, .ref a15, .int 0, .int 0, .int 0, .int 0, .int 0]))] := hD
  refine va_putF (D := g.1) (ci := 4) (v := .ref q77) (ty := t_First 2) (C := "MacroMill$First") (T := F_First) (N := 15) hx hb htt in_First t_First t_First_ok n_First hown hK hP hD hS 0 rfl rfl 2 (by decide) (htt _ k_70) (fun _ h9 => h9) rfl hin rfl (t_First_ok 2 (by decide)) rfl rfl (Nat.le_of_ble_eq_true rfl) d_First_init_85 (fun H locs hP hD hS => ?_)
  have hP : va_P g.1 classes [(h0, .inr (4, [.ref o1, .ref o2, .ref q77, .ref q5, .ref q16, .ref a29, .int 0, .ref a37, .ref a45, .ref a53, .ref a61_2, .int 0, .int 0, .int 0, .int 0])), (q5, .inr (6, [.ref a8, .int 0, .ref a17, .int 0, .ref a25, .ref a33, .ref a41, .ref a49, .ref a57, .int 0])), (q16, .inr (7, [.ref a7, .int 0, .ref a16, .ref a25_2, .int 0, .ref a34, .ref a43, .ref a52, .ref a61, .int 0, .int 0])), (q77, .inr (5, [.ref a7_2, .ref o1, .int 0, .int 0, .int 0, .int 0, .ref a15, .int 0, .int 0, .int 0, .int 0, .int 0]))] H := hP
  have hD : va_D A [(h0, .inr (4, [.ref o1, .ref o2, .ref q77, .ref q5, .ref q16, .ref a29, .int 0, .ref a37, .ref a45, .ref a53, .ref a61_2, .int 0, .int 0, .int 0, .int 0])), (q5, .inr (6, [.ref a8, .int 0, .ref a17, .int 0, .ref a25, .ref a33, .ref a41, .ref a49, .ref a57, .int 0])), (q16, .inr (7, [.ref a7, .int 0, .ref a16, .ref a25_2, .int 0, .ref a34, .ref a43, .ref a52, .ref a61, .int 0, .int 0])), (q77, .inr (5, [.ref a7_2, .ref o1, .int 0, .int 0, .int 0, .int 0, .ref a15, .int 0, .int 0, .int 0, .int 0, .int 0]))] := hD
  have hP := va_PsubM (ws' := [(h0, .inr (4, [.ref o1, .ref o2, .ref q77, .ref q5, .ref q16, .ref a29, .int 0, .ref a37, .ref a45, .ref a53, .ref a61_2, .int 0, .int 0, .int 0, .int 0]))]) hP [0] rfl
  have hD := hD.sub (ws' := [(h0, .inr (4, [.ref o1, .ref o2, .ref q77, .ref q5, .ref q16, .ref a29, .int 0, .ref a37, .ref a45, .ref a53, .ref a61_2, .int 0, .int 0, .int 0, .int 0]))]) [0] rfl rfl
  exact fin_v (g := g) (ws := [(h0, .inr (4, [.ref o1, .ref o2, .ref q77, .ref q5, .ref q16, .ref a29, .int 0, .ref a37, .ref a45, .ref a53, .ref a61_2, .int 0, .int 0, .int 0, .int 0]))]) hx hb hr hlocks (by decide +kernel) (by decide +kernel) hP hD hS ⟨q5, q16, a29, a37, a45, a53, a61_2, q77, rfl⟩ d_First_init_88
abbrev rm_Tokens_init : Room := { frames := 1, cells := 5, slots := 553426, locals := 12 }
set_option maxHeartbeats 4000000 in
set_option maxRecDepth 100000 in
theorem c_Tokens_init (l : Launch) (g : gG) (sz : Nat) (h0 : Nat) : Cv l y_Tokens_init b_Tokens_init 1 rm_Tokens_init g [.ref h0] [(h0, .inr (9, [.null, .null, .int 0, .int 0, .int 0, .null, .null, .null, .int 0, .int 0]))] sz (fun w => ∃ (ab : Nat) (a15 : Nat) (a23 : Nat) (a31 : Nat) (a39 : Nat), w = [(h0, .inr (9, [.ref ab, .ref a15, .int 0, .int 0, .int 0, .ref a23, .ref a31, .ref a39, .int 0, .int 0]))]) := by
  refine startV (by decide) (Nat.le_of_ble_eq_true rfl) ?_
  intro p e s m below meth c A ls hx hb hr hml hlocks hmn hown htt hN hA hP hK hD hS hl
  have hin : meth.name = "<init>" := hmn
  have hown : s.vm.findClass "MacroMill$Tokens" = some m.cls := hown
  have hl : lv_has ls 1 [(0, .ref h0)] := hl
  refine lv_aload_n hx hb d_Tokens_init_0 rfl (lv_at hl 0 rfl) ?_
  refine W.objInit hx hb hown (htt _ k_71) (htt _ k_1) (htt _ k_2) rfl (by rw [hml]; exact hl.1) rfl d_Tokens_init_1 (Nat.le_of_ble_eq_true rfl) (Nat.le_of_ble_eq_true rfl) ?_
  refine W.eq (g2 := F0 m 4 ls []) rfl ?_
  refine lv_aload_n hx hb d_Tokens_init_4 rfl (lv_at hl 0 rfl) ?_
  refine lv_ldc (v := 125538) hx hb hown (htt _ k_72) d_Tokens_init_5 ?_
  refine nea (g := g) (A := A) (atype := .byte) (ty := .byte) (a0 := (125538, .inl (fun _ => 0))) (N' := 125538) hx hb htt 0 rfl no_byte k_4 rfl hK hP hD hS hA (a0_byte 125538) (by decide +kernel) (by decide +kernel) (by decide +kernel) (by decide +kernel) (by decide +kernel) d_Tokens_init_7 (fun ab H hP hD hS => ?_)
  refine W.widen (k := 1) (n := 125538) (by decide +kernel) (by decide +kernel) ?_
  have hP : va_P g.1 classes [(h0, .inr (9, [.null, .null, .int 0, .int 0, .int 0, .null, .null, .null, .int 0, .int 0])), (ab, .inl (g.2 0, 125538, .inl (fun _ => 0)))] H := hP
  have hD : va_D A [(h0, .inr (9, [.null, .null, .int 0, .int 0, .int 0, .null, .null, .null, .int 0, .int 0])), (ab, .inl (g.2 0, 125538, .inl (fun _ => 0)))] := hD
  refine va_putF (D := g.1) (ci := 9) (v := .ref ab) (ty := t_Tokens 0) (C := "MacroMill$Tokens") (T := F_Tokens) (N := 10) hx hb htt in_Tokens t_Tokens t_Tokens_ok n_Tokens hown hK hP hD hS 0 rfl rfl 0 (by decide) (htt _ k_73) (fun _ h9 => h9) rfl hin rfl (t_Tokens_ok 0 (by decide)) rfl rfl (Nat.le_of_ble_eq_true rfl) d_Tokens_init_9 (fun H locs hP hD hS => ?_)
  have hP : va_P g.1 classes [(h0, .inr (9, [.ref ab, .null, .int 0, .int 0, .int 0, .null, .null, .null, .int 0, .int 0])), (ab, .inl (g.2 0, 125538, .inl (fun _ => 0)))] H := hP
  have hD : va_D A [(h0, .inr (9, [.ref ab, .null, .int 0, .int 0, .int 0, .null, .null, .null, .int 0, .int 0])), (ab, .inl (g.2 0, 125538, .inl (fun _ => 0)))] := hD
  refine lv_aload_n hx hb d_Tokens_init_12 rfl (lv_at hl 0 rfl) ?_
  refine lv_ldc (v := 65536) hx hb hown (htt _ k_74) d_Tokens_init_13 ?_
  refine nea0 (g := g) (A := A) (atype := .char) (ty := .char) (a0 := (65536, .inl (fun _ => 0))) (N' := 65536) hx hb htt 4 rfl no_char k_75 rfl hK hP hD hS hA (a0_char 65536) (by decide +kernel) (by decide +kernel) (by decide +kernel) (by decide +kernel) (by decide +kernel) d_Tokens_init_15 (fun a15 H hP hD hS => ?_)
  refine W.widen (k := 2) (n := 191074) (by decide +kernel) (by decide +kernel) ?_
  refine va_putF (D := g.1) (ci := 9) (v := .ref a15) (ty := t_Tokens 1) (C := "MacroMill$Tokens") (T := F_Tokens) (N := 10) hx hb htt in_Tokens t_Tokens t_Tokens_ok n_Tokens hown hK hP hD hS 0 rfl rfl 1 (by decide) (htt _ k_76) (fun _ h9 => h9) rfl hin rfl (t_Tokens_ok 1 (by decide)) rfl rfl (Nat.le_of_ble_eq_true rfl) d_Tokens_init_17 (fun H locs hP hD hS => ?_)
  have hP : va_P g.1 classes [(h0, .inr (9, [.ref ab, .ref a15, .int 0, .int 0, .int 0, .null, .null, .null, .int 0, .int 0])), (ab, .inl (g.2 0, 125538, .inl (fun _ => 0)))] H := hP
  have hD : va_D A [(h0, .inr (9, [.ref ab, .ref a15, .int 0, .int 0, .int 0, .null, .null, .null, .int 0, .int 0])), (ab, .inl (g.2 0, 125538, .inl (fun _ => 0)))] := hD
  refine lv_aload_n hx hb d_Tokens_init_20 rfl (lv_at hl 0 rfl) ?_
  show W _ _ _ _ _ _ _ _ _ _ _ _ _ _ _ (F0 _ 21 _ _)
  refine lv_ldc (v := 120784) hx hb hown (htt _ k_77) d_Tokens_init_21 ?_
  refine nea0 (g := g) (A := A) (atype := .long) (ty := .long) (a0 := (120784, .inr (.inl (fun _ => 0)))) (N' := 120784) hx hb htt 2 rfl no_long k_14 rfl hK hP hD hS hA (a0_long 120784) (by decide +kernel) (by decide +kernel) (by decide +kernel) (by decide +kernel) (by decide +kernel) d_Tokens_init_23 (fun a23 H hP hD hS => ?_)
  refine W.widen (k := 3) (n := 311858) (by decide +kernel) (by decide +kernel) ?_
  refine va_putF (D := g.1) (ci := 9) (v := .ref a23) (ty := t_Tokens 5) (C := "MacroMill$Tokens") (T := F_Tokens) (N := 10) hx hb htt in_Tokens t_Tokens t_Tokens_ok n_Tokens hown hK hP hD hS 0 rfl rfl 5 (by decide) (htt _ k_78) (fun _ h9 => h9) rfl hin rfl (t_Tokens_ok 5 (by decide)) rfl rfl (Nat.le_of_ble_eq_true rfl) d_Tokens_init_25 (fun H locs hP hD hS => ?_)
  have hP : va_P g.1 classes [(h0, .inr (9, [.ref ab, .ref a15, .int 0, .int 0, .int 0, .ref a23, .null, .null, .int 0, .int 0])), (ab, .inl (g.2 0, 125538, .inl (fun _ => 0)))] H := hP
  have hD : va_D A [(h0, .inr (9, [.ref ab, .ref a15, .int 0, .int 0, .int 0, .ref a23, .null, .null, .int 0, .int 0])), (ab, .inl (g.2 0, 125538, .inl (fun _ => 0)))] := hD
  refine lv_aload_n hx hb d_Tokens_init_28 rfl (lv_at hl 0 rfl) ?_
  refine lv_ldc (v := 120784) hx hb hown (htt _ k_77) d_Tokens_init_29 ?_
  refine nea0 (g := g) (A := A) (atype := .int) (ty := .int) (a0 := (120784, .inl (fun _ => 0))) (N' := 120784) hx hb htt 1 rfl no_int k_7 rfl hK hP hD hS hA (a0_int 120784) (by decide +kernel) (by decide +kernel) (by decide +kernel) (by decide +kernel) (by decide +kernel) d_Tokens_init_31 (fun a31 H hP hD hS => ?_)
  refine W.widen (k := 4) (n := 432642) (by decide +kernel) (by decide +kernel) ?_
  refine va_putF (D := g.1) (ci := 9) (v := .ref a31) (ty := t_Tokens 6) (C := "MacroMill$Tokens") (T := F_Tokens) (N := 10) hx hb htt in_Tokens t_Tokens t_Tokens_ok n_Tokens hown hK hP hD hS 0 rfl rfl 6 (by decide) (htt _ k_79) (fun _ h9 => h9) rfl hin rfl (t_Tokens_ok 6 (by decide)) rfl rfl (Nat.le_of_ble_eq_true rfl) d_Tokens_init_33 (fun H locs hP hD hS => ?_)
  have hP : va_P g.1 classes [(h0, .inr (9, [.ref ab, .ref a15, .int 0, .int 0, .int 0, .ref a23, .ref a31, .null, .int 0, .int 0])), (ab, .inl (g.2 0, 125538, .inl (fun _ => 0)))] H := hP
  have hD : va_D A [(h0, .inr (9, [.ref ab, .ref a15, .int 0, .int 0, .int 0, .ref a23, .ref a31, .null, .int 0, .int 0])), (ab, .inl (g.2 0, 125538, .inl (fun _ => 0)))] := hD
  refine lv_aload_n hx hb d_Tokens_init_36 rfl (lv_at hl 0 rfl) ?_
  refine lv_ldc (v := 120784) hx hb hown (htt _ k_77) d_Tokens_init_37 ?_
  refine nea0 (g := g) (A := A) (atype := .int) (ty := .int) (a0 := (120784, .inl (fun _ => 0))) (N' := 120784) hx hb htt 1 rfl no_int k_7 rfl hK hP hD hS hA (a0_int 120784) (by decide +kernel) (by decide +kernel) (by decide +kernel) (by decide +kernel) (by decide +kernel) d_Tokens_init_39 (fun a39 H hP hD hS => ?_)
  refine W.widen (k := 5) (n := 553426) (by decide +kernel) (by decide +kernel) ?_
  refine va_putF (D := g.1) (ci := 9) (v := .ref a39) (ty := t_Tokens 7) (C := "MacroMill$Tokens") (T := F_Tokens) (N := 10) hx hb htt in_Tokens t_Tokens t_Tokens_ok n_Tokens hown hK hP hD hS 0 rfl rfl 7 (by decide) (htt _ k_80) (fun _ h9 => h9) rfl hin rfl (t_Tokens_ok 7 (by decide)) rfl rfl (Nat.le_of_ble_eq_true rfl) d_Tokens_init_41 (fun H locs hP hD hS => ?_)
  have hP : va_P g.1 classes [(h0, .inr (9, [.ref ab, .ref a15, .int 0, .int 0, .int 0, .ref a23, .ref a31, .ref a39, .int 0, .int 0])), (ab, .inl (g.2 0, 125538, .inl (fun _ => 0)))] H := hP
  have hD : va_D A [(h0, .inr (9, [.ref ab, .ref a15, .int 0, .int 0, .int 0, .ref a23, .ref a31, .ref a39, .int 0, .int 0])), (ab, .inl (g.2 0, 125538, .inl (fun _ => 0)))] := hD
  refine lv_aload_n hx hb d_Tokens_init_44 rfl (lv_at hl 0 rfl) ?_
  show W _ _ _ _ _ _ _ _ _ _ _ _ _ _ _ (F0 _ 45 _ _)
  refine va_get (D := g.1) (ci := 9) (v := .ref ab) (C := "MacroMill$Tokens") (T := F_Tokens) (N := 10) hx hb htt in_Tokens hown hK hP 0 rfl rfl 0 (by decide) (htt _ k_73) (fun _ h9 => h9) rfl d_Tokens_init_45 ?_
  refine lv_ldc (v := 60000) hx hb hown (htt _ k_81) d_Tokens_init_48 ?_
  refine lv_bipush (v := 48) hx hb d_Tokens_init_50 (by decide) ?_
  refine va_bast (i := 60000) (x := 48) hx hb hK hP hD hS 1 0 rfl rfl (by unfold vp_in; decide) d_Tokens_init_52 (fun H locs hP hD hS => ?_)
  have hP : va_P g.1 classes [(h0, .inr (9, [.ref ab, .ref a15, .int 0, .int 0, .int 0, .ref a23, .ref a31, .ref a39, .int 0, .int 0])), (ab, .inl (g.2 0, 125538, .inl (upd (fun _ => 0) ((60000 : Int32).toNatClampNeg) (vp_nar .byte 48))))] H := hP
  have hD : va_D A [(h0, .inr (9, [.ref ab, .ref a15, .int 0, .int 0, .int 0, .ref a23, .ref a31, .ref a39, .int 0, .int 0])), (ab, .inl (g.2 0, 125538, .inl (upd (fun _ => 0) ((60000 : Int32).toNatClampNeg) (vp_nar .byte 48))))] := hD
  refine lv_aload_n hx hb d_Tokens_init_53 rfl (lv_at hl 0 rfl) ?_
  refine va_get (D := g.1) (ci := 9) (v := .ref ab) (C := "MacroMill$Tokens") (T := F_Tokens) (N := 10) hx hb htt in_Tokens hown hK hP 0 rfl rfl 0 (by decide) (htt _ k_73) (fun _ h9 => h9) rfl d_Tokens_init_54 ?_
  refine lv_ldc (v := 60001) hx hb hown (htt _ k_82) d_Tokens_init_57 ?_
  refine lv_bipush (v := 49) hx hb d_Tokens_init_59 (by decide) ?_
  refine va_bast (i := 60001) (x := 49) hx hb hK hP hD hS 1 0 rfl rfl (by unfold vp_in; decide) d_Tokens_init_61 (fun H locs hP hD hS => ?_)
  have hP : va_P g.1 classes [(h0, .inr (9, [.ref ab, .ref a15, .int 0, .int 0, .int 0, .ref a23, .ref a31, .ref a39, .int 0, .int 0])), (ab, .inl (g.2 0, 125538, .inl (upd (upd (fun _ => 0) ((60000 : Int32).toNatClampNeg) (vp_nar .byte 48)) ((60001 : Int32).toNatClampNeg) (vp_nar .byte 49))))] H := hP
  have hD : va_D A [(h0, .inr (9, [.ref ab, .ref a15, .int 0, .int 0, .int 0, .ref a23, .ref a31, .ref a39, .int 0, .int 0])), (ab, .inl (g.2 0, 125538, .inl (upd (upd (fun _ => 0) ((60000 : Int32).toNatClampNeg) (vp_nar .byte 48)) ((60001 : Int32).toNatClampNeg) (vp_nar .byte 49))))] := hD
  have hP := va_PsubM (ws' := [(h0, .inr (9, [.ref ab, .ref a15, .int 0, .int 0, .int 0, .ref a23, .ref a31, .ref a39, .int 0, .int 0]))]) hP [0] rfl
  have hD := hD.sub (ws' := [(h0, .inr (9, [.ref ab, .ref a15, .int 0, .int 0, .int 0, .ref a23, .ref a31, .ref a39, .int 0, .int 0]))]) [0] rfl rfl
  exact fin_v (g := g) (ws := [(h0, .inr (9, [.ref ab, .ref a15, .int 0, .int 0, .int 0, .ref a23, .ref a31, .ref a39, .int 0, .int 0]))]) hx hb hr hlocks (by decide +kernel) (by decide +kernel) hP hD hS ⟨ab, a15, a23, a31, a39, rfl⟩ d_Tokens_init_62
abbrev rm_Macros_init : Room := { frames := 1, cells := 14, slots := 28982, locals := 12 }
set_option maxHeartbeats 4000000 in
set_option maxRecDepth 100000 in
theorem c_Macros_init (l : Launch) (g : gG) (sz : Nat) (h0 : Nat) (o1 : Nat) : Cv l y_Macros_init b_Macros_init 2 rm_Macros_init g [.ref h0, .ref o1] [(h0, .inr (10, [.null, .null, .null, .null, .int 0, .int 0, .null, .null, .null, .null, .null, .null, .int 0, .null, .null, .null, .int 0, .null, .null]))] sz (fun w => ∃ (a8 : Nat) (ab : Nat) (a26 : Nat) (a35 : Nat) (a44 : Nat) (a53 : Nat) (a62 : Nat) (a71 : Nat) (a80 : Nat) (a89 : Nat) (asb : Nat) (a107 : Nat) (a115 : Nat) (a123 : Nat), w = [(h0, .inr (10, [.ref o1, .ref a8, .ref ab, .ref a26, .int 0, .int 0, .ref a35, .ref a44, .ref a53, .ref a62, .ref a71, .ref a80, .int 0, .ref a89, .ref asb, .ref a107, .int 0, .ref a115, .ref a123])), (ab, .inl (g.2 1, 512, .inl (fun _ => 0))), (asb, .inl (g.2 1, 2048, .inl (fun _ => 0)))]) := by
  refine startV (by decide) (Nat.le_of_ble_eq_true rfl) ?_
  intro p e s m below meth c A ls hx hb hr hml hlocks hmn hown htt hN hA hP hK hD hS hl
  have hin : meth.name = "<init>" := hmn
  have hown : s.vm.findClass "MacroMill$Macros" = some m.cls := hown
  have hl : lv_has ls 2 [(0, .ref h0), (1, .ref o1)] := hl
  refine lv_aload_n hx hb d_Macros_init_0 rfl (lv_at hl 0 rfl) ?_
  refine W.objInit hx hb hown (htt _ k_83) (htt _ k_1) (htt _ k_2) rfl (by rw [hml]; exact hl.1) rfl d_Macros_init_1 (Nat.le_of_ble_eq_true rfl) (Nat.le_of_ble_eq_true rfl) ?_
  refine W.eq (g2 := F0 m 4 ls []) rfl ?_
  refine lv_aload_n hx hb d_Macros_init_4 rfl (lv_at hl 0 rfl) ?_
  refine lv_sipush (v := 400) hx hb d_Macros_init_5 (by decide) ?_
  refine nea0 (g := g) (A := A) (atype := .long) (ty := .long) (a0 := (400, .inr (.inl (fun _ => 0)))) (N' := 400) hx hb htt 2 rfl no_long k_14 rfl hK hP hD hS hA (a0_long 400) (by decide +kernel) (by decide +kernel) (by decide +kernel) (by decide +kernel) (by decide +kernel) d_Macros_init_8 (fun a8 H hP hD hS => ?_)
  refine W.widen (k := 1) (n := 400) (by decide +kernel) (by decide +kernel) ?_
  refine va_putF (D := g.1) (ci := 10) (v := .ref a8) (ty := t_Macros 1) (C := "MacroMill$Macros") (T := F_Macros) (N := 19) hx hb htt in_Macros t_Macros t_Macros_ok n_Macros hown hK hP hD hS 0 rfl rfl 1 (by decide) (htt _ k_84) (fun _ h9 => h9) rfl hin rfl (t_Macros_ok 1 (by decide)) rfl rfl (Nat.le_of_ble_eq_true rfl) d_Macros_init_10 (fun H locs hP hD hS => ?_)
  have hP : va_P g.1 classes [(h0, .inr (10, [.null, .ref a8, .null, .null, .int 0, .int 0, .null, .null, .null, .null, .null, .null, .int 0, .null, .null, .null, .int 0, .null, .null]))] H := hP
  have hD : va_D A [(h0, .inr (10, [.null, .ref a8, .null, .null, .int 0, .int 0, .null, .null, .null, .null, .null, .null, .int 0, .null, .null, .null, .int 0, .null, .null]))] := hD
  refine lv_aload_n hx hb d_Macros_init_13 rfl (lv_at hl 0 rfl) ?_
  refine lv_sipush (v := 512) hx hb d_Macros_init_14 (by decide) ?_
  refine nea (g := g) (A := A) (atype := .int) (ty := .int) (a0 := (512, .inl (fun _ => 0))) (N' := 512) hx hb htt 1 rfl no_int k_7 rfl hK hP hD hS hA (a0_int 512) (by decide +kernel) (by decide +kernel) (by decide +kernel) (by decide +kernel) (by decide +kernel) d_Macros_init_17 (fun ab H hP hD hS => ?_)
  refine W.widen (k := 2) (n := 912) (by decide +kernel) (by decide +kernel) ?_
  have hP : va_P g.1 classes [(h0, .inr (10, [.null, .ref a8, .null, .null, .int 0, .int 0, .null, .null, .null, .null, .null, .null, .int 0, .null, .null, .null, .int 0, .null, .null])), (ab, .inl (g.2 1, 512, .inl (fun _ => 0)))] H := hP
  have hD : va_D A [(h0, .inr (10, [.null, .ref a8, .null, .null, .int 0, .int 0, .null, .null, .null, .null, .null, .null, .int 0, .null, .null, .null, .int 0, .null, .null])), (ab, .inl (g.2 1, 512, .inl (fun _ => 0)))] := hD
  refine va_putF (D := g.1) (ci := 10) (v := .ref ab) (ty := t_Macros 2) (C := "MacroMill$Macros") (T := F_Macros) (N := 19) hx hb htt in_Macros t_Macros t_Macros_ok n_Macros hown hK hP hD hS 0 rfl rfl 2 (by decide) (htt _ k_85) (fun _ h9 => h9) rfl hin rfl (t_Macros_ok 2 (by decide)) rfl rfl (Nat.le_of_ble_eq_true rfl) d_Macros_init_19 (fun H locs hP hD hS => ?_)
  have hP : va_P g.1 classes [(h0, .inr (10, [.null, .ref a8, .ref ab, .null, .int 0, .int 0, .null, .null, .null, .null, .null, .null, .int 0, .null, .null, .null, .int 0, .null, .null])), (ab, .inl (g.2 1, 512, .inl (fun _ => 0)))] H := hP
  have hD : va_D A [(h0, .inr (10, [.null, .ref a8, .ref ab, .null, .int 0, .int 0, .null, .null, .null, .null, .null, .null, .int 0, .null, .null, .null, .int 0, .null, .null])), (ab, .inl (g.2 1, 512, .inl (fun _ => 0)))] := hD
  refine lv_aload_n hx hb d_Macros_init_22 rfl (lv_at hl 0 rfl) ?_
  show W _ _ _ _ _ _ _ _ _ _ _ _ _ _ _ (F0 _ 23 _ _)
  refine lv_sipush (v := 400) hx hb d_Macros_init_23 (by decide) ?_
  refine nea0 (g := g) (A := A) (atype := .int) (ty := .int) (a0 := (400, .inl (fun _ => 0))) (N' := 400) hx hb htt 1 rfl no_int k_7 rfl hK hP hD hS hA (a0_int 400) (by decide +kernel) (by decide +kernel) (by decide +kernel) (by decide +kernel) (by decide +kernel) d_Macros_init_26 (fun a26 H hP hD hS => ?_)
  refine W.widen (k := 3) (n := 1312) (by decide +kernel) (by decide +kernel) ?_
  refine va_putF (D := g.1) (ci := 10) (v := .ref a26) (ty := t_Macros 3) (C := "MacroMill$Macros") (T := F_Macros) (N := 19) hx hb htt in_Macros t_Macros t_Macros_ok n_Macros hown hK hP hD hS 0 rfl rfl 3 (by decide) (htt _ k_86) (fun _ h9 => h9) rfl hin rfl (t_Macros_ok 3 (by decide)) rfl rfl (Nat.le_of_ble_eq_true rfl) d_Macros_init_28 (fun H locs hP hD hS => ?_)
  have hP : va_P g.1 classes [(h0, .inr (10, [.null, .ref a8, .ref ab, .ref a26, .int 0, .int 0, .null, .null, .null, .null, .null, .null, .int 0, .null, .null, .null, .int 0, .null, .null])), (ab, .inl (g.2 1, 512, .inl (fun _ => 0)))] H := hP
  have hD : va_D A [(h0, .inr (10, [.null, .ref a8, .ref ab, .ref a26, .int 0, .int 0, .null, .null, .null, .null, .null, .null, .int 0, .null, .null, .null, .int 0, .null, .null])), (ab, .inl (g.2 1, 512, .inl (fun _ => 0)))] := hD
  refine lv_aload_n hx hb d_Macros_init_31 rfl (lv_at hl 0 rfl) ?_
  refine lv_sipush (v := 400) hx hb d_Macros_init_32 (by decide) ?_
  refine nea0 (g := g) (A := A) (atype := .int) (ty := .int) (a0 := (400, .inl (fun _ => 0))) (N' := 400) hx hb htt 1 rfl no_int k_7 rfl hK hP hD hS hA (a0_int 400) (by decide +kernel) (by decide +kernel) (by decide +kernel) (by decide +kernel) (by decide +kernel) d_Macros_init_35 (fun a35 H hP hD hS => ?_)
  refine W.widen (k := 4) (n := 1712) (by decide +kernel) (by decide +kernel) ?_
  refine va_putF (D := g.1) (ci := 10) (v := .ref a35) (ty := t_Macros 6) (C := "MacroMill$Macros") (T := F_Macros) (N := 19) hx hb htt in_Macros t_Macros t_Macros_ok n_Macros hown hK hP hD hS 0 rfl rfl 6 (by decide) (htt _ k_87) (fun _ h9 => h9) rfl hin rfl (t_Macros_ok 6 (by decide)) rfl rfl (Nat.le_of_ble_eq_true rfl) d_Macros_init_37 (fun H locs hP hD hS => ?_)
  have hP : va_P g.1 classes [(h0, .inr (10, [.null, .ref a8, .ref ab, .ref a26, .int 0, .int 0, .ref a35, .null, .null, .null, .null, .null, .int 0, .null, .null, .null, .int 0, .null, .null])), (ab, .inl (g.2 1, 512, .inl (fun _ => 0)))] H := hP
  have hD : va_D A [(h0, .inr (10, [.null, .ref a8, .ref ab, .ref a26, .int 0, .int 0, .ref a35, .null, .null, .null, .null, .null, .int 0, .null, .null, .null, .int 0, .null, .null])), (ab, .inl (g.2 1, 512, .inl (fun _ => 0)))] := hD
  refine lv_aload_n hx hb d_Macros_init_40 rfl (lv_at hl 0 rfl) ?_
  refine lv_sipush (v := 400) hx hb d_Macros_init_41 (by decide) ?_
  refine nea0 (g := g) (A := A) (atype := .boolean) (ty := .boolean) (a0 := (400, .inl (fun _ => 0))) (N' := 400) hx hb htt 3 rfl no_boolean k_16 rfl hK hP hD hS hA (a0_boolean 400) (by decide +kernel) (by decide +kernel) (by decide +kernel) (by decide +kernel) (by decide +kernel) d_Macros_init_44 (fun a44 H hP hD hS => ?_)
  refine W.widen (k := 5) (n := 2112) (by decide +kernel) (by decide +kernel) ?_
  refine va_putF (D := g.1) (ci := 10) (v := .ref a44) (ty := t_Macros 7) (C := "MacroMill$Macros") (T := F_Macros) (N := 19) hx hb htt in_Macros t_Macros t_Macros_ok n_Macros hown hK hP hD hS 0 rfl rfl 7 (by decide) (htt _ k_88) (fun _ h9 => h9) rfl hin rfl (t_Macros_ok 7 (by decide)) rfl rfl (Nat.le_of_ble_eq_true rfl) d_Macros_init_46 (fun H locs hP hD hS => ?_)
  have hP : va_P g.1 classes [(h0, .inr (10, [.null, .ref a8, .ref ab, .ref a26, .int 0, .int 0, .ref a35, .ref a44, .null, .null, .null, .null, .int 0, .null, .null, .null, .int 0, .null, .null])), (ab, .inl (g.2 1, 512, .inl (fun _ => 0)))] H := hP
  have hD : va_D A [(h0, .inr (10, [.null, .ref a8, .ref ab, .ref a26, .int 0, .int 0, .ref a35, .ref a44, .null, .null, .null, .null, .int 0, .null, .null, .null, .int 0, .null, .null])), (ab, .inl (g.2 1, 512, .inl (fun _ => 0)))] := hD
  refine lv_aload_n hx hb d_Macros_init_49 rfl (lv_at hl 0 rfl) ?_
  show W _ _ _ _ _ _ _ _ _ _ _ _ _ _ _ (F0 _ 50 _ _)
  refine lv_sipush (v := 400) hx hb d_Macros_init_50 (by decide) ?_
  refine nea0 (g := g) (A := A) (atype := .int) (ty := .int) (a0 := (400, .inl (fun _ => 0))) (N' := 400) hx hb htt 1 rfl no_int k_7 rfl hK hP hD hS hA (a0_int 400) (by decide +kernel) (by decide +kernel) (by decide +kernel) (by decide +kernel) (by decide +kernel) d_Macros_init_53 (fun a53 H hP hD hS => ?_)
  refine W.widen (k := 6) (n := 2512) (by decide +kernel) (by decide +kernel) ?_
  refine va_putF (D := g.1) (ci := 10) (v := .ref a53) (ty := t_Macros 8) (C := "MacroMill$Macros") (T := F_Macros) (N := 19) hx hb htt in_Macros t_Macros t_Macros_ok n_Macros hown hK hP hD hS 0 rfl rfl 8 (by decide) (htt _ k_89) (fun _ h9 => h9) rfl hin rfl (t_Macros_ok 8 (by decide)) rfl rfl (Nat.le_of_ble_eq_true rfl) d_Macros_init_55 (fun H locs hP hD hS => ?_)
  have hP : va_P g.1 classes [(h0, .inr (10, [.null, .ref a8, .ref ab, .ref a26, .int 0, .int 0, .ref a35, .ref a44, .ref a53, .null, .null, .null, .int 0, .null, .null, .null, .int 0, .null, .null])), (ab, .inl (g.2 1, 512, .inl (fun _ => 0)))] H := hP
  have hD : va_D A [(h0, .inr (10, [.null, .ref a8, .ref ab, .ref a26, .int 0, .int 0, .ref a35, .ref a44, .ref a53, .null, .null, .null, .int 0, .null, .null, .null, .int 0, .null, .null])), (ab, .inl (g.2 1, 512, .inl (fun _ => 0)))] := hD
  refine lv_aload_n hx hb d_Macros_init_58 rfl (lv_at hl 0 rfl) ?_
  refine lv_sipush (v := 400) hx hb d_Macros_init_59 (by decide) ?_
  refine nea0 (g := g) (A := A) (atype := .int) (ty := .int) (a0 := (400, .inl (fun _ => 0))) (N' := 400) hx hb htt 1 rfl no_int k_7 rfl hK hP hD hS hA (a0_int 400) (by decide +kernel) (by decide +kernel) (by decide +kernel) (by decide +kernel) (by decide +kernel) d_Macros_init_62 (fun a62 H hP hD hS => ?_)
  refine W.widen (k := 7) (n := 2912) (by decide +kernel) (by decide +kernel) ?_
  refine va_putF (D := g.1) (ci := 10) (v := .ref a62) (ty := t_Macros 9) (C := "MacroMill$Macros") (T := F_Macros) (N := 19) hx hb htt in_Macros t_Macros t_Macros_ok n_Macros hown hK hP hD hS 0 rfl rfl 9 (by decide) (htt _ k_90) (fun _ h9 => h9) rfl hin rfl (t_Macros_ok 9 (by decide)) rfl rfl (Nat.le_of_ble_eq_true rfl) d_Macros_init_64 (fun H locs hP hD hS => ?_)
  have hP : va_P g.1 classes [(h0, .inr (10, [.null, .ref a8, .ref ab, .ref a26, .int 0, .int 0, .ref a35, .ref a44, .ref a53, .ref a62, .null, .null, .int 0, .null, .null, .null, .int 0, .null, .null])), (ab, .inl (g.2 1, 512, .inl (fun _ => 0)))] H := hP
  have hD : va_D A [(h0, .inr (10, [.null, .ref a8, .ref ab, .ref a26, .int 0, .int 0, .ref a35, .ref a44, .ref a53, .ref a62, .null, .null, .int 0, .null, .null, .null, .int 0, .null, .null])), (ab, .inl (g.2 1, 512, .inl (fun _ => 0)))] := hD
  refine lv_aload_n hx hb d_Macros_init_67 rfl (lv_at hl 0 rfl) ?_
  refine lv_sipush (v := 8000) hx hb d_Macros_init_68 (by decide) ?_
  refine nea0 (g := g) (A := A) (atype := .long) (ty := .long) (a0 := (8000, .inr (.inl (fun _ => 0)))) (N' := 8000) hx hb htt 2 rfl no_long k_14 rfl hK hP hD hS hA (a0_long 8000) (by decide +kernel) (by decide +kernel) (by decide +kernel) (by decide +kernel) (by decide +kernel) d_Macros_init_71 (fun a71 H hP hD hS => ?_)
  refine W.widen (k := 8) (n := 10912) (by decide +kernel) (by decide +kernel) ?_
  refine va_putF (D := g.1) (ci := 10) (v := .ref a71) (ty := t_Macros 10) (C := "MacroMill$Macros") (T := F_Macros) (N := 19) hx hb htt in_Macros t_Macros t_Macros_ok n_Macros hown hK hP hD hS 0 rfl rfl 10 (by decide) (htt _ k_91) (fun _ h9 => h9) rfl hin rfl (t_Macros_ok 10 (by decide)) rfl rfl (Nat.le_of_ble_eq_true rfl) d_Macros_init_73 (fun H locs hP hD hS => ?_)
  have hP : va_P g.1 classes [(h0, .inr (10, [.null, .ref a8, .ref ab, .ref a26, .int 0, .int 0, .ref a35, .ref a44, .ref a53, .ref a62, .ref a71, .null, .int 0, .null, .null, .null, .int 0, .null, .null])), (ab, .inl (g.2 1, 512, .inl (fun _ => 0)))] H := hP
  have hD : va_D A [(h0, .inr (10, [.null, .ref a8, .ref ab, .ref a26, .int 0, .int 0, .ref a35, .ref a44, .ref a53, .ref a62, .ref a71, .null, .int 0, .null, .null, .null, .int 0, .null, .null])), (ab, .inl (g.2 1, 512, .inl (fun _ => 0)))] := hD
  refine lv_aload_n hx hb d_Macros_init_76 rfl (lv_at hl 0 rfl) ?_
  show W _ _ _ _ _ _ _ _ _ _ _ _ _ _ _ (F0 _ 77 _ _)
  refine lv_sipush (v := 8000) hx hb d_Macros_init_77 (by decide) ?_
  refine nea0 (g := g) (A := A) (atype := .int) (ty := .int) (a0 := (8000, .inl (fun _ => 0))) (N' := 8000) hx hb htt 1 rfl no_int k_7 rfl hK hP hD hS hA (a0_int 8000) (by decide +kernel) (by decide +kernel) (by decide +kernel) (by decide +kernel) (by decide +kernel) d_Macros_init_80 (fun a80 H hP hD hS => ?_)
  refine W.widen (k := 9) (n := 18912) (by decide +kernel) (by decide +kernel) ?_
  refine va_putF (D := g.1) (ci := 10) (v := .ref a80) (ty := t_Macros 11) (C := "MacroMill$Macros") (T := F_Macros) (N := 19) hx hb htt in_Macros t_Macros t_Macros_ok n_Macros hown hK hP hD hS 0 rfl rfl 11 (by decide) (htt _ k_92) (fun _ h9 => h9) rfl hin rfl (t_Macros_ok 11 (by decide)) rfl rfl (Nat.le_of_ble_eq_true rfl) d_Macros_init_82 (fun H locs hP hD hS => ?_)
  have hP : va_P g.1 classes [(h0, .inr (10, [.null, .ref a8, .ref ab, .ref a26, .int 0, .int 0, .ref a35, .ref a44, .ref a53, .ref a62, .ref a71, .ref a80, .int 0, .null, .null, .null, .int 0, .null, .null])), (ab, .inl (g.2 1, 512, .inl (fun _ => 0)))] H := hP
  have hD : va_D A [(h0, .inr (10, [.null, .ref a8, .ref ab, .ref a26, .int 0, .int 0, .ref a35, .ref a44, .ref a53, .ref a62, .ref a71, .ref a80, .int 0, .null, .null, .null, .int 0, .null, .null])), (ab, .inl (g.2 1, 512, .inl (fun _ => 0)))] := hD
  refine lv_aload_n hx hb d_Macros_init_85 rfl (lv_at hl 0 rfl) ?_
  refine lv_sipush (v := 7007) hx hb d_Macros_init_86 (by decide) ?_
  refine nea0 (g := g) (A := A) (atype := .long) (ty := .long) (a0 := (7007, .inr (.inl (fun _ => 0)))) (N' := 7007) hx hb htt 2 rfl no_long k_14 rfl hK hP hD hS hA (a0_long 7007) (by decide +kernel) (by decide +kernel) (by decide +kernel) (by decide +kernel) (by decide +kernel) d_Macros_init_89 (fun a89 H hP hD hS => ?_)
  refine W.widen (k := 10) (n := 25919) (by decide +kernel) (by decide +kernel) ?_
  refine va_putF (D := g.1) (ci := 10) (v := .ref a89) (ty := t_Macros 13) (C := "MacroMill$Macros") (T := F_Macros) (N := 19) hx hb htt in_Macros t_Macros t_Macros_ok n_Macros hown hK hP hD hS 0 rfl rfl 13 (by decide) (htt _ k_93) (fun _ h9 => h9) rfl hin rfl (t_Macros_ok 13 (by decide)) rfl rfl (Nat.le_of_ble_eq_true rfl) d_Macros_init_91 (fun H locs hP hD hS => ?_)
  have hP : va_P g.1 classes [(h0, .inr (10, [.null, .ref a8, .ref ab, .ref a26, .int 0, .int 0, .ref a35, .ref a44, .ref a53, .ref a62, .ref a71, .ref a80, .int 0, .ref a89, .null, .null, .int 0, .null, .null])), (ab, .inl (g.2 1, 512, .inl (fun _ => 0)))] H := hP
  have hD : va_D A [(h0, .inr (10, [.null, .ref a8, .ref ab, .ref a26, .int 0, .int 0, .ref a35, .ref a44, .ref a53, .ref a62, .ref a71, .ref a80, .int 0, .ref a89, .null, .null, .int 0, .null, .null])), (ab, .inl (g.2 1, 512, .inl (fun _ => 0)))] := hD
  refine lv_aload_n hx hb d_Macros_init_94 rfl (lv_at hl 0 rfl) ?_
  refine lv_sipush (v := 2048) hx hb d_Macros_init_95 (by decide) ?_
  refine nea (g := g) (A := A) (atype := .int) (ty := .int) (a0 := (2048, .inl (fun _ => 0))) (N' := 2048) hx hb htt 1 rfl no_int k_7 rfl hK hP hD hS hA (a0_int 2048) (by decide +kernel) (by decide +kernel) (by decide +kernel) (by decide +kernel) (by decide +kernel) d_Macros_init_98 (fun asb H hP hD hS => ?_)
  refine W.widen (k := 11) (n := 27967) (by decide +kernel) (by decide +kernel) ?_
  have hP : va_P g.1 classes [(h0, .inr (10, [.null, .ref a8, .ref ab, .ref a26, .int 0, .int 0, .ref a35, .ref a44, .ref a53, .ref a62, .ref a71, .ref a80, .int 0, .ref a89, .null, .null, .int 0, .null, .null])), (ab, .inl (g.2 1, 512, .inl (fun _ => 0))), (asb, .inl (g.2 1, 2048, .inl (fun _ => 0)))] H := hP
  have hD : va_D A [(h0, .inr (10, [.null, .ref a8, .ref ab, .ref a26, .int 0, .int 0, .ref a35, .ref a44, .ref a53, .ref a62, .ref a71, .ref a80, .int 0, .ref a89, .null, .null, .int 0, .null, .null])), (ab, .inl (g.2 1, 512, .inl (fun _ => 0))), (asb, .inl (g.2 1, 2048, .inl (fun _ => 0)))] := hD
  refine va_putF (D := g.1) (ci := 10) (v := .ref asb) (ty := t_Macros 14) (C := "MacroMill$Macros") (T := F_Macros) (N := 19) hx hb htt in_Macros t_Macros t_Macros_ok n_Macros hown hK hP hD hS 0 rfl rfl 14 (by decide) (htt _ k_94) (fun _ h9 => h9) rfl hin rfl (t_Macros_ok 14 (by decide)) rfl rfl (Nat.le_of_ble_eq_true rfl) d_Macros_init_100 (fun H locs hP hD hS => ?_)
  have hP : va_P g.1 classes [(h0, .inr (10, [.null, .ref a8, .ref ab, .ref a26, .int 0, .int 0, .ref a35, .ref a44, .ref a53, .ref a62, .ref a71, .ref a80, .int 0, .ref a89, .ref asb, .null, .int 0, .null, .null])), (ab, .inl (g.2 1, 512, .inl (fun _ => 0))), (asb, .inl (g.2 1, 2048, .inl (fun _ => 0)))] H := hP
  have hD : va_D A [(h0, .inr (10, [.null, .ref a8, .ref ab, .ref a26, .int 0, .int 0, .ref a35, .ref a44, .ref a53, .ref a62, .ref a71, .ref a80, .int 0, .ref a89, .ref asb, .null, .int 0, .null, .null])), (ab, .inl (g.2 1, 512, .inl (fun _ => 0))), (asb, .inl (g.2 1, 2048, .inl (fun _ => 0)))] := hD
  refine lv_aload_n hx hb d_Macros_init_103 rfl (lv_at hl 0 rfl) ?_
  show W _ _ _ _ _ _ _ _ _ _ _ _ _ _ _ (F0 _ 104 _ _)
  refine lv_sipush (v := 1001) hx hb d_Macros_init_104 (by decide) ?_
  refine nea0 (g := g) (A := A) (atype := .int) (ty := .int) (a0 := (1001, .inl (fun _ => 0))) (N' := 1001) hx hb htt 1 rfl no_int k_7 rfl hK hP hD hS hA (a0_int 1001) (by decide +kernel) (by decide +kernel) (by decide +kernel) (by decide +kernel) (by decide +kernel) d_Macros_init_107 (fun a107 H hP hD hS => ?_)
  refine W.widen (k := 12) (n := 28968) (by decide +kernel) (by decide +kernel) ?_
  refine va_putF (D := g.1) (ci := 10) (v := .ref a107) (ty := t_Macros 15) (C := "MacroMill$Macros") (T := F_Macros) (N := 19) hx hb htt in_Macros t_Macros t_Macros_ok n_Macros hown hK hP hD hS 0 rfl rfl 15 (by decide) (htt _ k_95) (fun _ h9 => h9) rfl hin rfl (t_Macros_ok 15 (by decide)) rfl rfl (Nat.le_of_ble_eq_true rfl) d_Macros_init_109 (fun H locs hP hD hS => ?_)
  have hP : va_P g.1 classes [(h0, .inr (10, [.null, .ref a8, .ref ab, .ref a26, .int 0, .int 0, .ref a35, .ref a44, .ref a53, .ref a62, .ref a71, .ref a80, .int 0, .ref a89, .ref asb, .ref a107, .int 0, .null, .null])), (ab, .inl (g.2 1, 512, .inl (fun _ => 0))), (asb, .inl (g.2 1, 2048, .inl (fun _ => 0)))] H := hP
  have hD : va_D A [(h0, .inr (10, [.null, .ref a8, .ref ab, .ref a26, .int 0, .int 0, .ref a35, .ref a44, .ref a53, .ref a62, .ref a71, .ref a80, .int 0, .ref a89, .ref asb, .ref a107, .int 0, .null, .null])), (ab, .inl (g.2 1, 512, .inl (fun _ => 0))), (asb, .inl (g.2 1, 2048, .inl (fun _ => 0)))] := hD
  refine lv_aload_n hx hb d_Macros_init_112 rfl (lv_at hl 0 rfl) ?_
  refine lv_bipush (v := 7) hx hb d_Macros_init_113 (by decide) ?_
  refine nea0 (g := g) (A := A) (atype := .long) (ty := .long) (a0 := (7, .inr (.inl (fun _ => 0)))) (N' := 7) hx hb htt 2 rfl no_long k_14 rfl hK hP hD hS hA (a0_long 7) (by decide +kernel) (by decide +kernel) (by decide +kernel) (by decide +kernel) (by decide +kernel) d_Macros_init_115 (fun a115 H hP hD hS => ?_)
  refine W.widen (k := 13) (n := 28975) (by decide +kernel) (by decide +kernel) ?_
  refine va_putF (D := g.1) (ci := 10) (v := .ref a115) (ty := t_Macros 17) (C := "MacroMill$Macros") (T := F_Macros) (N := 19) hx hb htt in_Macros t_Macros t_Macros_ok n_Macros hown hK hP hD hS 0 rfl rfl 17 (by decide) (htt _ k_96) (fun _ h9 => h9) rfl hin rfl (t_Macros_ok 17 (by decide)) rfl rfl (Nat.le_of_ble_eq_true rfl) d_Macros_init_117 (fun H locs hP hD hS => ?_)
  have hP : va_P g.1 classes [(h0, .inr (10, [.null, .ref a8, .ref ab, .ref a26, .int 0, .int 0, .ref a35, .ref a44, .ref a53, .ref a62, .ref a71, .ref a80, .int 0, .ref a89, .ref asb, .ref a107, .int 0, .ref a115, .null])), (ab, .inl (g.2 1, 512, .inl (fun _ => 0))), (asb, .inl (g.2 1, 2048, .inl (fun _ => 0)))] H := hP
  have hD : va_D A [(h0, .inr (10, [.null, .ref a8, .ref ab, .ref a26, .int 0, .int 0, .ref a35, .ref a44, .ref a53, .ref a62, .ref a71, .ref a80, .int 0, .ref a89, .ref asb, .ref a107, .int 0, .ref a115, .null])), (ab, .inl (g.2 1, 512, .inl (fun _ => 0))), (asb, .inl (g.2 1, 2048, .inl (fun _ => 0)))] := hD
  refine lv_aload_n hx hb d_Macros_init_120 rfl (lv_at hl 0 rfl) ?_
  refine lv_bipush (v := 7) hx hb d_Macros_init_121 (by decide) ?_
  refine nea0 (g := g) (A := A) (atype := .long) (ty := .long) (a0 := (7, .inr (.inl (fun _ => 0)))) (N' := 7) hx hb htt 2 rfl no_long k_14 rfl hK hP hD hS hA (a0_long 7) (by decide +kernel) (by decide +kernel) (by decide +kernel) (by decide +kernel) (by decide +kernel) d_Macros_init_123 (fun a123 H hP hD hS => ?_)
  refine W.widen (k := 14) (n := 28982) (by decide +kernel) (by decide +kernel) ?_
  refine va_putF (D := g.1) (ci := 10) (v := .ref a123) (ty := t_Macros 18) (C := "MacroMill$Macros") (T := F_Macros) (N := 19) hx hb htt in_Macros t_Macros t_Macros_ok n_Macros hown hK hP hD hS 0 rfl rfl 18 (by decide) (htt _ k_97) (fun _ h9 => h9) rfl hin rfl (t_Macros_ok 18 (by decide)) rfl rfl (Nat.le_of_ble_eq_true rfl) d_Macros_init_125 (fun H locs hP hD hS => ?_)
  have hP : va_P g.1 classes [(h0, .inr (10, [.null, .ref a8, .ref ab, .ref a26, .int 0, .int 0, .ref a35, .ref a44, .ref a53, .ref a62, .ref a71, .ref a80, .int 0, .ref a89, .ref asb, .ref a107, .int 0, .ref a115, .ref a123])), (ab, .inl (g.2 1, 512, .inl (fun _ => 0))), (asb, .inl (g.2 1, 2048, .inl (fun _ => 0)))] H := hP
  have hD : va_D A [(h0, .inr (10, [.null, .ref a8, .ref ab, .ref a26, .int 0, .int 0, .ref a35, .ref a44, .ref a53, .ref a62, .ref a71, .ref a80, .int 0, .ref a89, .ref asb, .ref a107, .int 0, .ref a115, .ref a123])), (ab, .inl (g.2 1, 512, .inl (fun _ => 0))), (asb, .inl (g.2 1, 2048, .inl (fun _ => 0)))] := hD
  refine lv_aload_n hx hb d_Macros_init_128 rfl (lv_at hl 0 rfl) ?_
  show W _ _ _ _ _ _ _ _ _ _ _ _ _ _ _ (F0 _ 129 _ _)
  refine lv_aload_n hx hb d_Macros_init_129 rfl (lv_at hl 1 rfl) ?_
  refine va_putF (D := g.1) (ci := 10) (v := .ref o1) (ty := t_Macros 0) (C := "MacroMill$Macros") (T := F_Macros) (N := 19) hx hb htt in_Macros t_Macros t_Macros_ok n_Macros hown hK hP hD hS 0 rfl rfl 0 (by decide) (htt _ k_98) (fun _ h9 => h9) rfl hin rfl (t_Macros_ok 0 (by decide)) rfl rfl (Nat.le_of_ble_eq_true rfl) d_Macros_init_130 (fun H locs hP hD hS => ?_)
  have hP : va_P g.1 classes [(h0, .inr (10, [.ref o1, .ref a8, .ref ab, .ref a26, .int 0, .int 0, .ref a35, .ref a44, .ref a53, .ref a62, .ref a71, .ref a80, .int 0, .ref a89, .ref asb, .ref a107, .int 0, .ref a115, .ref a123])), (ab, .inl (g.2 1, 512, .inl (fun _ => 0))), (asb, .inl (g.2 1, 2048, .inl (fun _ => 0)))] H := hP
  have hD : va_D A [(h0, .inr (10, [.ref o1, .ref a8, .ref ab, .ref a26, .int 0, .int 0, .ref a35, .ref a44, .ref a53, .ref a62, .ref a71, .ref a80, .int 0, .ref a89, .ref asb, .ref a107, .int 0, .ref a115, .ref a123])), (ab, .inl (g.2 1, 512, .inl (fun _ => 0))), (asb, .inl (g.2 1, 2048, .inl (fun _ => 0)))] := hD
  exact fin_v (g := g) (ws := [(h0, .inr (10, [.ref o1, .ref a8, .ref ab, .ref a26, .int 0, .int 0, .ref a35, .ref a44, .ref a53, .ref a62, .ref a71, .ref a80, .int 0, .ref a89, .ref asb, .ref a107, .int 0, .ref a115, .ref a123])), (ab, .inl (g.2 1, 512, .inl (fun _ => 0))), (asb, .inl (g.2 1, 2048, .inl (fun _ => 0)))]) hx hb hr hlocks (by decide +kernel) (by decide +kernel) hP hD hS ⟨a8, ab, a26, a35, a44, a53, a62, a71, a80, a89, asb, a107, a115, a123, rfl⟩ d_Macros_init_133
abbrev rm_Lines_init : Room := { frames := 1, cells := 8, slots := 1524, locals := 12 }
set_option maxHeartbeats 4000000 in
set_option maxRecDepth 100000 in
theorem c_Lines_init (l : Launch) (g : gG) (sz : Nat) (h0 : Nat) (o1 : Nat) (o2 : Nat) (o3 : Nat) : Cv l y_Lines_init b_Lines_init 4 rm_Lines_init g [.ref h0, .ref o1, .ref o2, .ref o3] [(h0, .inr (11, [.null, .null, .null, .null, .null, .null, .null, .null, .null, .null, .null, .int 0, .int 0, .int 0, .int 0, .int 0, .int 0, .int 0, .int 0]))] sz (fun w => ∃ (atf : Nat) (a15 : Nat) (a23 : Nat) (a31 : Nat) (a39 : Nat) (a47 : Nat) (a56 : Nat) (a64 : Nat), w = [(h0, .inr (11, [.ref o1, .ref o2, .ref o3, .ref atf, .ref a15, .ref a23, .ref a31, .ref a39, .ref a47, .ref a56, .ref a64, .int 0, .int 0, .int 0, .int 0, .int 0, .int 0, .int 0, .int 0])), (atf, .inl (g.2 1, 32, .inl (fun _ => 0)))]) := by
  refine startV (by decide) (Nat.le_of_ble_eq_true rfl) ?_
  intro p e s m below meth c A ls hx hb hr hml hlocks hmn hown htt hN hA hP hK hD hS hl
  have hin : meth.name = "<init>" := hmn
  have hown : s.vm.findClass "MacroMill$Lines" = some m.cls := hown
  have hl : lv_has ls 4 [(0, .ref h0), (1, .ref o1), (2, .ref o2), (3, .ref o3)] := hl
  refine lv_aload_n hx hb d_Lines_init_0 rfl (lv_at hl 0 rfl) ?_
  refine W.objInit hx hb hown (htt _ k_99) (htt _ k_1) (htt _ k_2) rfl (by rw [hml]; exact hl.1) rfl d_Lines_init_1 (Nat.le_of_ble_eq_true rfl) (Nat.le_of_ble_eq_true rfl) ?_
  refine W.eq (g2 := F0 m 4 ls []) rfl ?_
  refine lv_aload_n hx hb d_Lines_init_4 rfl (lv_at hl 0 rfl) ?_
  refine lv_bipush (v := 32) hx hb d_Lines_init_5 (by decide) ?_
  refine nea (g := g) (A := A) (atype := .int) (ty := .int) (a0 := (32, .inl (fun _ => 0))) (N' := 32) hx hb htt 1 rfl no_int k_7 rfl hK hP hD hS hA (a0_int 32) (by decide +kernel) (by decide +kernel) (by decide +kernel) (by decide +kernel) (by decide +kernel) d_Lines_init_7 (fun atf H hP hD hS => ?_)
  refine W.widen (k := 1) (n := 32) (by decide +kernel) (by decide +kernel) ?_
  have hP : va_P g.1 classes [(h0, .inr (11, [.null, .null, .null, .null, .null, .null, .null, .null, .null, .null, .null, .int 0, .int 0, .int 0, .int 0, .int 0, .int 0, .int 0, .int 0])), (atf, .inl (g.2 1, 32, .inl (fun _ => 0)))] H := hP
  have hD : va_D A [(h0, .inr (11, [.null, .null, .null, .null, .null, .null, .null, .null, .null, .null, .null, .int 0, .int 0, .int 0, .int 0, .int 0, .int 0, .int 0, .int 0])), (atf, .inl (g.2 1, 32, .inl (fun _ => 0)))] := hD
  refine va_putF (D := g.1) (ci := 11) (v := .ref atf) (ty := t_Lines 3) (C := "MacroMill$Lines") (T := F_Lines) (N := 19) hx hb htt in_Lines t_Lines t_Lines_ok n_Lines hown hK hP hD hS 0 rfl rfl 3 (by decide) (htt _ k_100) (fun _ h9 => h9) rfl hin rfl (t_Lines_ok 3 (by decide)) rfl rfl (Nat.le_of_ble_eq_true rfl) d_Lines_init_9 (fun H locs hP hD hS => ?_)
  have hP : va_P g.1 classes [(h0, .inr (11, [.null, .null, .null, .ref atf, .null, .null, .null, .null, .null, .null, .null, .int 0, .int 0, .int 0, .int 0, .int 0, .int 0, .int 0, .int 0])), (atf, .inl (g.2 1, 32, .inl (fun _ => 0)))] H := hP
  have hD : va_D A [(h0, .inr (11, [.null, .null, .null, .ref atf, .null, .null, .null, .null, .null, .null, .null, .int 0, .int 0, .int 0, .int 0, .int 0, .int 0, .int 0, .int 0])), (atf, .inl (g.2 1, 32, .inl (fun _ => 0)))] := hD
  refine lv_aload_n hx hb d_Lines_init_12 rfl (lv_at hl 0 rfl) ?_
  refine lv_bipush (v := 32) hx hb d_Lines_init_13 (by decide) ?_
  refine nea0 (g := g) (A := A) (atype := .int) (ty := .int) (a0 := (32, .inl (fun _ => 0))) (N' := 32) hx hb htt 1 rfl no_int k_7 rfl hK hP hD hS hA (a0_int 32) (by decide +kernel) (by decide +kernel) (by decide +kernel) (by decide +kernel) (by decide +kernel) d_Lines_init_15 (fun a15 H hP hD hS => ?_)
  refine W.widen (k := 2) (n := 64) (by decide +kernel) (by decide +kernel) ?_
  refine va_putF (D := g.1) (ci := 11) (v := .ref a15) (ty := t_Lines 4) (C := "MacroMill$Lines") (T := F_Lines) (N := 19) hx hb htt in_Lines t_Lines t_Lines_ok n_Lines hown hK hP hD hS 0 rfl rfl 4 (by decide) (htt _ k_101) (fun _ h9 => h9) rfl hin rfl (t_Lines_ok 4 (by decide)) rfl rfl (Nat.le_of_ble_eq_true rfl) d_Lines_init_17 (fun H locs hP hD hS => ?_)
  have hP : va_P g.1 classes [(h0, .inr (11, [.null, .null, .null, .ref atf, .ref a15, .null, .null, .null, .null, .null, .null, .int 0, .int 0, .int 0, .int 0, .int 0, .int 0, .int 0, .int 0])), (atf, .inl (g.2 1, 32, .inl (fun _ => 0)))] H := hP
  have hD : va_D A [(h0, .inr (11, [.null, .null, .null, .ref atf, .ref a15, .null, .null, .null, .null, .null, .null, .int 0, .int 0, .int 0, .int 0, .int 0, .int 0, .int 0, .int 0])), (atf, .inl (g.2 1, 32, .inl (fun _ => 0)))] := hD
  refine lv_aload_n hx hb d_Lines_init_20 rfl (lv_at hl 0 rfl) ?_
  show W _ _ _ _ _ _ _ _ _ _ _ _ _ _ _ (F0 _ 21 _ _)
  refine lv_bipush (v := 32) hx hb d_Lines_init_21 (by decide) ?_
  refine nea0 (g := g) (A := A) (atype := .int) (ty := .int) (a0 := (32, .inl (fun _ => 0))) (N' := 32) hx hb htt 1 rfl no_int k_7 rfl hK hP hD hS hA (a0_int 32) (by decide +kernel) (by decide +kernel) (by decide +kernel) (by decide +kernel) (by decide +kernel) d_Lines_init_23 (fun a23 H hP hD hS => ?_)
  refine W.widen (k := 3) (n := 96) (by decide +kernel) (by decide +kernel) ?_
  refine va_putF (D := g.1) (ci := 11) (v := .ref a23) (ty := t_Lines 5) (C := "MacroMill$Lines") (T := F_Lines) (N := 19) hx hb htt in_Lines t_Lines t_Lines_ok n_Lines hown hK hP hD hS 0 rfl rfl 5 (by decide) (htt _ k_102) (fun _ h9 => h9) rfl hin rfl (t_Lines_ok 5 (by decide)) rfl rfl (Nat.le_of_ble_eq_true rfl) d_Lines_init_25 (fun H locs hP hD hS => ?_)
  have hP : va_P g.1 classes [(h0, .inr (11, [.null, .null, .null, .ref atf, .ref a15, .ref a23, .null, .null, .null, .null, .null, .int 0, .int 0, .int 0, .int 0, .int 0, .int 0, .int 0, .int 0])), (atf, .inl (g.2 1, 32, .inl (fun _ => 0)))] H := hP
  have hD : va_D A [(h0, .inr (11, [.null, .null, .null, .ref atf, .ref a15, .ref a23, .null, .null, .null, .null, .null, .int 0, .int 0, .int 0, .int 0, .int 0, .int 0, .int 0, .int 0])), (atf, .inl (g.2 1, 32, .inl (fun _ => 0)))] := hD
  refine lv_aload_n hx hb d_Lines_init_28 rfl (lv_at hl 0 rfl) ?_
  refine lv_bipush (v := 21) hx hb d_Lines_init_29 (by decide) ?_
  refine nea0 (g := g) (A := A) (atype := .int) (ty := .int) (a0 := (21, .inl (fun _ => 0))) (N' := 21) hx hb htt 1 rfl no_int k_7 rfl hK hP hD hS hA (a0_int 21) (by decide +kernel) (by decide +kernel) (by decide +kernel) (by decide +kernel) (by decide +kernel) d_Lines_init_31 (fun a31 H hP hD hS => ?_)
  refine W.widen (k := 4) (n := 117) (by decide +kernel) (by decide +kernel) ?_
  refine va_putF (D := g.1) (ci := 11) (v := .ref a31) (ty := t_Lines 6) (C := "MacroMill$Lines") (T := F_Lines) (N := 19) hx hb htt in_Lines t_Lines t_Lines_ok n_Lines hown hK hP hD hS 0 rfl rfl 6 (by decide) (htt _ k_103) (fun _ h9 => h9) rfl hin rfl (t_Lines_ok 6 (by decide)) rfl rfl (Nat.le_of_ble_eq_true rfl) d_Lines_init_33 (fun H locs hP hD hS => ?_)
  have hP : va_P g.1 classes [(h0, .inr (11, [.null, .null, .null, .ref atf, .ref a15, .ref a23, .ref a31, .null, .null, .null, .null, .int 0, .int 0, .int 0, .int 0, .int 0, .int 0, .int 0, .int 0])), (atf, .inl (g.2 1, 32, .inl (fun _ => 0)))] H := hP
  have hD : va_D A [(h0, .inr (11, [.null, .null, .null, .ref atf, .ref a15, .ref a23, .ref a31, .null, .null, .null, .null, .int 0, .int 0, .int 0, .int 0, .int 0, .int 0, .int 0, .int 0])), (atf, .inl (g.2 1, 32, .inl (fun _ => 0)))] := hD
  refine lv_aload_n hx hb d_Lines_init_36 rfl (lv_at hl 0 rfl) ?_
  refine lv_bipush (v := 21) hx hb d_Lines_init_37 (by decide) ?_
  refine nea0 (g := g) (A := A) (atype := .int) (ty := .int) (a0 := (21, .inl (fun _ => 0))) (N' := 21) hx hb htt 1 rfl no_int k_7 rfl hK hP hD hS hA (a0_int 21) (by decide +kernel) (by decide +kernel) (by decide +kernel) (by decide +kernel) (by decide +kernel) d_Lines_init_39 (fun a39 H hP hD hS => ?_)
  refine W.widen (k := 5) (n := 138) (by decide +kernel) (by decide +kernel) ?_
  refine va_putF (D := g.1) (ci := 11) (v := .ref a39) (ty := t_Lines 7) (C := "MacroMill$Lines") (T := F_Lines) (N := 19) hx hb htt in_Lines t_Lines t_Lines_ok n_Lines hown hK hP hD hS 0 rfl rfl 7 (by decide) (htt _ k_104) (fun _ h9 => h9) rfl hin rfl (t_Lines_ok 7 (by decide)) rfl rfl (Nat.le_of_ble_eq_true rfl) d_Lines_init_41 (fun H locs hP hD hS => ?_)
  have hP : va_P g.1 classes [(h0, .inr (11, [.null, .null, .null, .ref atf, .ref a15, .ref a23, .ref a31, .ref a39, .null, .null, .null, .int 0, .int 0, .int 0, .int 0, .int 0, .int 0, .int 0, .int 0])), (atf, .inl (g.2 1, 32, .inl (fun _ => 0)))] H := hP
  have hD : va_D A [(h0, .inr (11, [.null, .null, .null, .ref atf, .ref a15, .ref a23, .ref a31, .ref a39, .null, .null, .null, .int 0, .int 0, .int 0, .int 0, .int 0, .int 0, .int 0, .int 0])), (atf, .inl (g.2 1, 32, .inl (fun _ => 0)))] := hD
  refine lv_aload_n hx hb d_Lines_init_44 rfl (lv_at hl 0 rfl) ?_
  show W _ _ _ _ _ _ _ _ _ _ _ _ _ _ _ (F0 _ 45 _ _)
  refine lv_bipush (v := 21) hx hb d_Lines_init_45 (by decide) ?_
  refine nea0 (g := g) (A := A) (atype := .int) (ty := .int) (a0 := (21, .inl (fun _ => 0))) (N' := 21) hx hb htt 1 rfl no_int k_7 rfl hK hP hD hS hA (a0_int 21) (by decide +kernel) (by decide +kernel) (by decide +kernel) (by decide +kernel) (by decide +kernel) d_Lines_init_47 (fun a47 H hP hD hS => ?_)
  refine W.widen (k := 6) (n := 159) (by decide +kernel) (by decide +kernel) ?_
  refine va_putF (D := g.1) (ci := 11) (v := .ref a47) (ty := t_Lines 8) (C := "MacroMill$Lines") (T := F_Lines) (N := 19) hx hb htt in_Lines t_Lines t_Lines_ok n_Lines hown hK hP hD hS 0 rfl rfl 8 (by decide) (htt _ k_105) (fun _ h9 => h9) rfl hin rfl (t_Lines_ok 8 (by decide)) rfl rfl (Nat.le_of_ble_eq_true rfl) d_Lines_init_49 (fun H locs hP hD hS => ?_)
  have hP : va_P g.1 classes [(h0, .inr (11, [.null, .null, .null, .ref atf, .ref a15, .ref a23, .ref a31, .ref a39, .ref a47, .null, .null, .int 0, .int 0, .int 0, .int 0, .int 0, .int 0, .int 0, .int 0])), (atf, .inl (g.2 1, 32, .inl (fun _ => 0)))] H := hP
  have hD : va_D A [(h0, .inr (11, [.null, .null, .null, .ref atf, .ref a15, .ref a23, .ref a31, .ref a39, .ref a47, .null, .null, .int 0, .int 0, .int 0, .int 0, .int 0, .int 0, .int 0, .int 0])), (atf, .inl (g.2 1, 32, .inl (fun _ => 0)))] := hD
  refine lv_aload_n hx hb d_Lines_init_52 rfl (lv_at hl 0 rfl) ?_
  refine lv_sipush (v := 1344) hx hb d_Lines_init_53 (by decide) ?_
  refine nea0 (g := g) (A := A) (atype := .byte) (ty := .byte) (a0 := (1344, .inl (fun _ => 0))) (N' := 1344) hx hb htt 0 rfl no_byte k_4 rfl hK hP hD hS hA (a0_byte 1344) (by decide +kernel) (by decide +kernel) (by decide +kernel) (by decide +kernel) (by decide +kernel) d_Lines_init_56 (fun a56 H hP hD hS => ?_)
  refine W.widen (k := 7) (n := 1503) (by decide +kernel) (by decide +kernel) ?_
  refine va_putF (D := g.1) (ci := 11) (v := .ref a56) (ty := t_Lines 9) (C := "MacroMill$Lines") (T := F_Lines) (N := 19) hx hb htt in_Lines t_Lines t_Lines_ok n_Lines hown hK hP hD hS 0 rfl rfl 9 (by decide) (htt _ k_106) (fun _ h9 => h9) rfl hin rfl (t_Lines_ok 9 (by decide)) rfl rfl (Nat.le_of_ble_eq_true rfl) d_Lines_init_58 (fun H locs hP hD hS => ?_)
  have hP : va_P g.1 classes [(h0, .inr (11, [.null, .null, .null, .ref atf, .ref a15, .ref a23, .ref a31, .ref a39, .ref a47, .ref a56, .null, .int 0, .int 0, .int 0, .int 0, .int 0, .int 0, .int 0, .int 0])), (atf, .inl (g.2 1, 32, .inl (fun _ => 0)))] H := hP
  have hD : va_D A [(h0, .inr (11, [.null, .null, .null, .ref atf, .ref a15, .ref a23, .ref a31, .ref a39, .ref a47, .ref a56, .null, .int 0, .int 0, .int 0, .int 0, .int 0, .int 0, .int 0, .int 0])), (atf, .inl (g.2 1, 32, .inl (fun _ => 0)))] := hD
  refine lv_aload_n hx hb d_Lines_init_61 rfl (lv_at hl 0 rfl) ?_
  refine lv_bipush (v := 21) hx hb d_Lines_init_62 (by decide) ?_
  refine nea0 (g := g) (A := A) (atype := .int) (ty := .int) (a0 := (21, .inl (fun _ => 0))) (N' := 21) hx hb htt 1 rfl no_int k_7 rfl hK hP hD hS hA (a0_int 21) (by decide +kernel) (by decide +kernel) (by decide +kernel) (by decide +kernel) (by decide +kernel) d_Lines_init_64 (fun a64 H hP hD hS => ?_)
  refine W.widen (k := 8) (n := 1524) (by decide +kernel) (by decide +kernel) ?_
  refine va_putF (D := g.1) (ci := 11) (v := .ref a64) (ty := t_Lines 10) (C := "MacroMill$Lines") (T := F_Lines) (N := 19) hx hb htt in_Lines t_Lines t_Lines_ok n_Lines hown hK hP hD hS 0 rfl rfl 10 (by decide) (htt _ k_107) (fun _ h9 => h9) rfl hin rfl (t_Lines_ok 10 (by decide)) rfl rfl (Nat.le_of_ble_eq_true rfl) d_Lines_init_66 (fun H locs hP hD hS => ?_)
  have hP : va_P g.1 classes [(h0, .inr (11, [.null, .null, .null, .ref atf, .ref a15, .ref a23, .ref a31, .ref a39, .ref a47, .ref a56, .ref a64, .int 0, .int 0, .int 0, .int 0, .int 0, .int 0, .int 0, .int 0])), (atf, .inl (g.2 1, 32, .inl (fun _ => 0)))] H := hP
  have hD : va_D A [(h0, .inr (11, [.null, .null, .null, .ref atf, .ref a15, .ref a23, .ref a31, .ref a39, .ref a47, .ref a56, .ref a64, .int 0, .int 0, .int 0, .int 0, .int 0, .int 0, .int 0, .int 0])), (atf, .inl (g.2 1, 32, .inl (fun _ => 0)))] := hD
  refine lv_aload_n hx hb d_Lines_init_69 rfl (lv_at hl 0 rfl) ?_
  show W _ _ _ _ _ _ _ _ _ _ _ _ _ _ _ (F0 _ 70 _ _)
  refine lv_aload_n hx hb d_Lines_init_70 rfl (lv_at hl 1 rfl) ?_
  refine va_putF (D := g.1) (ci := 11) (v := .ref o1) (ty := t_Lines 0) (C := "MacroMill$Lines") (T := F_Lines) (N := 19) hx hb htt in_Lines t_Lines t_Lines_ok n_Lines hown hK hP hD hS 0 rfl rfl 0 (by decide) (htt _ k_108) (fun _ h9 => h9) rfl hin rfl (t_Lines_ok 0 (by decide)) rfl rfl (Nat.le_of_ble_eq_true rfl) d_Lines_init_71 (fun H locs hP hD hS => ?_)
  have hP : va_P g.1 classes [(h0, .inr (11, [.ref o1, .null, .null, .ref atf, .ref a15, .ref a23, .ref a31, .ref a39, .ref a47, .ref a56, .ref a64, .int 0, .int 0, .int 0, .int 0, .int 0, .int 0, .int 0, .int 0])), (atf, .inl (g.2 1, 32, .inl (fun _ => 0)))] H := hP
  have hD : va_D A [(h0, .inr (11, [.ref o1, .null, .null, .ref atf, .ref a15, .ref a23, .ref a31, .ref a39, .ref a47, .ref a56, .ref a64, .int 0, .int 0, .int 0, .int 0, .int 0, .int 0, .int 0, .int 0])), (atf, .inl (g.2 1, 32, .inl (fun _ => 0)))] := hD
  refine lv_aload_n hx hb d_Lines_init_74 rfl (lv_at hl 0 rfl) ?_
  refine lv_aload_n hx hb d_Lines_init_75 rfl (lv_at hl 2 rfl) ?_
  refine va_putF (D := g.1) (ci := 11) (v := .ref o2) (ty := t_Lines 1) (C := "MacroMill$Lines") (T := F_Lines) (N := 19) hx hb htt in_Lines t_Lines t_Lines_ok n_Lines hown hK hP hD hS 0 rfl rfl 1 (by decide) (htt _ k_109) (fun _ h9 => h9) rfl hin rfl (t_Lines_ok 1 (by decide)) rfl rfl (Nat.le_of_ble_eq_true rfl) d_Lines_init_76 (fun H locs hP hD hS => ?_)
  have hP : va_P g.1 classes [(h0, .inr (11, [.ref o1, .ref o2, .null, .ref atf, .ref a15, .ref a23, .ref a31, .ref a39, .ref a47, .ref a56, .ref a64, .int 0, .int 0, .int 0, .int 0, .int 0, .int 0, .int 0, .int 0])), (atf, .inl (g.2 1, 32, .inl (fun _ => 0)))] H := hP
  have hD : va_D A [(h0, .inr (11, [.ref o1, .ref o2, .null, .ref atf, .ref a15, .ref a23, .ref a31, .ref a39, .ref a47, .ref a56, .ref a64, .int 0, .int 0, .int 0, .int 0, .int 0, .int 0, .int 0, .int 0])), (atf, .inl (g.2 1, 32, .inl (fun _ => 0)))] := hD
  refine lv_aload_n hx hb d_Lines_init_79 rfl (lv_at hl 0 rfl) ?_
  refine lv_aload_n hx hb d_Lines_init_80 rfl (lv_at hl 3 rfl) ?_
  refine va_putF (D := g.1) (ci := 11) (v := .ref o3) (ty := t_Lines 2) (C := "MacroMill$Lines") (T := F_Lines) (N := 19) hx hb htt in_Lines t_Lines t_Lines_ok n_Lines hown hK hP hD hS 0 rfl rfl 2 (by decide) (htt _ k_110) (fun _ h9 => h9) rfl hin rfl (t_Lines_ok 2 (by decide)) rfl rfl (Nat.le_of_ble_eq_true rfl) d_Lines_init_81 (fun H locs hP hD hS => ?_)
  have hP : va_P g.1 classes [(h0, .inr (11, [.ref o1, .ref o2, .ref o3, .ref atf, .ref a15, .ref a23, .ref a31, .ref a39, .ref a47, .ref a56, .ref a64, .int 0, .int 0, .int 0, .int 0, .int 0, .int 0, .int 0, .int 0])), (atf, .inl (g.2 1, 32, .inl (fun _ => 0)))] H := hP
  have hD : va_D A [(h0, .inr (11, [.ref o1, .ref o2, .ref o3, .ref atf, .ref a15, .ref a23, .ref a31, .ref a39, .ref a47, .ref a56, .ref a64, .int 0, .int 0, .int 0, .int 0, .int 0, .int 0, .int 0, .int 0])), (atf, .inl (g.2 1, 32, .inl (fun _ => 0)))] := hD
  exact fin_v (g := g) (ws := [(h0, .inr (11, [.ref o1, .ref o2, .ref o3, .ref atf, .ref a15, .ref a23, .ref a31, .ref a39, .ref a47, .ref a56, .ref a64, .int 0, .int 0, .int 0, .int 0, .int 0, .int 0, .int 0, .int 0])), (atf, .inl (g.2 1, 32, .inl (fun _ => 0)))]) hx hb hr hlocks (by decide +kernel) (by decide +kernel) hP hD hS ⟨atf, a15, a23, a31, a39, a47, a56, a64, rfl⟩ d_Lines_init_84
abbrev rm_Replacer_init : Room := { frames := 1, cells := 10, slots := 12996, locals := 12 }
set_option maxHeartbeats 4000000 in
set_option maxRecDepth 100000 in
theorem c_Replacer_init (l : Launch) (g : gG) (sz : Nat) (h0 : Nat) (o1 : Nat) (o2 : Nat) (o3 : Nat) (o4 : Nat) : Cv l y_Replacer_init b_Replacer_init 5 rm_Replacer_init g [.ref h0, .ref o1, .ref o2, .ref o3, .ref o4] [(h0, .inr (12, [.null, .null, .null, .null, .null, .null, .null, .null, .null, .null, .null, .null, .null, .null, .int 0, .int 0]))] sz (fun w => ∃ (a8 : Nat) (a17 : Nat) (a26 : Nat) (a35 : Nat) (a44 : Nat) (a53 : Nat) (a62 : Nat) (a70 : Nat) (a78 : Nat) (a86 : Nat), w = [(h0, .inr (12, [.ref o1, .ref o2, .ref o3, .ref o4, .ref a8, .ref a17, .ref a26, .ref a35, .ref a44, .ref a53, .ref a62, .ref a70, .ref a78, .ref a86, .int 0, .int 0]))]) := by
  refine startV (by decide) (Nat.le_of_ble_eq_true rfl) ?_
  intro p e s m below meth c A ls hx hb hr hml hlocks hmn hown htt hN hA hP hK hD hS hl
  have hin : meth.name = "<init>" := hmn
  have hown : s.vm.findClass "MacroMill$Replacer" = some m.cls := hown
  have hl : lv_has ls 5 [(0, .ref h0), (1, .ref o1), (2, .ref o2), (3, .ref o3), (4, .ref o4)] := hl
  refine lv_aload_n hx hb d_Replacer_init_0 rfl (lv_at hl 0 rfl) ?_
  refine W.objInit hx hb hown (htt _ k_111) (htt _ k_1) (htt _ k_2) rfl (by rw [hml]; exact hl.1) rfl d_Replacer_init_1 (Nat.le_of_ble_eq_true rfl) (Nat.le_of_ble_eq_true rfl) ?_
  refine W.eq (g2 := F0 m 4 ls []) rfl ?_
  refine lv_aload_n hx hb d_Replacer_init_4 rfl (lv_at hl 0 rfl) ?_
  refine lv_sipush (v := 1830) hx hb d_Replacer_init_5 (by decide) ?_
  refine nea0 (g := g) (A := A) (atype := .int) (ty := .int) (a0 := (1830, .inl (fun _ => 0))) (N' := 1830) hx hb htt 1 rfl no_int k_7 rfl hK hP hD hS hA (a0_int 1830) (by decide +kernel) (by decide +kernel) (by decide +kernel) (by decide +kernel) (by decide +kernel) d_Replacer_init_8 (fun a8 H hP hD hS => ?_)
  refine W.widen (k := 1) (n := 1830) (by decide +kernel) (by decide +kernel) ?_
  refine va_putF (D := g.1) (ci := 12) (v := .ref a8) (ty := t_Replacer 4) (C := "MacroMill$Replacer") (T := F_Replacer) (N := 16) hx hb htt in_Replacer t_Replacer t_Replacer_ok n_Replacer hown hK hP hD hS 0 rfl rfl 4 (by decide) (htt _ k_112) (fun _ h9 => h9) rfl hin rfl (t_Replacer_ok 4 (by decide)) rfl rfl (Nat.le_of_ble_eq_true rfl) d_Replacer_init_10 (fun H locs hP hD hS => ?_)
  have hP : va_P g.1 classes [(h0, .inr (12, [.null, .null, .null, .null, .ref a8, .null, .null, .null, .null, .null, .null, .null, .null, .null, .int 0, .int 0]))] H := hP
  have hD : va_D A [(h0, .inr (12, [.null, .null, .null, .null, .ref a8, .null, .null, .null, .null, .null, .null, .null, .null, .null, .int 0, .int 0]))] := hD
  refine lv_aload_n hx hb d_Replacer_init_13 rfl (lv_at hl 0 rfl) ?_
  refine lv_sipush (v := 1830) hx hb d_Replacer_init_14 (by decide) ?_
  refine nea0 (g := g) (A := A) (atype := .int) (ty := .int) (a0 := (1830, .inl (fun _ => 0))) (N' := 1830) hx hb htt 1 rfl no_int k_7 rfl hK hP hD hS hA (a0_int 1830) (by decide +kernel) (by decide +kernel) (by decide +kernel) (by decide +kernel) (by decide +kernel) d_Replacer_init_17 (fun a17 H hP hD hS => ?_)
  refine W.widen (k := 2) (n := 3660) (by decide +kernel) (by decide +kernel) ?_
  refine va_putF (D := g.1) (ci := 12) (v := .ref a17) (ty := t_Replacer 5) (C := "MacroMill$Replacer") (T := F_Replacer) (N := 16) hx hb htt in_Replacer t_Replacer t_Replacer_ok n_Replacer hown hK hP hD hS 0 rfl rfl 5 (by decide) (htt _ k_113) (fun _ h9 => h9) rfl hin rfl (t_Replacer_ok 5 (by decide)) rfl rfl (Nat.le_of_ble_eq_true rfl) d_Replacer_init_19 (fun H locs hP hD hS => ?_)
  have hP : va_P g.1 classes [(h0, .inr (12, [.null, .null, .null, .null, .ref a8, .ref a17, .null, .null, .null, .null, .null, .null, .null, .null, .int 0, .int 0]))] H := hP
  have hD : va_D A [(h0, .inr (12, [.null, .null, .null, .null, .ref a8, .ref a17, .null, .null, .null, .null, .null, .null, .null, .null, .int 0, .int 0]))] := hD
  refine lv_aload_n hx hb d_Replacer_init_22 rfl (lv_at hl 0 rfl) ?_
  show W _ _ _ _ _ _ _ _ _ _ _ _ _ _ _ (F0 _ 23 _ _)
  refine lv_sipush (v := 1830) hx hb d_Replacer_init_23 (by decide) ?_
  refine nea0 (g := g) (A := A) (atype := .int) (ty := .int) (a0 := (1830, .inl (fun _ => 0))) (N' := 1830) hx hb htt 1 rfl no_int k_7 rfl hK hP hD hS hA (a0_int 1830) (by decide +kernel) (by decide +kernel) (by decide +kernel) (by decide +kernel) (by decide +kernel) d_Replacer_init_26 (fun a26 H hP hD hS => ?_)
  refine W.widen (k := 3) (n := 5490) (by decide +kernel) (by decide +kernel) ?_
  refine va_putF (D := g.1) (ci := 12) (v := .ref a26) (ty := t_Replacer 6) (C := "MacroMill$Replacer") (T := F_Replacer) (N := 16) hx hb htt in_Replacer t_Replacer t_Replacer_ok n_Replacer hown hK hP hD hS 0 rfl rfl 6 (by decide) (htt _ k_114) (fun _ h9 => h9) rfl hin rfl (t_Replacer_ok 6 (by decide)) rfl rfl (Nat.le_of_ble_eq_true rfl) d_Replacer_init_28 (fun H locs hP hD hS => ?_)
  have hP : va_P g.1 classes [(h0, .inr (12, [.null, .null, .null, .null, .ref a8, .ref a17, .ref a26, .null, .null, .null, .null, .null, .null, .null, .int 0, .int 0]))] H := hP
  have hD : va_D A [(h0, .inr (12, [.null, .null, .null, .null, .ref a8, .ref a17, .ref a26, .null, .null, .null, .null, .null, .null, .null, .int 0, .int 0]))] := hD
  refine lv_aload_n hx hb d_Replacer_init_31 rfl (lv_at hl 0 rfl) ?_
  refine lv_sipush (v := 1830) hx hb d_Replacer_init_32 (by decide) ?_
  refine nea0 (g := g) (A := A) (atype := .int) (ty := .int) (a0 := (1830, .inl (fun _ => 0))) (N' := 1830) hx hb htt 1 rfl no_int k_7 rfl hK hP hD hS hA (a0_int 1830) (by decide +kernel) (by decide +kernel) (by decide +kernel) (by decide +kernel) (by decide +kernel) d_Replacer_init_35 (fun a35 H hP hD hS => ?_)
  refine W.widen (k := 4) (n := 7320) (by decide +kernel) (by decide +kernel) ?_
  refine va_putF (D := g.1) (ci := 12) (v := .ref a35) (ty := t_Replacer 7) (C := "MacroMill$Replacer") (T := F_Replacer) (N := 16) hx hb htt in_Replacer t_Replacer t_Replacer_ok n_Replacer hown hK hP hD hS 0 rfl rfl 7 (by decide) (htt _ k_115) (fun _ h9 => h9) rfl hin rfl (t_Replacer_ok 7 (by decide)) rfl rfl (Nat.le_of_ble_eq_true rfl) d_Replacer_init_37 (fun H locs hP hD hS => ?_)
  have hP : va_P g.1 classes [(h0, .inr (12, [.null, .null, .null, .null, .ref a8, .ref a17, .ref a26, .ref a35, .null, .null, .null, .null, .null, .null, .int 0, .int 0]))] H := hP
  have hD : va_D A [(h0, .inr (12, [.null, .null, .null, .null, .ref a8, .ref a17, .ref a26, .ref a35, .null, .null, .null, .null, .null, .null, .int 0, .int 0]))] := hD
  refine lv_aload_n hx hb d_Replacer_init_40 rfl (lv_at hl 0 rfl) ?_
  refine lv_sipush (v := 1830) hx hb d_Replacer_init_41 (by decide) ?_
  refine nea0 (g := g) (A := A) (atype := .int) (ty := .int) (a0 := (1830, .inl (fun _ => 0))) (N' := 1830) hx hb htt 1 rfl no_int k_7 rfl hK hP hD hS hA (a0_int 1830) (by decide +kernel) (by decide +kernel) (by decide +kernel) (by decide +kernel) (by decide +kernel) d_Replacer_init_44 (fun a44 H hP hD hS => ?_)
  refine W.widen (k := 5) (n := 9150) (by decide +kernel) (by decide +kernel) ?_
  refine va_putF (D := g.1) (ci := 12) (v := .ref a44) (ty := t_Replacer 8) (C := "MacroMill$Replacer") (T := F_Replacer) (N := 16) hx hb htt in_Replacer t_Replacer t_Replacer_ok n_Replacer hown hK hP hD hS 0 rfl rfl 8 (by decide) (htt _ k_116) (fun _ h9 => h9) rfl hin rfl (t_Replacer_ok 8 (by decide)) rfl rfl (Nat.le_of_ble_eq_true rfl) d_Replacer_init_46 (fun H locs hP hD hS => ?_)
  have hP : va_P g.1 classes [(h0, .inr (12, [.null, .null, .null, .null, .ref a8, .ref a17, .ref a26, .ref a35, .ref a44, .null, .null, .null, .null, .null, .int 0, .int 0]))] H := hP
  have hD : va_D A [(h0, .inr (12, [.null, .null, .null, .null, .ref a8, .ref a17, .ref a26, .ref a35, .ref a44, .null, .null, .null, .null, .null, .int 0, .int 0]))] := hD
  refine lv_aload_n hx hb d_Replacer_init_49 rfl (lv_at hl 0 rfl) ?_
  show W _ _ _ _ _ _ _ _ _ _ _ _ _ _ _ (F0 _ 50 _ _)
  refine lv_sipush (v := 1830) hx hb d_Replacer_init_50 (by decide) ?_
  refine nea0 (g := g) (A := A) (atype := .int) (ty := .int) (a0 := (1830, .inl (fun _ => 0))) (N' := 1830) hx hb htt 1 rfl no_int k_7 rfl hK hP hD hS hA (a0_int 1830) (by decide +kernel) (by decide +kernel) (by decide +kernel) (by decide +kernel) (by decide +kernel) d_Replacer_init_53 (fun a53 H hP hD hS => ?_)
  refine W.widen (k := 6) (n := 10980) (by decide +kernel) (by decide +kernel) ?_
  refine va_putF (D := g.1) (ci := 12) (v := .ref a53) (ty := t_Replacer 9) (C := "MacroMill$Replacer") (T := F_Replacer) (N := 16) hx hb htt in_Replacer t_Replacer t_Replacer_ok n_Replacer hown hK hP hD hS 0 rfl rfl 9 (by decide) (htt _ k_117) (fun _ h9 => h9) rfl hin rfl (t_Replacer_ok 9 (by decide)) rfl rfl (Nat.le_of_ble_eq_true rfl) d_Replacer_init_55 (fun H locs hP hD hS => ?_)
  have hP : va_P g.1 classes [(h0, .inr (12, [.null, .null, .null, .null, .ref a8, .ref a17, .ref a26, .ref a35, .ref a44, .ref a53, .null, .null, .null, .null, .int 0, .int 0]))] H := hP
  have hD : va_D A [(h0, .inr (12, [.null, .null, .null, .null, .ref a8, .ref a17, .ref a26, .ref a35, .ref a44, .ref a53, .null, .null, .null, .null, .int 0, .int 0]))] := hD
  refine lv_aload_n hx hb d_Replacer_init_58 rfl (lv_at hl 0 rfl) ?_
  refine lv_sipush (v := 1830) hx hb d_Replacer_init_59 (by decide) ?_
  refine nea0 (g := g) (A := A) (atype := .int) (ty := .int) (a0 := (1830, .inl (fun _ => 0))) (N' := 1830) hx hb htt 1 rfl no_int k_7 rfl hK hP hD hS hA (a0_int 1830) (by decide +kernel) (by decide +kernel) (by decide +kernel) (by decide +kernel) (by decide +kernel) d_Replacer_init_62 (fun a62 H hP hD hS => ?_)
  refine W.widen (k := 7) (n := 12810) (by decide +kernel) (by decide +kernel) ?_
  refine va_putF (D := g.1) (ci := 12) (v := .ref a62) (ty := t_Replacer 10) (C := "MacroMill$Replacer") (T := F_Replacer) (N := 16) hx hb htt in_Replacer t_Replacer t_Replacer_ok n_Replacer hown hK hP hD hS 0 rfl rfl 10 (by decide) (htt _ k_118) (fun _ h9 => h9) rfl hin rfl (t_Replacer_ok 10 (by decide)) rfl rfl (Nat.le_of_ble_eq_true rfl) d_Replacer_init_64 (fun H locs hP hD hS => ?_)
  have hP : va_P g.1 classes [(h0, .inr (12, [.null, .null, .null, .null, .ref a8, .ref a17, .ref a26, .ref a35, .ref a44, .ref a53, .ref a62, .null, .null, .null, .int 0, .int 0]))] H := hP
  have hD : va_D A [(h0, .inr (12, [.null, .null, .null, .null, .ref a8, .ref a17, .ref a26, .ref a35, .ref a44, .ref a53, .ref a62, .null, .null, .null, .int 0, .int 0]))] := hD
  refine lv_aload_n hx hb d_Replacer_init_67 rfl (lv_at hl 0 rfl) ?_
  refine lv_bipush (v := 62) hx hb d_Replacer_init_68 (by decide) ?_
  refine nea0 (g := g) (A := A) (atype := .int) (ty := .int) (a0 := (62, .inl (fun _ => 0))) (N' := 62) hx hb htt 1 rfl no_int k_7 rfl hK hP hD hS hA (a0_int 62) (by decide +kernel) (by decide +kernel) (by decide +kernel) (by decide +kernel) (by decide +kernel) d_Replacer_init_70 (fun a70 H hP hD hS => ?_)
  refine W.widen (k := 8) (n := 12872) (by decide +kernel) (by decide +kernel) ?_
  refine va_putF (D := g.1) (ci := 12) (v := .ref a70) (ty := t_Replacer 11) (C := "MacroMill$Replacer") (T := F_Replacer) (N := 16) hx hb htt in_Replacer t_Replacer t_Replacer_ok n_Replacer hown hK hP hD hS 0 rfl rfl 11 (by decide) (htt _ k_119) (fun _ h9 => h9) rfl hin rfl (t_Replacer_ok 11 (by decide)) rfl rfl (Nat.le_of_ble_eq_true rfl) d_Replacer_init_72 (fun H locs hP hD hS => ?_)
  have hP : va_P g.1 classes [(h0, .inr (12, [.null, .null, .null, .null, .ref a8, .ref a17, .ref a26, .ref a35, .ref a44, .ref a53, .ref a62, .ref a70, .null, .null, .int 0, .int 0]))] H := hP
  have hD : va_D A [(h0, .inr (12, [.null, .null, .null, .null, .ref a8, .ref a17, .ref a26, .ref a35, .ref a44, .ref a53, .ref a62, .ref a70, .null, .null, .int 0, .int 0]))] := hD
  refine lv_aload_n hx hb d_Replacer_init_75 rfl (lv_at hl 0 rfl) ?_
  show W _ _ _ _ _ _ _ _ _ _ _ _ _ _ _ (F0 _ 76 _ _)
  refine lv_bipush (v := 62) hx hb d_Replacer_init_76 (by decide) ?_
  refine nea0 (g := g) (A := A) (atype := .int) (ty := .int) (a0 := (62, .inl (fun _ => 0))) (N' := 62) hx hb htt 1 rfl no_int k_7 rfl hK hP hD hS hA (a0_int 62) (by decide +kernel) (by decide +kernel) (by decide +kernel) (by decide +kernel) (by decide +kernel) d_Replacer_init_78 (fun a78 H hP hD hS => ?_)
  refine W.widen (k := 9) (n := 12934) (by decide +kernel) (by decide +kernel) ?_
  refine va_putF (D := g.1) (ci := 12) (v := .ref a78) (ty := t_Replacer 12) (C := "MacroMill$Replacer") (T := F_Replacer) (N := 16) hx hb htt in_Replacer t_Replacer t_Replacer_ok n_Replacer hown hK hP hD hS 0 rfl rfl 12 (by decide) (htt _ k_120) (fun _ h9 => h9) rfl hin rfl (t_Replacer_ok 12 (by decide)) rfl rfl (Nat.le_of_ble_eq_true rfl) d_Replacer_init_80 (fun H locs hP hD hS => ?_)
  have hP : va_P g.1 classes [(h0, .inr (12, [.null, .null, .null, .null, .ref a8, .ref a17, .ref a26, .ref a35, .ref a44, .ref a53, .ref a62, .ref a70, .ref a78, .null, .int 0, .int 0]))] H := hP
  have hD : va_D A [(h0, .inr (12, [.null, .null, .null, .null, .ref a8, .ref a17, .ref a26, .ref a35, .ref a44, .ref a53, .ref a62, .ref a70, .ref a78, .null, .int 0, .int 0]))] := hD
  refine lv_aload_n hx hb d_Replacer_init_83 rfl (lv_at hl 0 rfl) ?_
  refine lv_bipush (v := 62) hx hb d_Replacer_init_84 (by decide) ?_
  refine nea0 (g := g) (A := A) (atype := .int) (ty := .int) (a0 := (62, .inl (fun _ => 0))) (N' := 62) hx hb htt 1 rfl no_int k_7 rfl hK hP hD hS hA (a0_int 62) (by decide +kernel) (by decide +kernel) (by decide +kernel) (by decide +kernel) (by decide +kernel) d_Replacer_init_86 (fun a86 H hP hD hS => ?_)
  refine W.widen (k := 10) (n := 12996) (by decide +kernel) (by decide +kernel) ?_
  refine va_putF (D := g.1) (ci := 12) (v := .ref a86) (ty := t_Replacer 13) (C := "MacroMill$Replacer") (T := F_Replacer) (N := 16) hx hb htt in_Replacer t_Replacer t_Replacer_ok n_Replacer hown hK hP hD hS 0 rfl rfl 13 (by decide) (htt _ k_121) (fun _ h9 => h9) rfl hin rfl (t_Replacer_ok 13 (by decide)) rfl rfl (Nat.le_of_ble_eq_true rfl) d_Replacer_init_88 (fun H locs hP hD hS => ?_)
  have hP : va_P g.1 classes [(h0, .inr (12, [.null, .null, .null, .null, .ref a8, .ref a17, .ref a26, .ref a35, .ref a44, .ref a53, .ref a62, .ref a70, .ref a78, .ref a86, .int 0, .int 0]))] H := hP
  have hD : va_D A [(h0, .inr (12, [.null, .null, .null, .null, .ref a8, .ref a17, .ref a26, .ref a35, .ref a44, .ref a53, .ref a62, .ref a70, .ref a78, .ref a86, .int 0, .int 0]))] := hD
  refine lv_aload_n hx hb d_Replacer_init_91 rfl (lv_at hl 0 rfl) ?_
  refine lv_aload_n hx hb d_Replacer_init_92 rfl (lv_at hl 1 rfl) ?_
  refine va_putF (D := g.1) (ci := 12) (v := .ref o1) (ty := t_Replacer 0) (C := "MacroMill$Replacer") (T := F_Replacer) (N := 16) hx hb htt in_Replacer t_Replacer t_Replacer_ok n_Replacer hown hK hP hD hS 0 rfl rfl 0 (by decide) (htt _ k_122) (fun _ h9 => h9) rfl hin rfl (t_Replacer_ok 0 (by decide)) rfl rfl (Nat.le_of_ble_eq_true rfl) d_Replacer_init_93 (fun H locs hP hD hS => ?_)
  have hP : va_P g.1 classes [(h0, .inr (12, [.ref o1, .null, .null, .null, .ref a8, .ref a17, .ref a26, .ref a35, .ref a44, .ref a53, .ref a62, .ref a70, .ref a78, .ref a86, .int 0, .int 0]))] H := hP
  have hD : va_D A [(h0, .inr (12, [.ref o1, .null, .null, .null, .ref a8, .ref a17, .ref a26, .ref a35, .ref a44, .ref a53, .ref a62, .ref a70, .ref a78, .ref a86, .int 0, .int 0]))] := hD
  refine lv_aload_n hx hb d_Replacer_init_96 rfl (lv_at hl 0 rfl) ?_
  refine lv_aload_n hx hb d_Replacer_init_97 rfl (lv_at hl 2 rfl) ?_
  show W _ _ _ _ _ _ _ _ _ _ _ _ _ _ _ (F0 _ 98 _ _)
  refine va_putF (D := g.1) (ci := 12) (v := .ref o2) (ty := t_Replacer 1) (C := "MacroMill$Replacer") (T := F_Replacer) (N := 16) hx hb htt in_Replacer t_Replacer t_Replacer_ok n_Replacer hown hK hP hD hS 0 rfl rfl 1 (by decide) (htt _ k_123) (fun _ h9 => h9) rfl hin rfl (t_Replacer_ok 1 (by decide)) rfl rfl (Nat.le_of_ble_eq_true rfl) d_Replacer_init_98 (fun H locs hP hD hS => ?_)
  have hP : va_P g.1 classes [(h0, .inr (12, [.ref o1, .ref o2, .null, .null, .ref a8, .ref a17, .ref a26, .ref a35, .ref a44, .ref a53, .ref a62, .ref a70, .ref a78, .ref a86, .int 0, .int 0]))] H := hP
  have hD : va_D A [(h0, .inr (12, [.ref o1, .ref o2, .null, .null, .ref a8, .ref a17, .ref a26, .ref a35, .ref a44, .ref a53, .ref a62, .ref a70, .ref a78, .ref a86, .int 0, .int 0]))] := hD
  refine lv_aload_n hx hb d_Replacer_init_101 rfl (lv_at hl 0 rfl) ?_
  refine lv_aload_n hx hb d_Replacer_init_102 rfl (lv_at hl 3 rfl) ?_
  refine va_putF (D := g.1) (ci := 12) (v := .ref o3) (ty := t_Replacer 2) (C := "MacroMill$Replacer") (T := F_Replacer) (N := 16) hx hb htt in_Replacer t_Replacer t_Replacer_ok n_Replacer hown hK hP hD hS 0 rfl rfl 2 (by decide) (htt _ k_124) (fun _ h9 => h9) rfl hin rfl (t_Replacer_ok 2 (by decide)) rfl rfl (Nat.le_of_ble_eq_true rfl) d_Replacer_init_103 (fun H locs hP hD hS => ?_)
  have hP : va_P g.1 classes [(h0, .inr (12, [.ref o1, .ref o2, .ref o3, .null, .ref a8, .ref a17, .ref a26, .ref a35, .ref a44, .ref a53, .ref a62, .ref a70, .ref a78, .ref a86, .int 0, .int 0]))] H := hP
  have hD : va_D A [(h0, .inr (12, [.ref o1, .ref o2, .ref o3, .null, .ref a8, .ref a17, .ref a26, .ref a35, .ref a44, .ref a53, .ref a62, .ref a70, .ref a78, .ref a86, .int 0, .int 0]))] := hD
  refine lv_aload_n hx hb d_Replacer_init_106 rfl (lv_at hl 0 rfl) ?_
  refine lv_aload hx hb d_Replacer_init_107 (lv_at hl 4 rfl) ?_
  refine va_putF (D := g.1) (ci := 12) (v := .ref o4) (ty := t_Replacer 3) (C := "MacroMill$Replacer") (T := F_Replacer) (N := 16) hx hb htt in_Replacer t_Replacer t_Replacer_ok n_Replacer hown hK hP hD hS 0 rfl rfl 3 (by decide) (htt _ k_125) (fun _ h9 => h9) rfl hin rfl (t_Replacer_ok 3 (by decide)) rfl rfl (Nat.le_of_ble_eq_true rfl) d_Replacer_init_109 (fun H locs hP hD hS => ?_)
  have hP : va_P g.1 classes [(h0, .inr (12, [.ref o1, .ref o2, .ref o3, .ref o4, .ref a8, .ref a17, .ref a26, .ref a35, .ref a44, .ref a53, .ref a62, .ref a70, .ref a78, .ref a86, .int 0, .int 0]))] H := hP
  have hD : va_D A [(h0, .inr (12, [.ref o1, .ref o2, .ref o3, .ref o4, .ref a8, .ref a17, .ref a26, .ref a35, .ref a44, .ref a53, .ref a62, .ref a70, .ref a78, .ref a86, .int 0, .int 0]))] := hD
  exact fin_v (g := g) (ws := [(h0, .inr (12, [.ref o1, .ref o2, .ref o3, .ref o4, .ref a8, .ref a17, .ref a26, .ref a35, .ref a44, .ref a53, .ref a62, .ref a70, .ref a78, .ref a86, .int 0, .int 0]))]) hx hb hr hlocks (by decide +kernel) (by decide +kernel) hP hD hS ⟨a8, a17, a26, a35, a44, a53, a62, a70, a78, a86, rfl⟩ d_Replacer_init_112
