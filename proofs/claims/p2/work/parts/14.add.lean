/-- a new file: its title, its length, its bytes behind all others -/
def addF (S : sS) (cnt b n len : Nat) : sS :=
  putI (putA (setF (putA (setF S 2 (va_cpy (S.2.1 0) (S.2.1 2) 0 (cnt * 64) n)) 3 cnt (nI n)) 1 (va_cpy (S.2.1 0) (S.2.1 1) n b (len - n))) 4 (cnt + 1) (nI (b + len - n))) 1 4 (nI (cnt + 1))

theorem d_Files_add_0 : decode b_Files_add 0 = .ok (.aload_n 0, 1) := by decide +kernel
theorem d_Files_add_1 : decode b_Files_add 1 = .ok (.getfield 26, 3) := by decide +kernel
theorem d_Files_add_4 : decode b_Files_add 4 = .ok (.bipush 32, 2) := by decide +kernel
theorem d_Files_add_6 : decode b_Files_add 6 = .ok (.if_icmp .ge 21, 3) := by decide +kernel
theorem d_Files_add_9 : decode b_Files_add 9 = .ok (.aload_n 0, 1) := by decide +kernel
theorem d_Files_add_10 : decode b_Files_add 10 = .ok (.getfield 23, 3) := by decide +kernel
theorem d_Files_add_13 : decode b_Files_add 13 = .ok (.aload_n 0, 1) := by decide +kernel
theorem d_Files_add_14 : decode b_Files_add 14 = .ok (.getfield 26, 3) := by decide +kernel
theorem d_Files_add_17 : decode b_Files_add 17 = .ok (.iaload, 1) := by decide +kernel
theorem d_Files_add_18 : decode b_Files_add 18 = .ok (.iload_n 3, 1) := by decide +kernel
theorem d_Files_add_19 : decode b_Files_add 19 = .ok (.iadd, 1) := by decide +kernel
theorem d_Files_add_20 : decode b_Files_add 20 = .ok (.iload_n 2, 1) := by decide +kernel
theorem d_Files_add_21 : decode b_Files_add 21 = .ok (.isub, 1) := by decide +kernel
theorem d_Files_add_22 : decode b_Files_add 22 = .ok (.ldc 11, 2) := by decide +kernel
theorem d_Files_add_24 : decode b_Files_add 24 = .ok (.if_icmp .le 5, 3) := by decide +kernel
theorem d_Files_add_27 : decode b_Files_add 27 = .ok (.iconst 0, 1) := by decide +kernel
theorem d_Files_add_28 : decode b_Files_add 28 = .ok (.ireturn, 1) := by decide +kernel
theorem d_Files_add_29 : decode b_Files_add 29 = .ok (.aload_n 1, 1) := by decide +kernel
theorem d_Files_add_30 : decode b_Files_add 30 = .ok (.iconst 0, 1) := by decide +kernel
theorem d_Files_add_31 : decode b_Files_add 31 = .ok (.aload_n 0, 1) := by decide +kernel
theorem d_Files_add_32 : decode b_Files_add 32 = .ok (.getfield 16, 3) := by decide +kernel
theorem d_Files_add_35 : decode b_Files_add 35 = .ok (.aload_n 0, 1) := by decide +kernel
theorem d_Files_add_36 : decode b_Files_add 36 = .ok (.getfield 26, 3) := by decide +kernel
theorem d_Files_add_39 : decode b_Files_add 39 = .ok (.bipush 64, 2) := by decide +kernel
theorem d_Files_add_41 : decode b_Files_add 41 = .ok (.imul, 1) := by decide +kernel
theorem d_Files_add_42 : decode b_Files_add 42 = .ok (.iload_n 2, 1) := by decide +kernel
theorem d_Files_add_43 : decode b_Files_add 43 = .ok (.invokestatic 34, 3) := by decide +kernel
theorem d_Files_add_46 : decode b_Files_add 46 = .ok (.aload_n 0, 1) := by decide +kernel
theorem d_Files_add_47 : decode b_Files_add 47 = .ok (.getfield 19, 3) := by decide +kernel
theorem d_Files_add_50 : decode b_Files_add 50 = .ok (.aload_n 0, 1) := by decide +kernel
theorem d_Files_add_51 : decode b_Files_add 51 = .ok (.getfield 26, 3) := by decide +kernel
theorem d_Files_add_54 : decode b_Files_add 54 = .ok (.iload_n 2, 1) := by decide +kernel
theorem d_Files_add_55 : decode b_Files_add 55 = .ok (.iastore, 1) := by decide +kernel
theorem d_Files_add_56 : decode b_Files_add 56 = .ok (.aload_n 1, 1) := by decide +kernel
theorem d_Files_add_57 : decode b_Files_add 57 = .ok (.iload_n 2, 1) := by decide +kernel
theorem d_Files_add_58 : decode b_Files_add 58 = .ok (.aload_n 0, 1) := by decide +kernel
theorem d_Files_add_59 : decode b_Files_add 59 = .ok (.getfield 12, 3) := by decide +kernel
theorem d_Files_add_62 : decode b_Files_add 62 = .ok (.aload_n 0, 1) := by decide +kernel
theorem d_Files_add_63 : decode b_Files_add 63 = .ok (.getfield 23, 3) := by decide +kernel
theorem d_Files_add_66 : decode b_Files_add 66 = .ok (.aload_n 0, 1) := by decide +kernel
theorem d_Files_add_67 : decode b_Files_add 67 = .ok (.getfield 26, 3) := by decide +kernel
theorem d_Files_add_70 : decode b_Files_add 70 = .ok (.iaload, 1) := by decide +kernel
theorem d_Files_add_71 : decode b_Files_add 71 = .ok (.iload_n 3, 1) := by decide +kernel
theorem d_Files_add_72 : decode b_Files_add 72 = .ok (.iload_n 2, 1) := by decide +kernel
theorem d_Files_add_73 : decode b_Files_add 73 = .ok (.isub, 1) := by decide +kernel
theorem d_Files_add_74 : decode b_Files_add 74 = .ok (.invokestatic 34, 3) := by decide +kernel
theorem d_Files_add_77 : decode b_Files_add 77 = .ok (.aload_n 0, 1) := by decide +kernel
theorem d_Files_add_78 : decode b_Files_add 78 = .ok (.getfield 23, 3) := by decide +kernel
theorem d_Files_add_81 : decode b_Files_add 81 = .ok (.aload_n 0, 1) := by decide +kernel
theorem d_Files_add_82 : decode b_Files_add 82 = .ok (.getfield 26, 3) := by decide +kernel
theorem d_Files_add_85 : decode b_Files_add 85 = .ok (.iconst 1, 1) := by decide +kernel
theorem d_Files_add_86 : decode b_Files_add 86 = .ok (.iadd, 1) := by decide +kernel
theorem d_Files_add_87 : decode b_Files_add 87 = .ok (.aload_n 0, 1) := by decide +kernel
theorem d_Files_add_88 : decode b_Files_add 88 = .ok (.getfield 23, 3) := by decide +kernel
theorem d_Files_add_91 : decode b_Files_add 91 = .ok (.aload_n 0, 1) := by decide +kernel
theorem d_Files_add_92 : decode b_Files_add 92 = .ok (.getfield 26, 3) := by decide +kernel
theorem d_Files_add_95 : decode b_Files_add 95 = .ok (.iaload, 1) := by decide +kernel
theorem d_Files_add_96 : decode b_Files_add 96 = .ok (.iload_n 3, 1) := by decide +kernel
theorem d_Files_add_97 : decode b_Files_add 97 = .ok (.iadd, 1) := by decide +kernel
theorem d_Files_add_98 : decode b_Files_add 98 = .ok (.iload_n 2, 1) := by decide +kernel
theorem d_Files_add_99 : decode b_Files_add 99 = .ok (.isub, 1) := by decide +kernel
theorem d_Files_add_100 : decode b_Files_add 100 = .ok (.iastore, 1) := by decide +kernel
theorem d_Files_add_101 : decode b_Files_add 101 = .ok (.aload_n 0, 1) := by decide +kernel
theorem d_Files_add_102 : decode b_Files_add 102 = .ok (.dup, 1) := by decide +kernel
theorem d_Files_add_103 : decode b_Files_add 103 = .ok (.getfield 26, 3) := by decide +kernel
theorem d_Files_add_106 : decode b_Files_add 106 = .ok (.iconst 1, 1) := by decide +kernel
theorem d_Files_add_107 : decode b_Files_add 107 = .ok (.iadd, 1) := by decide +kernel
theorem d_Files_add_108 : decode b_Files_add 108 = .ok (.putfield 26, 3) := by decide +kernel
theorem d_Files_add_111 : decode b_Files_add 111 = .ok (.iconst 1, 1) := by decide +kernel
theorem d_Files_add_112 : decode b_Files_add 112 = .ok (.ireturn, 1) := by decide +kernel
abbrev rm_c_add : Room := { frames := 1, cells := 0, slots := 0, locals := 18 }
set_option maxHeartbeats 4000000 in
set_option maxRecDepth 100000 in
theorem c_add (l : Launch) (g : gG) (sz : Nat) (ad : Nat → Nat) (S : sS) (cnt : Nat) (b : Nat) (n : Nat) (len : Nat) (hc : S.1 1 4 = nI cnt) (hc2 : cnt ≤ 32) (hs : S.2.1 4 cnt = nI b) (hb2 : b ≤ 32768) (hn1 : n ≤ 64) (hn2 : n ≤ len) (hl2 : len ≤ 16384) (hf : ∀ i, fits .byte (.int (S.2.1 0 i)) = true) : Cz l y_Files_add b_Files_add 4 rm_c_add g [.ref (ad 1), .ref (ad 13), .int (nI n), .int (nI len)] (Sw shC g ad S) sz (fun r w => ∃ S' : sS, w = Sw shC g ad S' ∧ (r = 0 ∧ S' = S ∧ (32 ≤ cnt ∨ 32768 < b + len - n) ∨ r = 1 ∧ cnt < 32 ∧ b + len - n ≤ 32768 ∧ S' = addF S cnt b n len)) := by
  refine startZ (by decide) (Nat.le_of_ble_eq_true rfl) ?_
  intro p e s m below meth c A ls hx hb hr hml hlocks hmn hown htt hN hA hP hK hD hS hl
  have hown : s.vm.findClass "MacroMill$Files" = some m.cls := hown
  have hl : lv_has ls 4 [(0, .ref (ad 1)), (1, .ref (ad 13)), (2, .int (nI n)), (3, .int (nI len))] := hl
  refine lv_aload_n hx hb d_Files_add_0 rfl (lv_at hl 0 rfl) ?_
  refine S_getI (h := shC) (C := "MacroMill$Files") (T := F_Files) hx hb htt in_Files hown hK hP 1 4 rfl rfl rfl (by decide) (htt _ k_311) (fun _ h9 => h9) d_Files_add_1 ?_
  refine toI (y := nI cnt) hc ?_
  refine lv_bipush (v := 32) hx hb d_Files_add_4 (by decide) ?_
  refine lv_icmp_ge (tgt := 27) hx hb d_Files_add_6 (by decide) (fun h1 => ?_) (fun h1 => ?_)
  · have h3 : 32 ≤ cnt := nI_le_of (a := 32) (by decide) (by omega) h1
    refine lv_iconst (v := 0) hx hb d_Files_add_27 (by decide) ?_
    exact fin_z (g := g) (ws := Sw shC g ad S) (v := 0) hx hb hr hlocks rfl (by decide +kernel) (by decide +kernel) hP hD hS ⟨S, rfl, Or.inl ⟨rfl, rfl, Or.inl h3⟩⟩ d_Files_add_28
  · have h3 : cnt < 32 := nI_lt_of (b := 32) (by omega) (by decide) h1
    refine lv_aload_n hx hb d_Files_add_9 rfl (lv_at hl 0 rfl) ?_
    refine S_getR (h := shC) (C := "MacroMill$Files") (T := F_Files) hx hb htt in_Files hown hK hP 1 3 rfl 17 rfl rfl (by decide) (htt _ k_308) (fun _ h9 => h9) d_Files_add_10 ?_
    refine lv_aload_n hx hb d_Files_add_13 rfl (lv_at hl 0 rfl) ?_
    refine S_getI (h := shC) (C := "MacroMill$Files") (T := F_Files) hx hb htt in_Files hown hK hP 1 4 rfl rfl rfl (by decide) (htt _ k_311) (fun _ h9 => h9) d_Files_add_14 ?_
    refine toI (y := nI cnt) hc ?_
    refine S_iald (h := shC) (i := nI cnt) hx hb hK hP 4 rfl (vp_in_nI (by omega) (by decide)) d_Files_add_17 ?_
    refine toI (y := nI b) (by rw [nI_clamp (by omega)]; exact hs) ?_
    refine lv_iload_n hx hb d_Files_add_18 rfl (lv_at hl 3 rfl) ?_
    refine lv_iadd hx hb d_Files_add_19 ?_
    refine toI (y := nI (b + len)) (nI_add b len) ?_
    show W _ _ _ _ _ _ _ _ _ _ _ _ _ _ _ (F0 _ 20 _ _)
    refine lv_iload_n hx hb d_Files_add_20 rfl (lv_at hl 2 rfl) ?_
    refine lv_isub hx hb d_Files_add_21 ?_
    refine toI (y := nI (b + len - n)) (pk_sub (by omega)) ?_
    refine lv_ldc (v := 32768) hx hb hown (htt _ k_300) d_Files_add_22 ?_
    refine lv_icmp_le (tgt := 29) hx hb d_Files_add_24 (by decide) (fun h2 => ?_) (fun h2 => ?_)
    · have h4 : b + len - n ≤ 32768 := nI_le_of (b := 32768) (by omega) (by decide) h2
      refine lv_aload_n hx hb d_Files_add_29 rfl (lv_at hl 1 rfl) ?_
      refine lv_iconst (v := 0) hx hb d_Files_add_30 (by decide) ?_
      refine lv_aload_n hx hb d_Files_add_31 rfl (lv_at hl 0 rfl) ?_
      refine S_getR (h := shC) (C := "MacroMill$Files") (T := F_Files) hx hb htt in_Files hown hK hP 1 1 rfl 15 rfl rfl (by decide) (htt _ k_304) (fun _ h9 => h9) d_Files_add_32 ?_
      refine lv_aload_n hx hb d_Files_add_35 rfl (lv_at hl 0 rfl) ?_
      refine S_getI (h := shC) (C := "MacroMill$Files") (T := F_Files) hx hb htt in_Files hown hK hP 1 4 rfl rfl rfl (by decide) (htt _ k_311) (fun _ h9 => h9) d_Files_add_36 ?_
      refine toI (y := nI cnt) hc ?_
      refine lv_bipush (v := 64) hx hb d_Files_add_39 (by decide) ?_
      refine lv_imul hx hb d_Files_add_41 ?_
      refine toI (y := nI (cnt * 64)) (pk_mul cnt 64) ?_
      show W _ _ _ _ _ _ _ _ _ _ _ _ _ _ _ (F0 _ 42 _ _)
      refine lv_iload_n hx hb d_Files_add_42 rfl (lv_at hl 2 rfl) ?_
      refine S_copyB (h := shC) (sp := 0) (dp := cnt * 64) (n := n) hx hb (hml.trans hl.1.symm) htt hown k_1017 k_1019 k_1018 k_277 hK hP hD hS 0 2 rfl rfl (by decide) (by decide) (by omega) (by omega) (fun i _ => hf _) (by decide +kernel) (by decide +kernel) d_Files_add_43 (fun H locs hP hD hS => ?_)
      refine lv_aload_n hx hb d_Files_add_46 rfl (lv_at hl 0 rfl) ?_
      refine S_getR (h := shC) (C := "MacroMill$Files") (T := F_Files) hx hb htt in_Files hown hK hP 1 2 rfl 16 rfl rfl (by decide) (htt _ k_306) (fun _ h9 => h9) d_Files_add_47 ?_
      refine lv_aload_n hx hb d_Files_add_50 rfl (lv_at hl 0 rfl) ?_
      refine S_getI (h := shC) (C := "MacroMill$Files") (T := F_Files) hx hb htt in_Files hown hK hP 1 4 rfl rfl rfl (by decide) (htt _ k_311) (fun _ h9 => h9) d_Files_add_51 ?_
      refine toI (y := nI cnt) hc ?_
      refine lv_iload_n hx hb d_Files_add_54 rfl (lv_at hl 2 rfl) ?_
      refine S_iast (h := shC) (i := nI cnt) (v := nI n) hx hb hK hP hD hS 3 rfl (vp_in_nI (by omega) (by decide)) d_Files_add_55 (fun H locs hP hD hS => ?_)
      rw [nI_clamp (by omega)] at hP hD
      refine lv_aload_n hx hb d_Files_add_56 rfl (lv_at hl 1 rfl) ?_
      refine lv_iload_n hx hb d_Files_add_57 rfl (lv_at hl 2 rfl) ?_
      refine lv_aload_n hx hb d_Files_add_58 rfl (lv_at hl 0 rfl) ?_
      refine S_getR (h := shC) (C := "MacroMill$Files") (T := F_Files) hx hb htt in_Files hown hK hP 1 0 rfl 14 rfl rfl (by decide) (htt _ k_301) (fun _ h9 => h9) d_Files_add_59 ?_
      show W _ _ _ _ _ _ _ _ _ _ _ _ _ _ _ (F0 _ 62 _ _)
      refine lv_aload_n hx hb d_Files_add_62 rfl (lv_at hl 0 rfl) ?_
      refine S_getR (h := shC) (C := "MacroMill$Files") (T := F_Files) hx hb htt in_Files hown hK hP 1 3 rfl 17 rfl rfl (by decide) (htt _ k_308) (fun _ h9 => h9) d_Files_add_63 ?_
      refine lv_aload_n hx hb d_Files_add_66 rfl (lv_at hl 0 rfl) ?_
      refine S_getI (h := shC) (C := "MacroMill$Files") (T := F_Files) hx hb htt in_Files hown hK hP 1 4 rfl rfl rfl (by decide) (htt _ k_311) (fun _ h9 => h9) d_Files_add_67 ?_
      refine toI (y := nI cnt) hc ?_
      refine S_iald (h := shC) (i := nI cnt) hx hb hK hP 4 rfl (vp_in_nI (by omega) (by decide)) d_Files_add_70 ?_
      refine toI (y := nI b) (by rw [nI_clamp (by omega)]; exact hs) ?_
      refine lv_iload_n hx hb d_Files_add_71 rfl (lv_at hl 3 rfl) ?_
      refine lv_iload_n hx hb d_Files_add_72 rfl (lv_at hl 2 rfl) ?_
      refine lv_isub hx hb d_Files_add_73 ?_
      refine toI (y := nI (len - n)) (pk_sub (by omega)) ?_
      refine S_copyB (h := shC) (sp := n) (dp := b) (n := len - n) hx hb (hml.trans hl.1.symm) htt hown k_1017 k_1019 k_1018 k_277 hK hP hD hS 0 1 rfl rfl (by decide) (by decide) (by omega) (by omega) (fun i _ => hf _) (by decide +kernel) (by decide +kernel) d_Files_add_74 (fun H locs hP hD hS => ?_)
      refine lv_aload_n hx hb d_Files_add_77 rfl (lv_at hl 0 rfl) ?_
      refine S_getR (h := shC) (C := "MacroMill$Files") (T := F_Files) hx hb htt in_Files hown hK hP 1 3 rfl 17 rfl rfl (by decide) (htt _ k_308) (fun _ h9 => h9) d_Files_add_78 ?_
      refine lv_aload_n hx hb d_Files_add_81 rfl (lv_at hl 0 rfl) ?_
      show W _ _ _ _ _ _ _ _ _ _ _ _ _ _ _ (F0 _ 82 _ _)
      refine S_getI (h := shC) (C := "MacroMill$Files") (T := F_Files) hx hb htt in_Files hown hK hP 1 4 rfl rfl rfl (by decide) (htt _ k_311) (fun _ h9 => h9) d_Files_add_82 ?_
      refine toI (y := nI cnt) hc ?_
      refine lv_iconst (v := 1) hx hb d_Files_add_85 (by decide) ?_
      refine lv_iadd hx hb d_Files_add_86 ?_
      refine toI (y := nI (cnt + 1)) (nI_1 cnt) ?_
      refine lv_aload_n hx hb d_Files_add_87 rfl (lv_at hl 0 rfl) ?_
      refine S_getR (h := shC) (C := "MacroMill$Files") (T := F_Files) hx hb htt in_Files hown hK hP 1 3 rfl 17 rfl rfl (by decide) (htt _ k_308) (fun _ h9 => h9) d_Files_add_88 ?_
      refine lv_aload_n hx hb d_Files_add_91 rfl (lv_at hl 0 rfl) ?_
      refine S_getI (h := shC) (C := "MacroMill$Files") (T := F_Files) hx hb htt in_Files hown hK hP 1 4 rfl rfl rfl (by decide) (htt _ k_311) (fun _ h9 => h9) d_Files_add_92 ?_
      refine toI (y := nI cnt) hc ?_
      refine S_iald (h := shC) (i := nI cnt) hx hb hK hP 4 rfl (vp_in_nI (by omega) (by decide)) d_Files_add_95 ?_
      refine toI (y := nI b) (by rw [nI_clamp (by omega)]; exact hs) ?_
      refine lv_iload_n hx hb d_Files_add_96 rfl (lv_at hl 3 rfl) ?_
      refine lv_iadd hx hb d_Files_add_97 ?_
      refine toI (y := nI (b + len)) (nI_add b len) ?_
      refine lv_iload_n hx hb d_Files_add_98 rfl (lv_at hl 2 rfl) ?_
      refine lv_isub hx hb d_Files_add_99 ?_
      refine toI (y := nI (b + len - n)) (pk_sub (by omega)) ?_
      show W _ _ _ _ _ _ _ _ _ _ _ _ _ _ _ (F0 _ 100 _ _)
      refine S_iast (h := shC) (i := nI (cnt + 1)) (v := nI (b + len - n)) hx hb hK hP hD hS 4 rfl (vp_in_nI (by omega) (by decide)) d_Files_add_100 (fun H locs hP hD hS => ?_)
      rw [nI_clamp (by omega)] at hP hD
      refine lv_aload_n hx hb d_Files_add_101 rfl (lv_at hl 0 rfl) ?_
      refine lv_dup hx hb d_Files_add_102 rfl ?_
      refine S_getI (h := shC) (C := "MacroMill$Files") (T := F_Files) hx hb htt in_Files hown hK hP 1 4 rfl rfl rfl (by decide) (htt _ k_311) (fun _ h9 => h9) d_Files_add_103 ?_
      refine toI (y := nI cnt) hc ?_
      refine lv_iconst (v := 1) hx hb d_Files_add_106 (by decide) ?_
      refine lv_iadd hx hb d_Files_add_107 ?_
      refine toI (y := nI (cnt + 1)) (nI_1 cnt) ?_
      refine S_put (h := shC) (C := "MacroMill$Files") (T := F_Files) (v := nI (cnt + 1)) hx hb htt in_Files t_Files t_Files_ok n_Files hown hK hP hD hS 1 4 rfl rfl rfl (by decide) (htt _ k_311) (fun _ h9 => h9) rfl rfl rfl d_Files_add_108 (fun H locs hP hD hS => ?_)
      refine lv_iconst (v := 1) hx hb d_Files_add_111 (by decide) ?_
      exact fin_z (g := g) (ws := Sw shC g ad (putI (putA (setF (putA (setF S 2 (va_cpy (S.2.1 0) (S.2.1 2) 0 (cnt * 64) n)) 3 cnt (nI n)) 1 (va_cpy ((putA (setF S 2 (va_cpy (S.2.1 0) (S.2.1 2) 0 (cnt * 64) n)) 3 cnt (nI n)).2.1 0) ((putA (setF S 2 (va_cpy (S.2.1 0) (S.2.1 2) 0 (cnt * 64) n)) 3 cnt (nI n)).2.1 1) n b (len - n))) 4 (cnt + 1) (nI (b + len - n))) 1 4 (nI (cnt + 1)))) (v := 1) hx hb hr hlocks rfl (by decide +kernel) (by decide +kernel) hP hD hS ⟨_, rfl, Or.inr ⟨rfl, h3, h4, rfl⟩⟩ d_Files_add_112
    · have h4 : 32768 < b + len - n := nI_lt_of (a := 32768) (by decide) (by omega) h2
      refine lv_iconst (v := 0) hx hb d_Files_add_27 (by decide) ?_
      exact fin_z (g := g) (ws := Sw shC g ad S) (v := 0) hx hb hr hlocks rfl (by decide +kernel) (by decide +kernel) hP hD hS ⟨S, rfl, Or.inl ⟨rfl, rfl, Or.inr h4⟩⟩ d_Files_add_28
