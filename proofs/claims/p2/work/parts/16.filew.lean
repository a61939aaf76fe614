
theorem d_MM_file_0 : decode b_MM_file 0 = .ok (.aload_n 0, 1) := by decide +kernel
theorem d_MM_file_1 : decode b_MM_file 1 = .ok (.invokevirtual 60, 3) := by decide +kernel
theorem d_MM_file_4 : decode b_MM_file 4 = .ok (.istore_n 2, 1) := by decide +kernel
theorem d_MM_file_5 : decode b_MM_file 5 = .ok (.iload_n 1, 1) := by decide +kernel
theorem d_MM_file_6 : decode b_MM_file 6 = .ok (.iconst 1, 1) := by decide +kernel
theorem d_MM_file_7 : decode b_MM_file 7 = .ok (.if_icmp .lt 14, 3) := by decide +kernel
theorem d_MM_file_10 : decode b_MM_file 10 = .ok (.iload_n 1, 1) := by decide +kernel
theorem d_MM_file_11 : decode b_MM_file 11 = .ok (.bipush 64, 2) := by decide +kernel
theorem d_MM_file_13 : decode b_MM_file 13 = .ok (.if_icmp .gt 8, 3) := by decide +kernel
theorem d_MM_file_16 : decode b_MM_file 16 = .ok (.iload_n 1, 1) := by decide +kernel
theorem d_MM_file_17 : decode b_MM_file 17 = .ok (.iload_n 2, 1) := by decide +kernel
theorem d_MM_file_18 : decode b_MM_file 18 = .ok (.if_icmp .le 5, 3) := by decide +kernel
theorem d_MM_file_21 : decode b_MM_file 21 = .ok (.iconst (-1), 1) := by decide +kernel
theorem d_MM_file_22 : decode b_MM_file 22 = .ok (.ireturn, 1) := by decide +kernel
theorem d_MM_file_23 : decode b_MM_file 23 = .ok (.aload_n 0, 1) := by decide +kernel
theorem d_MM_file_24 : decode b_MM_file 24 = .ok (.getfield 16, 3) := by decide +kernel
theorem d_MM_file_27 : decode b_MM_file 27 = .ok (.aload_n 0, 1) := by decide +kernel
theorem d_MM_file_28 : decode b_MM_file 28 = .ok (.getfield 9, 3) := by decide +kernel
theorem d_MM_file_31 : decode b_MM_file 31 = .ok (.iload_n 1, 1) := by decide +kernel
theorem d_MM_file_32 : decode b_MM_file 32 = .ok (.invokevirtual 64, 3) := by decide +kernel
theorem d_MM_file_35 : decode b_MM_file 35 = .ok (.ifCond .lt 6, 3) := by decide +kernel
theorem d_MM_file_38 : decode b_MM_file 38 = .ok (.bipush (-3), 2) := by decide +kernel
theorem d_MM_file_40 : decode b_MM_file 40 = .ok (.ireturn, 1) := by decide +kernel
theorem d_MM_file_41 : decode b_MM_file 41 = .ok (.aload_n 0, 1) := by decide +kernel
theorem d_MM_file_42 : decode b_MM_file 42 = .ok (.getfield 16, 3) := by decide +kernel
theorem d_MM_file_45 : decode b_MM_file 45 = .ok (.aload_n 0, 1) := by decide +kernel
theorem d_MM_file_46 : decode b_MM_file 46 = .ok (.getfield 9, 3) := by decide +kernel
theorem d_MM_file_49 : decode b_MM_file 49 = .ok (.iload_n 1, 1) := by decide +kernel
theorem d_MM_file_50 : decode b_MM_file 50 = .ok (.iload_n 2, 1) := by decide +kernel
theorem d_MM_file_51 : decode b_MM_file 51 = .ok (.invokevirtual 68, 3) := by decide +kernel
theorem d_MM_file_54 : decode b_MM_file 54 = .ok (.ifCond .eq 15, 3) := by decide +kernel
theorem d_MM_file_57 : decode b_MM_file 57 = .ok (.aload_n 0, 1) := by decide +kernel
theorem d_MM_file_58 : decode b_MM_file 58 = .ok (.getfield 16, 3) := by decide +kernel
theorem d_MM_file_61 : decode b_MM_file 61 = .ok (.getfield 72, 3) := by decide +kernel
theorem d_MM_file_64 : decode b_MM_file 64 = .ok (.iconst 1, 1) := by decide +kernel
theorem d_MM_file_65 : decode b_MM_file 65 = .ok (.isub, 1) := by decide +kernel
theorem d_MM_file_66 : decode b_MM_file 66 = .ok (.goto 5, 3) := by decide +kernel
theorem d_MM_file_69 : decode b_MM_file 69 = .ok (.bipush (-4), 2) := by decide +kernel
theorem d_MM_file_71 : decode b_MM_file 71 = .ok (.ireturn, 1) := by decide +kernel
theorem d_MM_write_0 : decode b_MM_write 0 = .ok (.aload_n 0, 1) := by decide +kernel
theorem d_MM_write_1 : decode b_MM_write 1 = .ok (.invokevirtual 60, 3) := by decide +kernel
theorem d_MM_write_4 : decode b_MM_write 4 = .ok (.istore_n 2, 1) := by decide +kernel
theorem d_MM_write_5 : decode b_MM_write 5 = .ok (.iload_n 1, 1) := by decide +kernel
theorem d_MM_write_6 : decode b_MM_write 6 = .ok (.ifCond .lt 14, 3) := by decide +kernel
theorem d_MM_write_9 : decode b_MM_write 9 = .ok (.iload_n 1, 1) := by decide +kernel
theorem d_MM_write_10 : decode b_MM_write 10 = .ok (.aload_n 0, 1) := by decide +kernel
theorem d_MM_write_11 : decode b_MM_write 11 = .ok (.getfield 16, 3) := by decide +kernel
theorem d_MM_write_14 : decode b_MM_write 14 = .ok (.getfield 72, 3) := by decide +kernel
theorem d_MM_write_17 : decode b_MM_write 17 = .ok (.if_icmp .lt 5, 3) := by decide +kernel
theorem d_MM_write_20 : decode b_MM_write 20 = .ok (.iconst (-1), 1) := by decide +kernel
theorem d_MM_write_21 : decode b_MM_write 21 = .ok (.ireturn, 1) := by decide +kernel
theorem d_MM_write_22 : decode b_MM_write 22 = .ok (.aload_n 0, 1) := by decide +kernel
theorem d_MM_write_23 : decode b_MM_write 23 = .ok (.getfield 16, 3) := by decide +kernel
theorem d_MM_write_26 : decode b_MM_write 26 = .ok (.iload_n 1, 1) := by decide +kernel
theorem d_MM_write_27 : decode b_MM_write 27 = .ok (.aload_n 0, 1) := by decide +kernel
theorem d_MM_write_28 : decode b_MM_write 28 = .ok (.getfield 9, 3) := by decide +kernel
theorem d_MM_write_31 : decode b_MM_write 31 = .ok (.iload_n 2, 1) := by decide +kernel
theorem d_MM_write_32 : decode b_MM_write 32 = .ok (.invokevirtual 75, 3) := by decide +kernel
theorem d_MM_write_35 : decode b_MM_write 35 = .ok (.ifCond .eq 14, 3) := by decide +kernel
theorem d_MM_write_38 : decode b_MM_write 38 = .ok (.aload_n 0, 1) := by decide +kernel
theorem d_MM_write_39 : decode b_MM_write 39 = .ok (.getfield 16, 3) := by decide +kernel
theorem d_MM_write_42 : decode b_MM_write 42 = .ok (.iload_n 1, 1) := by decide +kernel
theorem d_MM_write_43 : decode b_MM_write 43 = .ok (.invokevirtual 79, 3) := by decide +kernel
theorem d_MM_write_46 : decode b_MM_write 46 = .ok (.goto 5, 3) := by decide +kernel
theorem d_MM_write_49 : decode b_MM_write 49 = .ok (.bipush (-4), 2) := by decide +kernel
theorem d_MM_write_51 : decode b_MM_write 51 = .ok (.ireturn, 1) := by decide +kernel
abbrev rm_c_fileBad : Room := { frames := 1, cells := 0, slots := 0, locals := 21 }
set_option maxHeartbeats 4000000 in
set_option maxRecDepth 100000 in
theorem c_fileBad (l : Launch) (g : gG) (sz : Nat) (ad : Nat → Nat) (S : sS) (len : Nat) (v1 : Int32) (hs0 : S.1 0 1 = nI len) (hl2 : len ≤ 16384) (hv : v1 < 1 ∨ 64 < v1 ∨ ¬ v1 ≤ nI len) : Ci l y_MM_file b_MM_file 3 rm_c_fileBad g [.ref (ad 0), .int v1] (Sw shC g ad S) sz (fun r w => ∃ S' : sS, w = Sw shC g ad S' ∧ r = (-1) ∧ S' = (putI (putI S 0 1 0) 0 2 0)) := by
  refine startI (by decide) (Nat.le_of_ble_eq_true rfl) ?_
  intro p e s m below meth c A ls hx hb hr hml hlocks hmn hown htt hN hA hP hK hD hS hl
  have hown : s.vm.findClass "MacroMill" = some m.cls := hown
  have hl : lv_has ls 3 [(0, .ref (ad 0)), (1, .int v1)] := hl
  refine lv_aload_n hx hb d_MM_file_0 rfl (lv_at hl 0 rfl) ?_
  refine go_iS (As := [.ref (ad 0)]) (g := g) (A := A) (h := shC) hP hK hD hS hA hN (fun hp => va_runV (As := []) (rest := []) ⟨hx, hb, hml, hown, htt⟩ (c_use l g _ ad S) ⟨(cb_L htt k_1005 k_262 k_1002 hd_MM_useTape ⟨(by decide +kernel), (by decide +kernel)⟩), htt _ k_1004, htt _ k_1⟩ ⟨hp.1, S_recv hK hP 0 rfl rfl, hp.2⟩ rfl rfl hl.1 rfl (lv_room (Nat.le_of_ble_eq_true rfl)) d_MM_file_1 ⟨(by decide +kernel), (by decide +kernel)⟩) (fun r9 Sn H locs hw9 hP hD hS => ?_)
  obtain ⟨rfl, rfl⟩ := hw9
  refine W.widen (k := 0) (n := 0) (by decide +kernel) (by decide +kernel) ?_
  refine toI (y := nI len) hs0 ?_
  refine lv_istore_n (lv' := [(2, .int (nI len)), (0, .ref (ad 0)), (1, .int v1)]) hx hb d_MM_file_4 rfl hl (by decide) rfl (fun ls hl => ?_)
  refine lv_iload_n hx hb d_MM_file_5 rfl (lv_at hl 2 rfl) ?_
  refine lv_iconst (v := 1) hx hb d_MM_file_6 (by decide) ?_
  refine lv_icmp_lt (tgt := 21) hx hb d_MM_file_7 (by decide) (fun h1 => ?_) (fun h1 => ?_)
  · refine lv_iconst (v := (-1)) hx hb d_MM_file_21 (by decide) ?_
    exact fin_i (g := g) (ws := Sw shC g ad (putI (putI S 0 1 0) 0 2 0)) (v := (-1)) hx hb hr hlocks (by decide +kernel) (by decide +kernel) hP hD hS ⟨_, rfl, rfl, rfl⟩ d_MM_file_22
  · refine lv_iload_n hx hb d_MM_file_10 rfl (lv_at hl 2 rfl) ?_
    refine lv_bipush (v := 64) hx hb d_MM_file_11 (by decide) ?_
    refine lv_icmp_gt (tgt := 21) hx hb d_MM_file_13 (by decide) (fun h2 => ?_) (fun h2 => ?_)
    · refine lv_iconst (v := (-1)) hx hb d_MM_file_21 (by decide) ?_
      exact fin_i (g := g) (ws := Sw shC g ad (putI (putI S 0 1 0) 0 2 0)) (v := (-1)) hx hb hr hlocks (by decide +kernel) (by decide +kernel) hP hD hS ⟨_, rfl, rfl, rfl⟩ d_MM_file_22
    · refine lv_iload_n hx hb d_MM_file_16 rfl (lv_at hl 2 rfl) ?_
      refine lv_iload_n hx hb d_MM_file_17 rfl (lv_at hl 0 rfl) ?_
      show W _ _ _ _ _ _ _ _ _ _ _ _ _ _ _ (F0 _ 18 _ _)
      refine lv_icmp_le (tgt := 23) hx hb d_MM_file_18 (by decide) (fun h9 => absurd h9 ((hv.resolve_left h1).resolve_left h2)) (fun _ => ?_)
      refine lv_iconst (v := (-1)) hx hb d_MM_file_21 (by decide) ?_
      exact fin_i (g := g) (ws := Sw shC g ad (putI (putI S 0 1 0) 0 2 0)) (v := (-1)) hx hb hr hlocks (by decide +kernel) (by decide +kernel) hP hD hS ⟨_, rfl, rfl, rfl⟩ d_MM_file_22
abbrev rm_c_fileOk : Room := { frames := 2, cells := 0, slots := 0, locals := 48 }
set_option maxHeartbeats 4000000 in
set_option maxRecDepth 100000 in
theorem c_fileOk (l : Launch) (g : gG) (sz : Nat) (ad : Nat → Nat) (S : sS) (len : Nat) (cnt : Nat) (b : Nat) (n : Nat) (hs0 : S.1 0 1 = nI len) (hl2 : len ≤ 16384) (hc : S.1 1 4 = nI cnt) (hc2 : cnt ≤ 32) (hs : S.2.1 4 cnt = nI b) (hb2 : b ≤ 32768) (hn0 : 1 ≤ n) (hn1 : n ≤ 64) (hn2 : n ≤ len) (hf : ∀ i, fits .byte (.int (S.2.1 0 i)) = true) : Ci l y_MM_file b_MM_file 3 rm_c_fileOk g [.ref (ad 0), .int (nI n)] (Sw shC g ad S) sz (fun r w => ∃ S' : sS, w = Sw shC g ad S' ∧ ((∃ i, i < cnt ∧ (S.2.1 3 i = nI n ∧ ∀ k2, k2 < n → S.2.1 2 (i * 64 + k2) = S.2.1 0 (0 + k2))) ∧ r = (-3) ∧ S' = (putI (putI S 0 1 0) 0 2 0) ∨ (∀ k, k < cnt → ¬ (S.2.1 3 k = nI n ∧ ∀ k2, k2 < n → S.2.1 2 (k * 64 + k2) = S.2.1 0 (0 + k2))) ∧ (32 ≤ cnt ∨ 32768 < b + len - n) ∧ r = (-4) ∧ S' = (putI (putI S 0 1 0) 0 2 0) ∨ (∀ k, k < cnt → ¬ (S.2.1 3 k = nI n ∧ ∀ k2, k2 < n → S.2.1 2 (k * 64 + k2) = S.2.1 0 (0 + k2))) ∧ cnt < 32 ∧ b + len - n ≤ 32768 ∧ r = nI cnt ∧ S' = addF (putI (putI S 0 1 0) 0 2 0) cnt b n len)) := by
  refine startI (by decide) (Nat.le_of_ble_eq_true rfl) ?_
  intro p e s m below meth c A ls hx hb hr hml hlocks hmn hown htt hN hA hP hK hD hS hl
  have hown : s.vm.findClass "MacroMill" = some m.cls := hown
  have hl : lv_has ls 3 [(0, .ref (ad 0)), (1, .int (nI n))] := hl
  refine lv_aload_n hx hb d_MM_file_0 rfl (lv_at hl 0 rfl) ?_
  refine go_iS (As := [.ref (ad 0)]) (g := g) (A := A) (h := shC) hP hK hD hS hA hN (fun hp => va_runV (As := []) (rest := []) ⟨hx, hb, hml, hown, htt⟩ (c_use l g _ ad S) ⟨(cb_L htt k_1005 k_262 k_1002 hd_MM_useTape ⟨(by decide +kernel), (by decide +kernel)⟩), htt _ k_1004, htt _ k_1⟩ ⟨hp.1, S_recv hK hP 0 rfl rfl, hp.2⟩ rfl rfl hl.1 rfl (lv_room (Nat.le_of_ble_eq_true rfl)) d_MM_file_1 ⟨(by decide +kernel), (by decide +kernel)⟩) (fun r9 Sn H locs hw9 hP hD hS => ?_)
  obtain ⟨rfl, rfl⟩ := hw9
  refine W.widen (k := 0) (n := 0) (by decide +kernel) (by decide +kernel) ?_
  refine toI (y := nI len) hs0 ?_
  refine lv_istore_n (lv' := [(2, .int (nI len)), (0, .ref (ad 0)), (1, .int (nI n))]) hx hb d_MM_file_4 rfl hl (by decide) rfl (fun ls hl => ?_)
  refine lv_iload_n hx hb d_MM_file_5 rfl (lv_at hl 2 rfl) ?_
  refine lv_iconst (v := 1) hx hb d_MM_file_6 (by decide) ?_
  refine lv_icmp_lt (tgt := 21) hx hb d_MM_file_7 (by decide) (fun h9 => absurd h9 (nI_nlt (b := 1) hn0 (by omega))) (fun _ => ?_)
  refine lv_iload_n hx hb d_MM_file_10 rfl (lv_at hl 2 rfl) ?_
  refine lv_bipush (v := 64) hx hb d_MM_file_11 (by decide) ?_
  refine lv_icmp_gt (tgt := 21) hx hb d_MM_file_13 (by decide) (fun h9 => absurd h9 (nI_nlt (a := 64) hn1 (by decide))) (fun _ => ?_)
  refine lv_iload_n hx hb d_MM_file_16 rfl (lv_at hl 2 rfl) ?_
  refine lv_iload_n hx hb d_MM_file_17 rfl (lv_at hl 0 rfl) ?_
  show W _ _ _ _ _ _ _ _ _ _ _ _ _ _ _ (F0 _ 18 _ _)
  refine lv_icmp_le (tgt := 23) hx hb d_MM_file_18 (by decide) (fun _ => ?_) (fun h9 => absurd (nI_le hn2 (by omega)) h9)
  refine lv_aload_n hx hb d_MM_file_23 rfl (lv_at hl 1 rfl) ?_
  refine S_getR (h := shC) (C := "MacroMill") (T := F_MM) hx hb htt in_MM hown hK hP 0 3 rfl 1 rfl rfl (by decide) (htt _ k_967) (fun _ h9 => h9) d_MM_file_24 ?_
  refine lv_aload_n hx hb d_MM_file_27 rfl (lv_at hl 1 rfl) ?_
  refine S_getR (h := shC) (C := "MacroMill") (T := F_MM) hx hb htt in_MM hown hK hP 0 0 rfl 13 rfl rfl (by decide) (htt _ k_964) (fun _ h9 => h9) d_MM_file_28 ?_
  refine lv_iload_n hx hb d_MM_file_31 rfl (lv_at hl 2 rfl) ?_
  refine go_iS (As := [.ref (ad 1), .ref (ad 13), .int (nI n)]) (g := g) (A := A) (h := shC) hP hK hD hS hA hN (fun hp => va_runV (As := [.ref (ad 13), .int (nI n)]) (rest := []) ⟨hx, hb, hml, hown, htt⟩ (c_find l g _ ad (putI (putI S 0 1 0) 0 2 0) 0 16384 n cnt rfl (by omega) (by omega) (by omega) hc hc2) ⟨(cb_L htt k_1009 k_263 k_1006 hd_Files_find ⟨(by decide +kernel), (by decide +kernel)⟩), htt _ k_1007, htt _ k_1008⟩ ⟨hp.1, S_recv hK hP 1 rfl rfl, hp.2⟩ rfl rfl hl.1 rfl (lv_room (Nat.le_of_ble_eq_true rfl)) d_MM_file_32 ⟨(by decide +kernel), (by decide +kernel)⟩) (fun r9 Sn_2 H locs hw9 hP hD hS => ?_)
  obtain ⟨e9, hr9⟩ := hw9
  rw [e9] at hP hD
  refine W.widen (k := 0) (n := 0) (by decide +kernel) (by decide +kernel) ?_
  rcases hr9 with hr9 | hr9
  · obtain ⟨i5, hi5, e5, hz5⟩ := hr9
    refine toI (y := nI i5) e5 ?_
    refine lv_if_lt (tgt := 41) hx hb d_MM_file_35 (by decide) (fun h9 => absurd h9 (nI_pos (by omega))) (fun _ => ?_)
    refine lv_bipush (v := (-3)) hx hb d_MM_file_38 (by decide) ?_
    exact fin_i (g := g) (ws := Sw shC g ad (putI (putI S 0 1 0) 0 2 0)) (v := (-3)) hx hb hr hlocks (by decide +kernel) (by decide +kernel) hP hD hS ⟨_, rfl, Or.inl ⟨⟨i5, hi5, hz5⟩, rfl, rfl⟩⟩ d_MM_file_40
  · refine toI (y := (-1)) hr9.1 ?_
    have hno := hr9.2
    refine lv_if_lt (tgt := 41) hx hb d_MM_file_35 (by decide) (fun _ => ?_) (fun h9 => absurd (by decide) h9)
    refine lv_aload_n hx hb d_MM_file_41 rfl (lv_at hl 1 rfl) ?_
    refine S_getR (h := shC) (C := "MacroMill") (T := F_MM) hx hb htt in_MM hown hK hP 0 3 rfl 1 rfl rfl (by decide) (htt _ k_967) (fun _ h9 => h9) d_MM_file_42 ?_
    refine lv_aload_n hx hb d_MM_file_45 rfl (lv_at hl 1 rfl) ?_
    refine S_getR (h := shC) (C := "MacroMill") (T := F_MM) hx hb htt in_MM hown hK hP 0 0 rfl 13 rfl rfl (by decide) (htt _ k_964) (fun _ h9 => h9) d_MM_file_46 ?_
    show W _ _ _ _ _ _ _ _ _ _ _ _ _ _ _ (F0 _ 49 _ _)
    refine lv_iload_n hx hb d_MM_file_49 rfl (lv_at hl 2 rfl) ?_
    refine lv_iload_n hx hb d_MM_file_50 rfl (lv_at hl 0 rfl) ?_
    refine go_iS (As := [.ref (ad 1), .ref (ad 13), .int (nI n), .int (nI len)]) (g := g) (A := A) (h := shC) hP hK hD hS hA hN (fun hp => va_runV (As := [.ref (ad 13), .int (nI n), .int (nI len)]) (rest := []) ⟨hx, hb, hml, hown, htt⟩ (c_add l g _ ad (putI (putI S 0 1 0) 0 2 0) cnt b n len hc hc2 hs hb2 hn1 hn2 hl2 hf) ⟨(cb_L htt k_1016 k_263 k_1013 hd_Files_add ⟨(by decide +kernel), (by decide +kernel)⟩), htt _ k_1014, htt _ k_1015⟩ ⟨hp.1, S_recv hK hP 1 rfl rfl, hp.2⟩ rfl rfl hl.1 rfl (lv_room (Nat.le_of_ble_eq_true rfl)) d_MM_file_51 ⟨(by decide +kernel), (by decide +kernel)⟩) (fun r9 Sn_3 H locs hw9 hP hD hS => ?_)
    have hr9 := hw9
    refine W.widen (k := 0) (n := 0) (by decide +kernel) (by decide +kernel) ?_
    rcases hr9 with hr9 | hr9
    · refine toI (y := 0) hr9.1 ?_
      rw [hr9.2.1] at hP hD
      refine lv_if_eq (tgt := 69) hx hb d_MM_file_54 (by decide) (fun _ => ?_) (fun h9 => absurd rfl h9)
      refine lv_bipush (v := (-4)) hx hb d_MM_file_69 (by decide) ?_
      exact fin_i (g := g) (ws := Sw shC g ad (putI (putI S 0 1 0) 0 2 0)) (v := (-4)) hx hb hr hlocks (by decide +kernel) (by decide +kernel) hP hD hS ⟨_, rfl, Or.inr (Or.inl ⟨hno, hr9.2.2, rfl, rfl⟩)⟩ d_MM_file_71
    · refine toI (y := 1) hr9.1 ?_
      rw [hr9.2.2.2] at hP hD
      refine lv_if_eq (tgt := 69) hx hb d_MM_file_54 (by decide) (fun h9 => absurd h9 (by decide)) (fun _ => ?_)
      refine lv_aload_n hx hb d_MM_file_57 rfl (lv_at hl 1 rfl) ?_
      refine S_getR (h := shC) (C := "MacroMill") (T := F_MM) hx hb htt in_MM hown hK hP 0 3 rfl 1 rfl rfl (by decide) (htt _ k_967) (fun _ h9 => h9) d_MM_file_58 ?_
      refine S_getI (h := shC) (C := "MacroMill$Files") (T := F_Files) hx hb htt in_Files hown hK hP 1 4 rfl rfl rfl (by decide) (htt _ k_312) (fun _ h9 => h9) d_MM_file_61 ?_
      refine toI (y := nI (cnt + 1)) rfl ?_
      refine lv_iconst (v := 1) hx hb d_MM_file_64 (by decide) ?_
      refine lv_isub hx hb d_MM_file_65 ?_
      refine toI (y := nI cnt) (nI_pred cnt) ?_
      refine lv_goto (tgt := 71) hx hb d_MM_file_66 (by decide) ?_
      exact fin_i (g := g) (ws := Sw shC g ad (addF (putI (putI S 0 1 0) 0 2 0) cnt b n len)) (v := nI cnt) hx hb hr hlocks (by decide +kernel) (by decide +kernel) hP hD hS ⟨_, rfl, Or.inr (Or.inr ⟨hno, hr9.2.1, hr9.2.2.1, rfl, rfl⟩)⟩ d_MM_file_71
abbrev rm_c_writeBad : Room := { frames := 1, cells := 0, slots := 0, locals := 21 }
set_option maxHeartbeats 4000000 in
set_option maxRecDepth 100000 in
theorem c_writeBad (l : Launch) (g : gG) (sz : Nat) (ad : Nat → Nat) (S : sS) (len : Nat) (cnt : Nat) (v1 : Int32) (hs0 : S.1 0 1 = nI len) (hl2 : len ≤ 16384) (hc : S.1 1 4 = nI cnt) (hv : v1 < 0 ∨ ¬ v1 < nI cnt) : Ci l y_MM_write b_MM_write 3 rm_c_writeBad g [.ref (ad 0), .int v1] (Sw shC g ad S) sz (fun r w => ∃ S' : sS, w = Sw shC g ad S' ∧ r = (-1) ∧ S' = (putI (putI S 0 1 0) 0 2 0)) := by
  refine startI (by decide) (Nat.le_of_ble_eq_true rfl) ?_
  intro p e s m below meth c A ls hx hb hr hml hlocks hmn hown htt hN hA hP hK hD hS hl
  have hown : s.vm.findClass "MacroMill" = some m.cls := hown
  have hl : lv_has ls 3 [(0, .ref (ad 0)), (1, .int v1)] := hl
  refine lv_aload_n hx hb d_MM_write_0 rfl (lv_at hl 0 rfl) ?_
  refine go_iS (As := [.ref (ad 0)]) (g := g) (A := A) (h := shC) hP hK hD hS hA hN (fun hp => va_runV (As := []) (rest := []) ⟨hx, hb, hml, hown, htt⟩ (c_use l g _ ad S) ⟨(cb_L htt k_1005 k_262 k_1002 hd_MM_useTape ⟨(by decide +kernel), (by decide +kernel)⟩), htt _ k_1004, htt _ k_1⟩ ⟨hp.1, S_recv hK hP 0 rfl rfl, hp.2⟩ rfl rfl hl.1 rfl (lv_room (Nat.le_of_ble_eq_true rfl)) d_MM_write_1 ⟨(by decide +kernel), (by decide +kernel)⟩) (fun r9 Sn H locs hw9 hP hD hS => ?_)
  obtain ⟨rfl, rfl⟩ := hw9
  refine W.widen (k := 0) (n := 0) (by decide +kernel) (by decide +kernel) ?_
  refine toI (y := nI len) hs0 ?_
  refine lv_istore_n (lv' := [(2, .int (nI len)), (0, .ref (ad 0)), (1, .int v1)]) hx hb d_MM_write_4 rfl hl (by decide) rfl (fun ls hl => ?_)
  refine lv_iload_n hx hb d_MM_write_5 rfl (lv_at hl 2 rfl) ?_
  refine lv_if_lt (tgt := 20) hx hb d_MM_write_6 (by decide) (fun h1 => ?_) (fun h1 => ?_)
  · refine lv_iconst (v := (-1)) hx hb d_MM_write_20 (by decide) ?_
    exact fin_i (g := g) (ws := Sw shC g ad (putI (putI S 0 1 0) 0 2 0)) (v := (-1)) hx hb hr hlocks (by decide +kernel) (by decide +kernel) hP hD hS ⟨_, rfl, rfl, rfl⟩ d_MM_write_21
  · refine lv_iload_n hx hb d_MM_write_9 rfl (lv_at hl 2 rfl) ?_
    refine lv_aload_n hx hb d_MM_write_10 rfl (lv_at hl 1 rfl) ?_
    refine S_getR (h := shC) (C := "MacroMill") (T := F_MM) hx hb htt in_MM hown hK hP 0 3 rfl 1 rfl rfl (by decide) (htt _ k_967) (fun _ h9 => h9) d_MM_write_11 ?_
    refine S_getI (h := shC) (C := "MacroMill$Files") (T := F_Files) hx hb htt in_Files hown hK hP 1 4 rfl rfl rfl (by decide) (htt _ k_312) (fun _ h9 => h9) d_MM_write_14 ?_
    refine toI (y := nI cnt) hc ?_
    refine lv_icmp_lt (tgt := 22) hx hb d_MM_write_17 (by decide) (fun h9 => absurd h9 (hv.resolve_left h1)) (fun _ => ?_)
    refine lv_iconst (v := (-1)) hx hb d_MM_write_20 (by decide) ?_
    show W _ _ _ _ _ _ _ _ _ _ _ _ _ _ _ (F0 _ 21 _ _)
    exact fin_i (g := g) (ws := Sw shC g ad (putI (putI S 0 1 0) 0 2 0)) (v := (-1)) hx hb hr hlocks (by decide +kernel) (by decide +kernel) hP hD hS ⟨_, rfl, rfl, rfl⟩ d_MM_write_21
abbrev rm_c_writeOk : Room := { frames := 2, cells := 0, slots := 0, locals := 43 }
set_option maxHeartbeats 4000000 in
set_option maxRecDepth 100000 in
theorem c_writeOk (l : Launch) (g : gG) (sz : Nat) (ad : Nat → Nat) (S : sS) (st : Nat → Nat) (len : Nat) (cnt : Nat) (j : Nat) (hs0 : S.1 0 1 = nI len) (hl2 : len ≤ 16384) (hc : S.1 1 4 = nI cnt) (hc2 : cnt ≤ 32) (hj : j < cnt) (hst : ∀ i, i ≤ cnt → S.2.1 4 i = nI (st i)) (hmo : ∀ i k, i ≤ k → k ≤ cnt → st i ≤ st k) (hb2 : st cnt ≤ 32768) (hf : ∀ i, fits .byte (.int (S.2.1 0 i)) = true) (hfb : ∀ i, fits .byte (.int (S.2.1 1 i)) = true) : Ci l y_MM_write b_MM_write 3 rm_c_writeOk g [.ref (ad 0), .int (nI j)] (Sw shC g ad S) sz (fun r w => ∃ S' : sS, w = Sw shC g ad S' ∧ (32768 < st cnt + len ∧ r = (-4) ∧ S' = (putI (putI S 0 1 0) 0 2 0) ∨ st cnt + len ≤ 32768 ∧ r = nI (st (j + 1) + len - st j) ∧ ∃ f4 : Nat → Int32, S' = setF (appF (putI (putI S 0 1 0) 0 2 0) (st (j + 1)) (st cnt) len) 4 f4 ∧ ∀ k, k ≤ cnt → f4 k = nI (if j < k then st k + len else st k))) := by
  refine startI (by decide) (Nat.le_of_ble_eq_true rfl) ?_
  intro p e s m below meth c A ls hx hb hr hml hlocks hmn hown htt hN hA hP hK hD hS hl
  have hown : s.vm.findClass "MacroMill" = some m.cls := hown
  have hl : lv_has ls 3 [(0, .ref (ad 0)), (1, .int (nI j))] := hl
  refine lv_aload_n hx hb d_MM_write_0 rfl (lv_at hl 0 rfl) ?_
  refine go_iS (As := [.ref (ad 0)]) (g := g) (A := A) (h := shC) hP hK hD hS hA hN (fun hp => va_runV (As := []) (rest := []) ⟨hx, hb, hml, hown, htt⟩ (c_use l g _ ad S) ⟨(cb_L htt k_1005 k_262 k_1002 hd_MM_useTape ⟨(by decide +kernel), (by decide +kernel)⟩), htt _ k_1004, htt _ k_1⟩ ⟨hp.1, S_recv hK hP 0 rfl rfl, hp.2⟩ rfl rfl hl.1 rfl (lv_room (Nat.le_of_ble_eq_true rfl)) d_MM_write_1 ⟨(by decide +kernel), (by decide +kernel)⟩) (fun r9 Sn H locs hw9 hP hD hS => ?_)
  obtain ⟨rfl, rfl⟩ := hw9
  refine W.widen (k := 0) (n := 0) (by decide +kernel) (by decide +kernel) ?_
  refine toI (y := nI len) hs0 ?_
  refine lv_istore_n (lv' := [(2, .int (nI len)), (0, .ref (ad 0)), (1, .int (nI j))]) hx hb d_MM_write_4 rfl hl (by decide) rfl (fun ls hl => ?_)
  refine lv_iload_n hx hb d_MM_write_5 rfl (lv_at hl 2 rfl) ?_
  refine lv_if_lt (tgt := 20) hx hb d_MM_write_6 (by decide) (fun h9 => absurd h9 (nI_pos (by omega))) (fun _ => ?_)
  refine lv_iload_n hx hb d_MM_write_9 rfl (lv_at hl 2 rfl) ?_
  refine lv_aload_n hx hb d_MM_write_10 rfl (lv_at hl 1 rfl) ?_
  refine S_getR (h := shC) (C := "MacroMill") (T := F_MM) hx hb htt in_MM hown hK hP 0 3 rfl 1 rfl rfl (by decide) (htt _ k_967) (fun _ h9 => h9) d_MM_write_11 ?_
  refine S_getI (h := shC) (C := "MacroMill$Files") (T := F_Files) hx hb htt in_Files hown hK hP 1 4 rfl rfl rfl (by decide) (htt _ k_312) (fun _ h9 => h9) d_MM_write_14 ?_
  refine toI (y := nI cnt) hc ?_
  refine lv_icmp_lt (tgt := 22) hx hb d_MM_write_17 (by decide) (fun _ => ?_) (fun h9 => absurd (nI_lt hj (by omega)) h9)
  refine lv_aload_n hx hb d_MM_write_22 rfl (lv_at hl 1 rfl) ?_
  show W _ _ _ _ _ _ _ _ _ _ _ _ _ _ _ (F0 _ 23 _ _)
  refine S_getR (h := shC) (C := "MacroMill") (T := F_MM) hx hb htt in_MM hown hK hP 0 3 rfl 1 rfl rfl (by decide) (htt _ k_967) (fun _ h9 => h9) d_MM_write_23 ?_
  refine lv_iload_n hx hb d_MM_write_26 rfl (lv_at hl 2 rfl) ?_
  refine lv_aload_n hx hb d_MM_write_27 rfl (lv_at hl 1 rfl) ?_
  refine S_getR (h := shC) (C := "MacroMill") (T := F_MM) hx hb htt in_MM hown hK hP 0 0 rfl 13 rfl rfl (by decide) (htt _ k_964) (fun _ h9 => h9) d_MM_write_28 ?_
  refine lv_iload_n hx hb d_MM_write_31 rfl (lv_at hl 0 rfl) ?_
  refine go_iS (As := [.ref (ad 1), .int (nI j), .ref (ad 13), .int (nI len)]) (g := g) (A := A) (h := shC) hP hK hD hS hA hN (fun hp => va_runV (As := [.int (nI j), .ref (ad 13), .int (nI len)]) (rest := []) ⟨hx, hb, hml, hown, htt⟩ (c_append l g _ ad (putI (putI S 0 1 0) 0 2 0) st cnt j len hc hc2 hj hst (hmo (j + 1) cnt (by omega) (Nat.le_refl _)) hb2 hl2 hf hfb) ⟨(cb_L htt k_1027 k_263 k_1024 hd_Files_append ⟨(by decide +kernel), (by decide +kernel)⟩), htt _ k_1025, htt _ k_1026⟩ ⟨hp.1, S_recv hK hP 1 rfl rfl, hp.2⟩ rfl rfl hl.1 rfl (lv_room (Nat.le_of_ble_eq_true rfl)) d_MM_write_32 ⟨(by decide +kernel), (by decide +kernel)⟩) (fun r9 Sn_2 H locs hw9 hP hD hS => ?_)
  have hr9 := hw9
  refine W.widen (k := 0) (n := 0) (by decide +kernel) (by decide +kernel) ?_
  rcases hr9 with hr9 | hr9
  · refine toI (y := 0) hr9.1 ?_
    rw [hr9.2.1] at hP hD
    refine lv_if_eq (tgt := 49) hx hb d_MM_write_35 (by decide) (fun _ => ?_) (fun h9 => absurd rfl h9)
    refine lv_bipush (v := (-4)) hx hb d_MM_write_49 (by decide) ?_
    exact fin_i (g := g) (ws := Sw shC g ad (putI (putI S 0 1 0) 0 2 0)) (v := (-4)) hx hb hr hlocks (by decide +kernel) (by decide +kernel) hP hD hS ⟨_, rfl, Or.inl ⟨hr9.2.2, rfl, rfl⟩⟩ d_MM_write_51
  · obtain ⟨e5, h5, f4, e6, h6⟩ := hr9
    refine toI (y := 1) e5 ?_
    rw [e6] at hP hD
    have h7 : st j ≤ st (j + 1) := hmo j (j + 1) (by omega) (by omega)
    have e8 : f4 (j + 1) - f4 j = nI (st (j + 1) + len - st j) := by rw [h6 (j + 1) (by omega), h6 j (by omega), if_pos (Nat.lt_succ_self _), if_neg (Nat.lt_irrefl _)]; exact pk_sub (by omega)
    refine lv_if_eq (tgt := 49) hx hb d_MM_write_35 (by decide) (fun h9 => absurd h9 (by decide)) (fun _ => ?_)
    refine lv_aload_n hx hb d_MM_write_38 rfl (lv_at hl 1 rfl) ?_
    refine S_getR (h := shC) (C := "MacroMill") (T := F_MM) hx hb htt in_MM hown hK hP 0 3 rfl 1 rfl rfl (by decide) (htt _ k_967) (fun _ h9 => h9) d_MM_write_39 ?_
    refine lv_iload_n hx hb d_MM_write_42 rfl (lv_at hl 2 rfl) ?_
    refine go_iS (As := [.ref (ad 1), .int (nI j)]) (g := g) (A := A) (h := shC) hP hK hD hS hA hN (fun hp => va_runV (As := [.int (nI j)]) (rest := []) ⟨hx, hb, hml, hown, htt⟩ (c_lengthOf l g _ ad (setF (appF (putI (putI S 0 1 0) 0 2 0) (st (j + 1)) (st cnt) len) 4 f4) j (by omega)) ⟨(cb_L htt k_1031 k_263 k_1028 hd_Files_lengthOf ⟨(by decide +kernel), (by decide +kernel)⟩), htt _ k_1029, htt _ k_1030⟩ ⟨hp.1, S_recv hK hP 1 rfl rfl, hp.2⟩ rfl rfl hl.1 rfl (lv_room (Nat.le_of_ble_eq_true rfl)) d_MM_write_43 ⟨(by decide +kernel), (by decide +kernel)⟩) (fun r9 Sn_3 H locs hw9 hP hD hS => ?_)
    obtain ⟨rfl, rfl⟩ := hw9
    refine W.widen (k := 0) (n := 0) (by decide +kernel) (by decide +kernel) ?_
    refine lv_goto (tgt := 51) hx hb d_MM_write_46 (by decide) ?_
    show W _ _ _ _ _ _ _ _ _ _ _ _ _ _ _ (F0 _ 51 _ _)
    exact fin_i (g := g) (ws := Sw shC g ad (setF (appF (putI (putI S 0 1 0) 0 2 0) (st (j + 1)) (st cnt) len) 4 f4)) (v := ((setF (appF (putI (putI S 0 1 0) 0 2 0) (st (j + 1)) (st cnt) len) 4 f4).2.1 4 (j + 1)) - ((setF (appF (putI (putI S 0 1 0) 0 2 0) (st (j + 1)) (st cnt) len) 4 f4).2.1 4 j)) hx hb hr hlocks (by decide +kernel) (by decide +kernel) hP hD hS ⟨_, rfl, Or.inr ⟨h5, e8, f4, rfl, h6⟩⟩ d_MM_write_51
