theorem d_MM_told_0 : decode b_MM_told 0 = .ok (.iload_n 1, 1) := by decide +kernel
theorem d_MM_told_1 : decode b_MM_told 1 = .ok (.tableswitch 90 0 5 #[39, 47, 55, 63, 71, 79], 39) := by decide +kernel
theorem d_MM_told_40 : decode b_MM_told 40 = .ok (.aload_n 0, 1) := by decide +kernel
theorem d_MM_told_41 : decode b_MM_told 41 = .ok (.getfield 23, 3) := by decide +kernel
theorem d_MM_told_44 : decode b_MM_told 44 = .ok (.getfield 110, 3) := by decide +kernel
theorem d_MM_told_47 : decode b_MM_told 47 = .ok (.ireturn, 1) := by decide +kernel
theorem d_MM_told_48 : decode b_MM_told 48 = .ok (.aload_n 0, 1) := by decide +kernel
theorem d_MM_told_49 : decode b_MM_told 49 = .ok (.getfield 23, 3) := by decide +kernel
theorem d_MM_told_52 : decode b_MM_told 52 = .ok (.getfield 113, 3) := by decide +kernel
theorem d_MM_told_55 : decode b_MM_told 55 = .ok (.ireturn, 1) := by decide +kernel
theorem d_MM_told_56 : decode b_MM_told 56 = .ok (.aload_n 0, 1) := by decide +kernel
theorem d_MM_told_57 : decode b_MM_told 57 = .ok (.getfield 23, 3) := by decide +kernel
theorem d_MM_told_60 : decode b_MM_told 60 = .ok (.getfield 116, 3) := by decide +kernel
theorem d_MM_told_63 : decode b_MM_told 63 = .ok (.ireturn, 1) := by decide +kernel
theorem d_MM_told_64 : decode b_MM_told 64 = .ok (.aload_n 0, 1) := by decide +kernel
theorem d_MM_told_65 : decode b_MM_told 65 = .ok (.getfield 23, 3) := by decide +kernel
theorem d_MM_told_68 : decode b_MM_told 68 = .ok (.getfield 119, 3) := by decide +kernel
theorem d_MM_told_71 : decode b_MM_told 71 = .ok (.ireturn, 1) := by decide +kernel
theorem d_MM_told_72 : decode b_MM_told 72 = .ok (.aload_n 0, 1) := by decide +kernel
theorem d_MM_told_73 : decode b_MM_told 73 = .ok (.getfield 23, 3) := by decide +kernel
theorem d_MM_told_76 : decode b_MM_told 76 = .ok (.getfield 122, 3) := by decide +kernel
theorem d_MM_told_79 : decode b_MM_told 79 = .ok (.ireturn, 1) := by decide +kernel
theorem d_MM_told_80 : decode b_MM_told 80 = .ok (.aload_n 0, 1) := by decide +kernel
theorem d_MM_told_81 : decode b_MM_told 81 = .ok (.getfield 44, 3) := by decide +kernel
theorem d_MM_told_84 : decode b_MM_told 84 = .ok (.getfield 125, 3) := by decide +kernel
theorem d_MM_told_87 : decode b_MM_told 87 = .ok (.getfield 129, 3) := by decide +kernel
theorem d_MM_told_90 : decode b_MM_told 90 = .ok (.ireturn, 1) := by decide +kernel
theorem d_MM_told_91 : decode b_MM_told 91 = .ok (.iconst (-1), 1) := by decide +kernel
theorem d_MM_told_92 : decode b_MM_told 92 = .ok (.ireturn, 1) := by decide +kernel
theorem d_Mod_told_0 : decode b_Mod_told 0 = .ok (.iconst 0, 1) := by decide +kernel
theorem d_Mod_told_1 : decode b_Mod_told 1 = .ok (.istore_n 2, 1) := by decide +kernel
theorem d_Mod_told_2 : decode b_Mod_told 2 = .ok (.iconst 0, 1) := by decide +kernel
theorem d_Mod_told_3 : decode b_Mod_told 3 = .ok (.istore_n 3, 1) := by decide +kernel
theorem d_Mod_told_4 : decode b_Mod_told 4 = .ok (.iload_n 3, 1) := by decide +kernel
theorem d_Mod_told_5 : decode b_Mod_told 5 = .ok (.aload_n 0, 1) := by decide +kernel
theorem d_Mod_told_6 : decode b_Mod_told 6 = .ok (.getfield 613, 3) := by decide +kernel
theorem d_Mod_told_9 : decode b_Mod_told 9 = .ok (.if_icmp .ge 26, 3) := by decide +kernel
theorem d_Mod_told_12 : decode b_Mod_told 12 = .ok (.aload_n 0, 1) := by decide +kernel
theorem d_Mod_told_13 : decode b_Mod_told 13 = .ok (.getfield 127, 3) := by decide +kernel
theorem d_Mod_told_16 : decode b_Mod_told 16 = .ok (.iload_n 3, 1) := by decide +kernel
theorem d_Mod_told_17 : decode b_Mod_told 17 = .ok (.baload, 1) := by decide +kernel
theorem d_Mod_told_18 : decode b_Mod_told 18 = .ok (.ifCond .eq 9, 3) := by decide +kernel
theorem d_Mod_told_21 : decode b_Mod_told 21 = .ok (.iload_n 2, 1) := by decide +kernel
theorem d_Mod_told_22 : decode b_Mod_told 22 = .ok (.iconst 1, 1) := by decide +kernel
theorem d_Mod_told_23 : decode b_Mod_told 23 = .ok (.iadd, 1) := by decide +kernel
theorem d_Mod_told_24 : decode b_Mod_told 24 = .ok (.goto 4, 3) := by decide +kernel
theorem d_Mod_told_27 : decode b_Mod_told 27 = .ok (.iload_n 2, 1) := by decide +kernel
theorem d_Mod_told_28 : decode b_Mod_told 28 = .ok (.istore_n 2, 1) := by decide +kernel
theorem d_Mod_told_29 : decode b_Mod_told 29 = .ok (.iinc 3 1, 3) := by decide +kernel
theorem d_Mod_told_32 : decode b_Mod_told 32 = .ok (.goto (-28), 3) := by decide +kernel
theorem d_Mod_told_35 : decode b_Mod_told 35 = .ok (.iload_n 1, 1) := by decide +kernel
theorem d_Mod_told_36 : decode b_Mod_told 36 = .ok (.tableswitch 67 0 5 #[40, 45, 50, 55, 60, 65], 40) := by decide +kernel
theorem d_Mod_told_76 : decode b_Mod_told 76 = .ok (.aload_n 0, 1) := by decide +kernel
theorem d_Mod_told_77 : decode b_Mod_told 77 = .ok (.getfield 265, 3) := by decide +kernel
theorem d_Mod_told_80 : decode b_Mod_told 80 = .ok (.ireturn, 1) := by decide +kernel
theorem d_Mod_told_81 : decode b_Mod_told 81 = .ok (.aload_n 0, 1) := by decide +kernel
theorem d_Mod_told_82 : decode b_Mod_told 82 = .ok (.getfield 268, 3) := by decide +kernel
theorem d_Mod_told_85 : decode b_Mod_told 85 = .ok (.ireturn, 1) := by decide +kernel
theorem d_Mod_told_86 : decode b_Mod_told 86 = .ok (.aload_n 0, 1) := by decide +kernel
theorem d_Mod_told_87 : decode b_Mod_told 87 = .ok (.getfield 280, 3) := by decide +kernel
theorem d_Mod_told_90 : decode b_Mod_told 90 = .ok (.ireturn, 1) := by decide +kernel
theorem d_Mod_told_91 : decode b_Mod_told 91 = .ok (.aload_n 0, 1) := by decide +kernel
theorem d_Mod_told_92 : decode b_Mod_told 92 = .ok (.getfield 703, 3) := by decide +kernel
theorem d_Mod_told_95 : decode b_Mod_told 95 = .ok (.ireturn, 1) := by decide +kernel
theorem d_Mod_told_96 : decode b_Mod_told 96 = .ok (.aload_n 0, 1) := by decide +kernel
theorem d_Mod_told_97 : decode b_Mod_told 97 = .ok (.getfield 710, 3) := by decide +kernel
theorem d_Mod_told_100 : decode b_Mod_told 100 = .ok (.ireturn, 1) := by decide +kernel
theorem d_Mod_told_101 : decode b_Mod_told 101 = .ok (.iload_n 2, 1) := by decide +kernel
theorem d_Mod_told_102 : decode b_Mod_told 102 = .ok (.ireturn, 1) := by decide +kernel
theorem d_Mod_told_103 : decode b_Mod_told 103 = .ok (.iconst (-1), 1) := by decide +kernel
theorem d_Mod_told_104 : decode b_Mod_told 104 = .ok (.ireturn, 1) := by decide +kernel
set_option maxHeartbeats 4000000 in
set_option maxRecDepth 100000 in
theorem m_told_loop {p : Program} {l : Launch} {e : Env} {R : Room} {s : State} {m : MethodId} {args : Array Value} {below : List Frame} {meth : Method} {c : Code} {cells slots : Nat} {Q : State → Prop} {g : gG} {A : Nat → Prop} {ad : Nat → Nat} (hx : p.tables.exec = Jvm.exec) (hb : c.code = b_Mod_told) (hml : c.maxLocals = 4) (hown : s.vm.findClass "MacroMillModel" = some m.cls) (htt : ∀ w ∈ gt, w.before args s = true) (hK : va_K g.1 classes (tysG g) s) (hN : nw s) (hA : ∀ q : Nat, s.heap.size ≤ q → A q) (S : sS) (N : Nat) (v1 : Int32)
    (kx_35 : ∀ (j : Nat) (ls : Array Slot) (H : Heap) (locs : List Loc), S.1 0 75 = nI N → N ≤ 400 → j ≤ N → j = N →  lv_has ls 4 [(3, .int (nI j)), (2, .int (nI (cntF (S.2.1 36) j))), (0, .ref (ad 0)), (1, .int v1)] → va_P g.1 classes (Sw shM g ad S) H → va_D A (Sw shM g ad S) → va_S A s.heap H locs → W p l e R s m args below meth c H locs cells slots Q (F0 m 35 ls [])) :
    ∀ (k9 : Nat) (j : Nat) (ls : Array Slot) (H : Heap) (locs : List Loc), N - j < k9 → S.1 0 75 = nI N → N ≤ 400 → j ≤ N → lv_has ls 4 [(3, .int (nI j)), (2, .int (nI (cntF (S.2.1 36) j))), (0, .ref (ad 0)), (1, .int v1)] → va_P g.1 classes (Sw shM g ad S) H → va_D A (Sw shM g ad S) → va_S A s.heap H locs → W p l e R s m args below meth c H locs cells slots Q (F0 m 4 ls []) := by
  intro k9
  induction k9 with
  | zero =>
    intro j ls H locs hk9 hn hm hj hl hP hD hS
    exact absurd hk9 (Nat.not_lt_zero _)
  | succ k9 ih =>
    intro j ls H locs hk9 hn hm hj hl hP hD hS
    refine lv_iload_n hx hb d_Mod_told_4 rfl (lv_at hl 0 rfl) ?_
    refine lv_aload_n hx hb d_Mod_told_5 rfl (lv_at hl 2 rfl) ?_
    refine S_getI (h := shM) (C := "MacroMillModel") (T := F_Mod) hx hb htt in_Mod hown hK hP 0 75 rfl rfl rfl (by decide) (htt _ k_2311) (fun _ h9 => h9) d_Mod_told_6 ?_
    refine toI (y := nI N) hn ?_
    refine lv_icmp_ge (tgt := 35) hx hb d_Mod_told_9 (by decide) (fun h1 => ?_) (fun h1 => ?_)
    · exact kx_35 j ls H locs hn hm hj (by have h2 := nI_le_of (by omega) (by omega) h1; omega) (lv_sub hl [0, 1, 2, 3] rfl) hP hD hS
    · refine lv_aload_n hx hb d_Mod_told_12 rfl (lv_at hl 2 rfl) ?_
      refine S_getR (h := shM) (C := "MacroMillModel") (T := F_Mod) hx hb htt in_Mod hown hK hP 0 78 rfl 37 rfl rfl (by decide) (htt _ k_2314) (fun _ h9 => h9) d_Mod_told_13 ?_
      refine lv_iload_n hx hb d_Mod_told_16 rfl (lv_at hl 0 rfl) ?_
      have h3 : j < N := nI_lt_of (by omega) (by omega) h1
      refine S_zald (h := shM) (i := nI j) hx hb hK hP 36 rfl (vp_in_nI (by omega) (by decide)) d_Mod_told_17 ?_
      refine toI (y := S.2.1 36 j) (by rw [nI_clamp (by omega)]) ?_
      refine lv_if_eq (tgt := 27) hx hb d_Mod_told_18 (by decide) (fun h2 => ?_) (fun h2 => ?_)
      · refine lv_iload_n hx hb d_Mod_told_27 rfl (lv_at hl 1 rfl) ?_
        refine toI (y := nI (cntF (S.2.1 36) (j + 1))) (by simp [cntF, h2]) ?_
        refine lv_istore_n (lv' := [(2, .int (nI (cntF (S.2.1 36) (j + 1)))), (3, .int (nI j)), (0, .ref (ad 0)), (1, .int v1)]) hx hb d_Mod_told_28 rfl hl (by decide) rfl (fun ls hl => ?_)
        show W _ _ _ _ _ _ _ _ _ _ _ _ _ _ _ (F0 _ 29 _ _)
        refine lv_iinc (k := 1) (v := nI (j + 1)) (lv' := [(3, .int (nI (j + 1))), (2, .int (nI (cntF (S.2.1 36) (j + 1)))), (0, .ref (ad 0)), (1, .int v1)]) hx hb d_Mod_told_29 hl rfl (nI_succ j).symm (by decide) rfl (fun ls hl => ?_)
        refine lv_goto (tgt := 4) hx hb d_Mod_told_32 (by decide) ?_
        exact ih (j + 1) ls H locs (by omega) hn hm (by omega) (lv_sub hl [0, 1, 2, 3] rfl) hP hD hS
      · refine lv_iload_n hx hb d_Mod_told_21 rfl (lv_at hl 1 rfl) ?_
        refine lv_iconst (v := 1) hx hb d_Mod_told_22 (by decide) ?_
        show W _ _ _ _ _ _ _ _ _ _ _ _ _ _ _ (F0 _ 23 _ _)
        refine lv_iadd hx hb d_Mod_told_23 ?_
        refine toI (y := nI (cntF (S.2.1 36) j + 1)) (nI_1 _) ?_
        refine lv_goto (tgt := 28) hx hb d_Mod_told_24 (by decide) ?_
        refine toI (y := nI (cntF (S.2.1 36) (j + 1))) (by simp [cntF, h2]) ?_
        refine lv_istore_n (lv' := [(2, .int (nI (cntF (S.2.1 36) (j + 1)))), (3, .int (nI j)), (0, .ref (ad 0)), (1, .int v1)]) hx hb d_Mod_told_28 rfl hl (by decide) rfl (fun ls hl => ?_)
        refine lv_iinc (k := 1) (v := nI (j + 1)) (lv' := [(3, .int (nI (j + 1))), (2, .int (nI (cntF (S.2.1 36) (j + 1)))), (0, .ref (ad 0)), (1, .int v1)]) hx hb d_Mod_told_29 hl rfl (nI_succ j).symm (by decide) rfl (fun ls hl => ?_)
        refine lv_goto (tgt := 4) hx hb d_Mod_told_32 (by decide) ?_
        exact ih (j + 1) ls H locs (by omega) hn hm (by omega) (lv_sub hl [0, 1, 2, 3] rfl) hP hD hS
abbrev rm_m_told : Room := { frames := 0, cells := 0, slots := 0, locals := 0 }
set_option maxHeartbeats 4000000 in
set_option maxRecDepth 100000 in
theorem m_told (l : Launch) (g : gG) (sz : Nat) (ad : Nat → Nat) (S : sS) (N : Nat) (v1 : Int32) (hn : S.1 0 75 = nI N) (hm : N ≤ 400) : Ci l y_Mod_told b_Mod_told 4 rm_m_told g [.ref (ad 0), .int v1] (Sw shM g ad S) sz (fun r w => ∃ S' : sS, w = Sw shM g ad S' ∧ S' = S ∧ ((v1.toInt < 0 ∨ 5 < v1.toInt) ∧ r = (-1) ∨ v1.toInt = 0 ∧ r = S.1 0 11 ∨ v1.toInt = 1 ∧ r = S.1 0 12 ∨ v1.toInt = 2 ∧ r = S.1 0 13 ∨ v1.toInt = 3 ∧ r = S.1 0 14 ∨ v1.toInt = 4 ∧ r = S.1 0 15 ∨ v1.toInt = 5 ∧ r = nI (cntF (S.2.1 36) N))) := by
  refine startI (by decide) (Nat.le_of_ble_eq_true rfl) ?_
  intro p e s m below meth c A ls hx hb hr hml hlocks hmn hown htt hN hA hP hK hD hS hl
  have hown : s.vm.findClass "MacroMillModel" = some m.cls := hown
  have hl : lv_has ls 4 [(0, .ref (ad 0)), (1, .int v1)] := hl
  refine lv_iconst (v := 0) hx hb d_Mod_told_0 (by decide) ?_
  refine lv_istore_n (lv' := [(2, .int 0), (0, .ref (ad 0)), (1, .int v1)]) hx hb d_Mod_told_1 rfl hl (by decide) rfl (fun ls hl => ?_)
  refine lv_iconst (v := 0) hx hb d_Mod_told_2 (by decide) ?_
  refine lv_istore_n (lv' := [(3, .int 0), (2, .int 0), (0, .ref (ad 0)), (1, .int v1)]) hx hb d_Mod_told_3 rfl hl (by decide) rfl (fun ls hl => ?_)
  refine m_told_loop hx hb hml hown htt hK hN hA S N v1 (fun j2 ls H locs hn2 hm2 hj2 hz0 hl hP hD hS => ?_) (N - 0 + 1) 0 ls _ _ (by omega) hn hm (Nat.zero_le _) (lv_sub hl [0, 1, 2, 3] rfl) hP hD hS
  rw [hz0] at hl
  refine lv_iload_n hx hb d_Mod_told_35 rfl (lv_at hl 3 rfl) ?_
  by_cases ho : v1.toInt < 0 ∨ 5 < v1.toInt
  · refine lv_tableOut (tgt := 103) hx hb d_Mod_told_36 ho (by decide) ?_
    refine lv_iconst (v := (-1)) hx hb d_Mod_told_103 (by decide) ?_
    exact fin_i (g := g) (ws := Sw shM g ad S) (v := (-1)) hx hb hr hlocks (by decide +kernel) (by decide +kernel) hP hD hS ⟨S, rfl, rfl, Or.inl ⟨ho, rfl⟩⟩ d_Mod_told_104
  · have h6 : v1.toInt = 0 ∨ v1.toInt = 1 ∨ v1.toInt = 2 ∨ v1.toInt = 3 ∨ v1.toInt = 4 ∨ v1.toInt = 5 := by omega
    rcases h6 with h6 | h6 | h6 | h6 | h6 | h6
    · refine lv_tableIn (tgt := 76) (off := 40) hx hb d_Mod_told_36 (by omega) (by omega) (by rw [h6]; rfl) (by decide) ?_
      refine lv_aload_n hx hb d_Mod_told_76 rfl (lv_at hl 2 rfl) ?_
      refine S_getI (h := shM) (C := "MacroMillModel") (T := F_Mod) hx hb htt in_Mod hown hK hP 0 11 rfl rfl rfl (by decide) (htt _ k_2247) (fun _ h9 => h9) d_Mod_told_77 ?_
      exact fin_i (g := g) (ws := Sw shM g ad S) (v := S.1 0 11) hx hb hr hlocks (by decide +kernel) (by decide +kernel) hP hD hS ⟨S, rfl, rfl, Or.inr (Or.inl ⟨h6, rfl⟩)⟩ d_Mod_told_80
    · refine lv_tableIn (tgt := 81) (off := 45) hx hb d_Mod_told_36 (by omega) (by omega) (by rw [h6]; rfl) (by decide) ?_
      refine lv_aload_n hx hb d_Mod_told_81 rfl (lv_at hl 2 rfl) ?_
      refine S_getI (h := shM) (C := "MacroMillModel") (T := F_Mod) hx hb htt in_Mod hown hK hP 0 12 rfl rfl rfl (by decide) (htt _ k_2248) (fun _ h9 => h9) d_Mod_told_82 ?_
      exact fin_i (g := g) (ws := Sw shM g ad S) (v := S.1 0 12) hx hb hr hlocks (by decide +kernel) (by decide +kernel) hP hD hS ⟨S, rfl, rfl, Or.inr (Or.inr (Or.inl ⟨h6, rfl⟩))⟩ d_Mod_told_85
    · refine lv_tableIn (tgt := 86) (off := 50) hx hb d_Mod_told_36 (by omega) (by omega) (by rw [h6]; rfl) (by decide) ?_
      refine lv_aload_n hx hb d_Mod_told_86 rfl (lv_at hl 2 rfl) ?_
      refine S_getI (h := shM) (C := "MacroMillModel") (T := F_Mod) hx hb htt in_Mod hown hK hP 0 13 rfl rfl rfl (by decide) (htt _ k_2249) (fun _ h9 => h9) d_Mod_told_87 ?_
      exact fin_i (g := g) (ws := Sw shM g ad S) (v := S.1 0 13) hx hb hr hlocks (by decide +kernel) (by decide +kernel) hP hD hS ⟨S, rfl, rfl, Or.inr (Or.inr (Or.inr (Or.inl ⟨h6, rfl⟩)))⟩ d_Mod_told_90
    · refine lv_tableIn (tgt := 91) (off := 55) hx hb d_Mod_told_36 (by omega) (by omega) (by rw [h6]; rfl) (by decide) ?_
      refine lv_aload_n hx hb d_Mod_told_91 rfl (lv_at hl 2 rfl) ?_
      refine S_getI (h := shM) (C := "MacroMillModel") (T := F_Mod) hx hb htt in_Mod hown hK hP 0 14 rfl rfl rfl (by decide) (htt _ k_2250) (fun _ h9 => h9) d_Mod_told_92 ?_
      exact fin_i (g := g) (ws := Sw shM g ad S) (v := S.1 0 14) hx hb hr hlocks (by decide +kernel) (by decide +kernel) hP hD hS ⟨S, rfl, rfl, Or.inr (Or.inr (Or.inr (Or.inr (Or.inl ⟨h6, rfl⟩))))⟩ d_Mod_told_95
    · refine lv_tableIn (tgt := 96) (off := 60) hx hb d_Mod_told_36 (by omega) (by omega) (by rw [h6]; rfl) (by decide) ?_
      refine lv_aload_n hx hb d_Mod_told_96 rfl (lv_at hl 2 rfl) ?_
      refine S_getI (h := shM) (C := "MacroMillModel") (T := F_Mod) hx hb htt in_Mod hown hK hP 0 15 rfl rfl rfl (by decide) (htt _ k_2251) (fun _ h9 => h9) d_Mod_told_97 ?_
      exact fin_i (g := g) (ws := Sw shM g ad S) (v := S.1 0 15) hx hb hr hlocks (by decide +kernel) (by decide +kernel) hP hD hS ⟨S, rfl, rfl, Or.inr (Or.inr (Or.inr (Or.inr (Or.inr (Or.inl ⟨h6, rfl⟩)))))⟩ d_Mod_told_100
    · refine lv_tableIn (tgt := 101) (off := 65) hx hb d_Mod_told_36 (by omega) (by omega) (by rw [h6]; rfl) (by decide) ?_
      refine lv_iload_n hx hb d_Mod_told_101 rfl (lv_at hl 1 rfl) ?_
      exact fin_i (g := g) (ws := Sw shM g ad S) (v := nI (cntF (S.2.1 36) N)) hx hb hr hlocks (by decide +kernel) (by decide +kernel) hP hD hS ⟨S, rfl, rfl, Or.inr (Or.inr (Or.inr (Or.inr (Or.inr (Or.inr (⟨h6, rfl⟩))))))⟩ d_Mod_told_102
abbrev rm_c_told : Room := { frames := 0, cells := 0, slots := 0, locals := 0 }
set_option maxHeartbeats 4000000 in
set_option maxRecDepth 100000 in
theorem c_told (l : Launch) (g : gG) (sz : Nat) (ad : Nat → Nat) (S : sS) (v1 : Int32) : Ci l y_MM_told b_MM_told 2 rm_c_told g [.ref (ad 0), .int v1] (Sw shC g ad S) sz (fun r w => ∃ S' : sS, w = Sw shC g ad S' ∧ S' = S ∧ ((v1.toInt < 0 ∨ 5 < v1.toInt) ∧ r = (-1) ∨ v1.toInt = 0 ∧ r = S.1 2 3 ∨ v1.toInt = 1 ∧ r = S.1 2 4 ∨ v1.toInt = 2 ∧ r = S.1 2 6 ∨ v1.toInt = 3 ∧ r = S.1 2 7 ∨ v1.toInt = 4 ∧ r = S.1 2 8 ∨ v1.toInt = 5 ∧ r = S.1 10 5)) := by
  refine startI (by decide) (Nat.le_of_ble_eq_true rfl) ?_
  intro p e s m below meth c A ls hx hb hr hml hlocks hmn hown htt hN hA hP hK hD hS hl
  have hown : s.vm.findClass "MacroMill" = some m.cls := hown
  have hl : lv_has ls 2 [(0, .ref (ad 0)), (1, .int v1)] := hl
  refine lv_iload_n hx hb d_MM_told_0 rfl (lv_at hl 1 rfl) ?_
  by_cases ho : v1.toInt < 0 ∨ 5 < v1.toInt
  · refine lv_tableOut (tgt := 91) hx hb d_MM_told_1 ho (by decide) ?_
    refine lv_iconst (v := (-1)) hx hb d_MM_told_91 (by decide) ?_
    exact fin_i (g := g) (ws := Sw shC g ad S) (v := (-1)) hx hb hr hlocks (by decide +kernel) (by decide +kernel) hP hD hS ⟨S, rfl, rfl, Or.inl ⟨ho, rfl⟩⟩ d_MM_told_92
  · have h6 : v1.toInt = 0 ∨ v1.toInt = 1 ∨ v1.toInt = 2 ∨ v1.toInt = 3 ∨ v1.toInt = 4 ∨ v1.toInt = 5 := by omega
    rcases h6 with h6 | h6 | h6 | h6 | h6 | h6
    · refine lv_tableIn (tgt := 40) (off := 39) hx hb d_MM_told_1 (by omega) (by omega) (by rw [h6]; rfl) (by decide) ?_
      refine lv_aload_n hx hb d_MM_told_40 rfl (lv_at hl 0 rfl) ?_
      refine S_getR (h := shC) (C := "MacroMill") (T := F_MM) hx hb htt in_MM hown hK hP 0 4 rfl 2 rfl rfl (by decide) (htt _ k_968) (fun _ h9 => h9) d_MM_told_41 ?_
      refine S_getI (h := shC) (C := "MacroMill$Outcome") (T := F_Outcome) hx hb htt in_Outcome hown hK hP 2 3 rfl rfl rfl (by decide) (htt _ k_346) (fun _ h9 => h9) d_MM_told_44 ?_
      exact fin_i (g := g) (ws := Sw shC g ad S) (v := S.1 2 3) hx hb hr hlocks (by decide +kernel) (by decide +kernel) hP hD hS ⟨S, rfl, rfl, Or.inr (Or.inl ⟨h6, rfl⟩)⟩ d_MM_told_47
    · refine lv_tableIn (tgt := 48) (off := 47) hx hb d_MM_told_1 (by omega) (by omega) (by rw [h6]; rfl) (by decide) ?_
      refine lv_aload_n hx hb d_MM_told_48 rfl (lv_at hl 0 rfl) ?_
      refine S_getR (h := shC) (C := "MacroMill") (T := F_MM) hx hb htt in_MM hown hK hP 0 4 rfl 2 rfl rfl (by decide) (htt _ k_968) (fun _ h9 => h9) d_MM_told_49 ?_
      refine S_getI (h := shC) (C := "MacroMill$Outcome") (T := F_Outcome) hx hb htt in_Outcome hown hK hP 2 4 rfl rfl rfl (by decide) (htt _ k_348) (fun _ h9 => h9) d_MM_told_52 ?_
      exact fin_i (g := g) (ws := Sw shC g ad S) (v := S.1 2 4) hx hb hr hlocks (by decide +kernel) (by decide +kernel) hP hD hS ⟨S, rfl, rfl, Or.inr (Or.inr (Or.inl ⟨h6, rfl⟩))⟩ d_MM_told_55
    · refine lv_tableIn (tgt := 56) (off := 55) hx hb d_MM_told_1 (by omega) (by omega) (by rw [h6]; rfl) (by decide) ?_
      refine lv_aload_n hx hb d_MM_told_56 rfl (lv_at hl 0 rfl) ?_
      refine S_getR (h := shC) (C := "MacroMill") (T := F_MM) hx hb htt in_MM hown hK hP 0 4 rfl 2 rfl rfl (by decide) (htt _ k_968) (fun _ h9 => h9) d_MM_told_57 ?_
      refine S_getI (h := shC) (C := "MacroMill$Outcome") (T := F_Outcome) hx hb htt in_Outcome hown hK hP 2 6 rfl rfl rfl (by decide) (htt _ k_353) (fun _ h9 => h9) d_MM_told_60 ?_
      exact fin_i (g := g) (ws := Sw shC g ad S) (v := S.1 2 6) hx hb hr hlocks (by decide +kernel) (by decide +kernel) hP hD hS ⟨S, rfl, rfl, Or.inr (Or.inr (Or.inr (Or.inl ⟨h6, rfl⟩)))⟩ d_MM_told_63
    · refine lv_tableIn (tgt := 64) (off := 63) hx hb d_MM_told_1 (by omega) (by omega) (by rw [h6]; rfl) (by decide) ?_
      refine lv_aload_n hx hb d_MM_told_64 rfl (lv_at hl 0 rfl) ?_
      refine S_getR (h := shC) (C := "MacroMill") (T := F_MM) hx hb htt in_MM hown hK hP 0 4 rfl 2 rfl rfl (by decide) (htt _ k_968) (fun _ h9 => h9) d_MM_told_65 ?_
      refine S_getI (h := shC) (C := "MacroMill$Outcome") (T := F_Outcome) hx hb htt in_Outcome hown hK hP 2 7 rfl rfl rfl (by decide) (htt _ k_356) (fun _ h9 => h9) d_MM_told_68 ?_
      exact fin_i (g := g) (ws := Sw shC g ad S) (v := S.1 2 7) hx hb hr hlocks (by decide +kernel) (by decide +kernel) hP hD hS ⟨S, rfl, rfl, Or.inr (Or.inr (Or.inr (Or.inr (Or.inl ⟨h6, rfl⟩))))⟩ d_MM_told_71
    · refine lv_tableIn (tgt := 72) (off := 71) hx hb d_MM_told_1 (by omega) (by omega) (by rw [h6]; rfl) (by decide) ?_
      refine lv_aload_n hx hb d_MM_told_72 rfl (lv_at hl 0 rfl) ?_
      refine S_getR (h := shC) (C := "MacroMill") (T := F_MM) hx hb htt in_MM hown hK hP 0 4 rfl 2 rfl rfl (by decide) (htt _ k_968) (fun _ h9 => h9) d_MM_told_73 ?_
      refine S_getI (h := shC) (C := "MacroMill$Outcome") (T := F_Outcome) hx hb htt in_Outcome hown hK hP 2 8 rfl rfl rfl (by decide) (htt _ k_359) (fun _ h9 => h9) d_MM_told_76 ?_
      exact fin_i (g := g) (ws := Sw shC g ad S) (v := S.1 2 8) hx hb hr hlocks (by decide +kernel) (by decide +kernel) hP hD hS ⟨S, rfl, rfl, Or.inr (Or.inr (Or.inr (Or.inr (Or.inr (Or.inl ⟨h6, rfl⟩)))))⟩ d_MM_told_79
    · refine lv_tableIn (tgt := 80) (off := 79) hx hb d_MM_told_1 (by omega) (by omega) (by rw [h6]; rfl) (by decide) ?_
      refine lv_aload_n hx hb d_MM_told_80 rfl (lv_at hl 0 rfl) ?_
      refine S_getR (h := shC) (C := "MacroMill") (T := F_MM) hx hb htt in_MM hown hK hP 0 6 rfl 8 rfl rfl (by decide) (htt _ k_970) (fun _ h9 => h9) d_MM_told_81 ?_
      refine S_getR (h := shC) (C := "MacroMill$Second") (T := F_Second) hx hb htt in_Second hown hK hP 8 4 rfl 10 rfl rfl (by decide) (htt _ k_901) (fun _ h9 => h9) d_MM_told_84 ?_
      refine S_getI (h := shC) (C := "MacroMill$Macros") (T := F_Macros) hx hb htt in_Macros hown hK hP 10 5 rfl rfl rfl (by decide) (htt _ k_695) (fun _ h9 => h9) d_MM_told_87 ?_
      exact fin_i (g := g) (ws := Sw shC g ad S) (v := S.1 10 5) hx hb hr hlocks (by decide +kernel) (by decide +kernel) hP hD hS ⟨S, rfl, rfl, Or.inr (Or.inr (Or.inr (Or.inr (Or.inr (Or.inr (⟨h6, rfl⟩))))))⟩ d_MM_told_90
