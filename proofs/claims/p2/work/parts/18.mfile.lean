/-- the reference's new file -/
def mAddF (S : sS) (cnt b n len : Nat) : sS :=
  putI (putI (setF (putA (putA (putA (setF S 1 (va_cpy (S.2.1 0) (S.2.1 1) 0 (64 * cnt) n)) 2 cnt (nI n)) 4 cnt (nI b)) 5 cnt (nI (len - n))) 3 (va_cpy (S.2.1 0) (S.2.1 3) n b (len - n))) 0 9 (nI (b + (len - n)))) 0 3 (nI (cnt + 1))

theorem d_Mod_file_0 : decode b_Mod_file 0 = .ok (.aload_n 0, 1) := by decide +kernel
theorem d_Mod_file_1 : decode b_Mod_file 1 = .ok (.invokevirtual 248, 3) := by decide +kernel
theorem d_Mod_file_4 : decode b_Mod_file 4 = .ok (.istore_n 2, 1) := by decide +kernel
theorem d_Mod_file_5 : decode b_Mod_file 5 = .ok (.iload_n 1, 1) := by decide +kernel
theorem d_Mod_file_6 : decode b_Mod_file 6 = .ok (.iconst 1, 1) := by decide +kernel
theorem d_Mod_file_7 : decode b_Mod_file 7 = .ok (.if_icmp .lt 14, 3) := by decide +kernel
theorem d_Mod_file_10 : decode b_Mod_file 10 = .ok (.iload_n 1, 1) := by decide +kernel
theorem d_Mod_file_11 : decode b_Mod_file 11 = .ok (.bipush 64, 2) := by decide +kernel
theorem d_Mod_file_13 : decode b_Mod_file 13 = .ok (.if_icmp .gt 8, 3) := by decide +kernel
theorem d_Mod_file_16 : decode b_Mod_file 16 = .ok (.iload_n 1, 1) := by decide +kernel
theorem d_Mod_file_17 : decode b_Mod_file 17 = .ok (.iload_n 2, 1) := by decide +kernel
theorem d_Mod_file_18 : decode b_Mod_file 18 = .ok (.if_icmp .le 5, 3) := by decide +kernel
theorem d_Mod_file_21 : decode b_Mod_file 21 = .ok (.iconst (-1), 1) := by decide +kernel
theorem d_Mod_file_22 : decode b_Mod_file 22 = .ok (.ireturn, 1) := by decide +kernel
theorem d_Mod_file_23 : decode b_Mod_file 23 = .ok (.iconst 0, 1) := by decide +kernel
theorem d_Mod_file_24 : decode b_Mod_file 24 = .ok (.istore_n 3, 1) := by decide +kernel
theorem d_Mod_file_25 : decode b_Mod_file 25 = .ok (.iload_n 3, 1) := by decide +kernel
theorem d_Mod_file_26 : decode b_Mod_file 26 = .ok (.aload_n 0, 1) := by decide +kernel
theorem d_Mod_file_27 : decode b_Mod_file 27 = .ok (.getfield 252, 3) := by decide +kernel
theorem d_Mod_file_30 : decode b_Mod_file 30 = .ok (.if_icmp .ge 26, 3) := by decide +kernel
theorem d_Mod_file_33 : decode b_Mod_file 33 = .ok (.aload_n 0, 1) := by decide +kernel
theorem d_Mod_file_34 : decode b_Mod_file 34 = .ok (.iload_n 3, 1) := by decide +kernel
theorem d_Mod_file_35 : decode b_Mod_file 35 = .ok (.aload_n 0, 1) := by decide +kernel
theorem d_Mod_file_36 : decode b_Mod_file 36 = .ok (.getfield 9, 3) := by decide +kernel
theorem d_Mod_file_39 : decode b_Mod_file 39 = .ok (.iconst 0, 1) := by decide +kernel
theorem d_Mod_file_40 : decode b_Mod_file 40 = .ok (.iload_n 1, 1) := by decide +kernel
theorem d_Mod_file_41 : decode b_Mod_file 41 = .ok (.invokevirtual 255, 3) := by decide +kernel
theorem d_Mod_file_44 : decode b_Mod_file 44 = .ok (.ifCond .eq 6, 3) := by decide +kernel
theorem d_Mod_file_47 : decode b_Mod_file 47 = .ok (.bipush (-3), 2) := by decide +kernel
theorem d_Mod_file_49 : decode b_Mod_file 49 = .ok (.ireturn, 1) := by decide +kernel
theorem d_Mod_file_50 : decode b_Mod_file 50 = .ok (.iinc 3 1, 3) := by decide +kernel
theorem d_Mod_file_53 : decode b_Mod_file 53 = .ok (.goto (-28), 3) := by decide +kernel
theorem d_Mod_file_56 : decode b_Mod_file 56 = .ok (.aload_n 0, 1) := by decide +kernel
theorem d_Mod_file_57 : decode b_Mod_file 57 = .ok (.getfield 252, 3) := by decide +kernel
theorem d_Mod_file_60 : decode b_Mod_file 60 = .ok (.bipush 32, 2) := by decide +kernel
theorem d_Mod_file_62 : decode b_Mod_file 62 = .ok (.if_icmp .eq 16, 3) := by decide +kernel
theorem d_Mod_file_65 : decode b_Mod_file 65 = .ok (.aload_n 0, 1) := by decide +kernel
theorem d_Mod_file_66 : decode b_Mod_file 66 = .ok (.getfield 259, 3) := by decide +kernel
theorem d_Mod_file_69 : decode b_Mod_file 69 = .ok (.iload_n 2, 1) := by decide +kernel
theorem d_Mod_file_70 : decode b_Mod_file 70 = .ok (.iadd, 1) := by decide +kernel
theorem d_Mod_file_71 : decode b_Mod_file 71 = .ok (.iload_n 1, 1) := by decide +kernel
theorem d_Mod_file_72 : decode b_Mod_file 72 = .ok (.isub, 1) := by decide +kernel
theorem d_Mod_file_73 : decode b_Mod_file 73 = .ok (.ldc 20, 2) := by decide +kernel
theorem d_Mod_file_75 : decode b_Mod_file 75 = .ok (.if_icmp .le 6, 3) := by decide +kernel
theorem d_Mod_file_78 : decode b_Mod_file 78 = .ok (.bipush (-4), 2) := by decide +kernel
theorem d_Mod_file_80 : decode b_Mod_file 80 = .ok (.ireturn, 1) := by decide +kernel
theorem d_Mod_file_81 : decode b_Mod_file 81 = .ok (.iconst 0, 1) := by decide +kernel
theorem d_Mod_file_82 : decode b_Mod_file 82 = .ok (.istore_n 3, 1) := by decide +kernel
theorem d_Mod_file_83 : decode b_Mod_file 83 = .ok (.iload_n 3, 1) := by decide +kernel
theorem d_Mod_file_84 : decode b_Mod_file 84 = .ok (.iload_n 1, 1) := by decide +kernel
theorem d_Mod_file_85 : decode b_Mod_file 85 = .ok (.if_icmp .ge 29, 3) := by decide +kernel
theorem d_Mod_file_88 : decode b_Mod_file 88 = .ok (.aload_n 0, 1) := by decide +kernel
theorem d_Mod_file_89 : decode b_Mod_file 89 = .ok (.getfield 13, 3) := by decide +kernel
theorem d_Mod_file_92 : decode b_Mod_file 92 = .ok (.bipush 64, 2) := by decide +kernel
theorem d_Mod_file_94 : decode b_Mod_file 94 = .ok (.aload_n 0, 1) := by decide +kernel
theorem d_Mod_file_95 : decode b_Mod_file 95 = .ok (.getfield 252, 3) := by decide +kernel
theorem d_Mod_file_98 : decode b_Mod_file 98 = .ok (.imul, 1) := by decide +kernel
theorem d_Mod_file_99 : decode b_Mod_file 99 = .ok (.iload_n 3, 1) := by decide +kernel
theorem d_Mod_file_100 : decode b_Mod_file 100 = .ok (.iadd, 1) := by decide +kernel
theorem d_Mod_file_101 : decode b_Mod_file 101 = .ok (.aload_n 0, 1) := by decide +kernel
theorem d_Mod_file_102 : decode b_Mod_file 102 = .ok (.getfield 9, 3) := by decide +kernel
theorem d_Mod_file_105 : decode b_Mod_file 105 = .ok (.iload_n 3, 1) := by decide +kernel
theorem d_Mod_file_106 : decode b_Mod_file 106 = .ok (.baload, 1) := by decide +kernel
theorem d_Mod_file_107 : decode b_Mod_file 107 = .ok (.bastore, 1) := by decide +kernel
theorem d_Mod_file_108 : decode b_Mod_file 108 = .ok (.iinc 3 1, 3) := by decide +kernel
theorem d_Mod_file_111 : decode b_Mod_file 111 = .ok (.goto (-28), 3) := by decide +kernel
theorem d_Mod_file_114 : decode b_Mod_file 114 = .ok (.aload_n 0, 1) := by decide +kernel
theorem d_Mod_file_115 : decode b_Mod_file 115 = .ok (.getfield 16, 3) := by decide +kernel
theorem d_Mod_file_118 : decode b_Mod_file 118 = .ok (.aload_n 0, 1) := by decide +kernel
theorem d_Mod_file_119 : decode b_Mod_file 119 = .ok (.getfield 252, 3) := by decide +kernel
theorem d_Mod_file_122 : decode b_Mod_file 122 = .ok (.iload_n 1, 1) := by decide +kernel
theorem d_Mod_file_123 : decode b_Mod_file 123 = .ok (.iastore, 1) := by decide +kernel
theorem d_Mod_file_124 : decode b_Mod_file 124 = .ok (.aload_n 0, 1) := by decide +kernel
theorem d_Mod_file_125 : decode b_Mod_file 125 = .ok (.getfield 24, 3) := by decide +kernel
theorem d_Mod_file_128 : decode b_Mod_file 128 = .ok (.aload_n 0, 1) := by decide +kernel
theorem d_Mod_file_129 : decode b_Mod_file 129 = .ok (.getfield 252, 3) := by decide +kernel
theorem d_Mod_file_132 : decode b_Mod_file 132 = .ok (.aload_n 0, 1) := by decide +kernel
theorem d_Mod_file_133 : decode b_Mod_file 133 = .ok (.getfield 259, 3) := by decide +kernel
theorem d_Mod_file_136 : decode b_Mod_file 136 = .ok (.iastore, 1) := by decide +kernel
theorem d_Mod_file_137 : decode b_Mod_file 137 = .ok (.aload_n 0, 1) := by decide +kernel
theorem d_Mod_file_138 : decode b_Mod_file 138 = .ok (.getfield 27, 3) := by decide +kernel
theorem d_Mod_file_141 : decode b_Mod_file 141 = .ok (.aload_n 0, 1) := by decide +kernel
theorem d_Mod_file_142 : decode b_Mod_file 142 = .ok (.getfield 252, 3) := by decide +kernel
theorem d_Mod_file_145 : decode b_Mod_file 145 = .ok (.iload_n 2, 1) := by decide +kernel
theorem d_Mod_file_146 : decode b_Mod_file 146 = .ok (.iload_n 1, 1) := by decide +kernel
theorem d_Mod_file_147 : decode b_Mod_file 147 = .ok (.isub, 1) := by decide +kernel
theorem d_Mod_file_148 : decode b_Mod_file 148 = .ok (.iastore, 1) := by decide +kernel
theorem d_Mod_file_149 : decode b_Mod_file 149 = .ok (.iload_n 1, 1) := by decide +kernel
theorem d_Mod_file_150 : decode b_Mod_file 150 = .ok (.istore_n 3, 1) := by decide +kernel
theorem d_Mod_file_151 : decode b_Mod_file 151 = .ok (.iload_n 3, 1) := by decide +kernel
theorem d_Mod_file_152 : decode b_Mod_file 152 = .ok (.iload_n 2, 1) := by decide +kernel
theorem d_Mod_file_153 : decode b_Mod_file 153 = .ok (.if_icmp .ge 34, 3) := by decide +kernel
theorem d_Mod_file_156 : decode b_Mod_file 156 = .ok (.aload_n 0, 1) := by decide +kernel
theorem d_Mod_file_157 : decode b_Mod_file 157 = .ok (.getfield 21, 3) := by decide +kernel
theorem d_Mod_file_160 : decode b_Mod_file 160 = .ok (.aload_n 0, 1) := by decide +kernel
theorem d_Mod_file_161 : decode b_Mod_file 161 = .ok (.getfield 259, 3) := by decide +kernel
theorem d_Mod_file_164 : decode b_Mod_file 164 = .ok (.aload_n 0, 1) := by decide +kernel
theorem d_Mod_file_165 : decode b_Mod_file 165 = .ok (.getfield 9, 3) := by decide +kernel
theorem d_Mod_file_168 : decode b_Mod_file 168 = .ok (.iload_n 3, 1) := by decide +kernel
theorem d_Mod_file_169 : decode b_Mod_file 169 = .ok (.baload, 1) := by decide +kernel
theorem d_Mod_file_170 : decode b_Mod_file 170 = .ok (.bastore, 1) := by decide +kernel
theorem d_Mod_file_171 : decode b_Mod_file 171 = .ok (.aload_n 0, 1) := by decide +kernel
theorem d_Mod_file_172 : decode b_Mod_file 172 = .ok (.dup, 1) := by decide +kernel
theorem d_Mod_file_173 : decode b_Mod_file 173 = .ok (.getfield 259, 3) := by decide +kernel
theorem d_Mod_file_176 : decode b_Mod_file 176 = .ok (.iconst 1, 1) := by decide +kernel
theorem d_Mod_file_177 : decode b_Mod_file 177 = .ok (.iadd, 1) := by decide +kernel
theorem d_Mod_file_178 : decode b_Mod_file 178 = .ok (.putfield 259, 3) := by decide +kernel
theorem d_Mod_file_181 : decode b_Mod_file 181 = .ok (.iinc 3 1, 3) := by decide +kernel
theorem d_Mod_file_184 : decode b_Mod_file 184 = .ok (.goto (-33), 3) := by decide +kernel
theorem d_Mod_file_187 : decode b_Mod_file 187 = .ok (.aload_n 0, 1) := by decide +kernel
theorem d_Mod_file_188 : decode b_Mod_file 188 = .ok (.dup, 1) := by decide +kernel
theorem d_Mod_file_189 : decode b_Mod_file 189 = .ok (.getfield 252, 3) := by decide +kernel
theorem d_Mod_file_192 : decode b_Mod_file 192 = .ok (.iconst 1, 1) := by decide +kernel
theorem d_Mod_file_193 : decode b_Mod_file 193 = .ok (.iadd, 1) := by decide +kernel
theorem d_Mod_file_194 : decode b_Mod_file 194 = .ok (.putfield 252, 3) := by decide +kernel
theorem d_Mod_file_197 : decode b_Mod_file 197 = .ok (.aload_n 0, 1) := by decide +kernel
theorem d_Mod_file_198 : decode b_Mod_file 198 = .ok (.getfield 252, 3) := by decide +kernel
theorem d_Mod_file_201 : decode b_Mod_file 201 = .ok (.iconst 1, 1) := by decide +kernel
theorem d_Mod_file_202 : decode b_Mod_file 202 = .ok (.isub, 1) := by decide +kernel
theorem d_Mod_file_203 : decode b_Mod_file 203 = .ok (.ireturn, 1) := by decide +kernel
set_option maxHeartbeats 4000000 in
set_option maxRecDepth 100000 in
theorem m_file_loop1 {p : Program} {l : Launch} {e : Env} {R : Room} {s : State} {m : MethodId} {args : Array Value} {below : List Frame} {meth : Method} {c : Code} {cells slots : Nat} {Q : State → Prop} {g : gG} {A : Nat → Prop} {ad : Nat → Nat} (hx : p.tables.exec = Jvm.exec) (hb : c.code = b_Mod_file) (hml : c.maxLocals = 4) (hown : s.vm.findClass "MacroMillModel" = some m.cls) (htt : ∀ w ∈ gt, w.before args s = true) (hK : va_K g.1 classes (tysG g) s) (hN : nw s) (hA : ∀ q : Nat, s.heap.size ≤ q → A q) (hRf : 1 ≤ R.frames) (hRl : 26 ≤ R.locals) (hRc : cells ≤ R.cells) (hRs : slots ≤ R.slots) (S : sS) (n : Nat) (cnt : Nat) (len : Nat) (hc : S.1 0 3 = nI cnt) (hc2 : cnt ≤ 32) (hn : n ≤ 64)
    (kx_47 : ∀ (i : Nat) (ls : Array Slot) (H : Heap) (locs : List Loc), i ≤ cnt → (∀ k, k < i → ¬ (S.2.1 2 k = nI n ∧ ∀ k2, k2 < n → S.2.1 1 (64 * k + k2) = S.2.1 0 (0 + k2))) → i < cnt → (S.2.1 2 i = nI n ∧ ∀ k2, k2 < n → S.2.1 1 (64 * i + k2) = S.2.1 0 (0 + k2)) →  lv_has ls 4 [(3, .int (nI i)), (2, .int (nI len)), (0, .ref (ad 0)), (1, .int (nI n))] → va_P g.1 classes (Sw shM g ad S) H → va_D A (Sw shM g ad S) → va_S A s.heap H locs → W p l e R s m args below meth c H locs cells slots Q (F0 m 47 ls []))
    (kx_56 : ∀ (i : Nat) (ls : Array Slot) (H : Heap) (locs : List Loc), i ≤ cnt → (∀ k, k < i → ¬ (S.2.1 2 k = nI n ∧ ∀ k2, k2 < n → S.2.1 1 (64 * k + k2) = S.2.1 0 (0 + k2))) → i = cnt →  lv_has ls 4 [(3, .int (nI i)), (2, .int (nI len)), (0, .ref (ad 0)), (1, .int (nI n))] → va_P g.1 classes (Sw shM g ad S) H → va_D A (Sw shM g ad S) → va_S A s.heap H locs → W p l e R s m args below meth c H locs cells slots Q (F0 m 56 ls [])) :
    ∀ (k9 : Nat) (i : Nat) (ls : Array Slot) (H : Heap) (locs : List Loc), cnt - i < k9 → i ≤ cnt → (∀ k, k < i → ¬ (S.2.1 2 k = nI n ∧ ∀ k2, k2 < n → S.2.1 1 (64 * k + k2) = S.2.1 0 (0 + k2))) → lv_has ls 4 [(3, .int (nI i)), (2, .int (nI len)), (0, .ref (ad 0)), (1, .int (nI n))] → va_P g.1 classes (Sw shM g ad S) H → va_D A (Sw shM g ad S) → va_S A s.heap H locs → W p l e R s m args below meth c H locs cells slots Q (F0 m 25 ls []) := by
  intro k9
  induction k9 with
  | zero =>
    intro i ls H locs hk9 hi he hl hP hD hS
    exact absurd hk9 (Nat.not_lt_zero _)
  | succ k9 ih =>
    intro i ls H locs hk9 hi he hl hP hD hS
    refine lv_iload_n hx hb d_Mod_file_25 rfl (lv_at hl 0 rfl) ?_
    refine lv_aload_n hx hb d_Mod_file_26 rfl (lv_at hl 2 rfl) ?_
    refine S_getI (h := shM) (C := "MacroMillModel") (T := F_Mod) hx hb htt in_Mod hown hK hP 0 3 rfl rfl rfl (by decide) (htt _ k_2239) (fun _ h9 => h9) d_Mod_file_27 ?_
    refine toI (y := nI cnt) hc ?_
    refine lv_icmp_ge (tgt := 56) hx hb d_Mod_file_30 (by decide) (fun h1 => ?_) (fun h1 => ?_)
    · exact kx_56 i ls H locs hi he (by have h2 := nI_le_of (by omega) (by omega) h1; omega) (lv_sub hl [0, 1, 2, 3] rfl) hP hD hS
    · have h3 : i < cnt := nI_lt_of (by omega) (by omega) h1
      refine lv_aload_n hx hb d_Mod_file_33 rfl (lv_at hl 2 rfl) ?_
      refine lv_iload_n hx hb d_Mod_file_34 rfl (lv_at hl 0 rfl) ?_
      refine lv_aload_n hx hb d_Mod_file_35 rfl (lv_at hl 2 rfl) ?_
      refine S_getR (h := shM) (C := "MacroMillModel") (T := F_Mod) hx hb htt in_Mod hown hK hP 0 0 rfl 1 rfl rfl (by decide) (htt _ k_2236) (fun _ h9 => h9) d_Mod_file_36 ?_
      refine lv_iconst (v := 0) hx hb d_Mod_file_39 (by decide) ?_
      refine lv_iload_n hx hb d_Mod_file_40 rfl (lv_at hl 3 rfl) ?_
      refine go_iS (As := [.ref (ad 0), .int (nI i), .ref (ad 1), .int 0, .int (nI n)]) (g := g) (A := A) (h := shM) hP hK hD hS hA hN (fun hp => va_runV (As := [.int (nI i), .ref (ad 1), .int 0, .int (nI n)]) (rest := []) ⟨hx, hb, hml, hown, htt⟩ (m_isTitle l g _ ad S i n (by omega) (by omega)) ⟨(cb_L htt k_2692 k_276 k_2689 hd_Mod_isTitle ⟨(Nat.le_trans (by decide +kernel) hRf), (Nat.le_trans (by decide +kernel) hRl)⟩), htt _ k_2691, htt _ k_128⟩ ⟨hp.1, S_recv hK hP 0 rfl rfl, hp.2⟩ rfl rfl hl.1 rfl (lv_room (Nat.le_of_ble_eq_true rfl)) d_Mod_file_41 ⟨(hRc), (hRs)⟩) (fun r9 Sn H locs hw9 hP hD hS => ?_)
      obtain ⟨e9, hr9⟩ := hw9
      rw [e9] at hP hD
      refine W.widen (k := cells) (n := slots) (Nat.le_refl _) (Nat.le_refl _) ?_
      show W _ _ _ _ _ _ _ _ _ _ _ _ _ _ _ (F0 _ 44 _ _)
      rcases hr9 with hr9 | hr9
      · refine toI (y := 1) hr9.1 ?_
        refine lv_if_eq (tgt := 50) hx hb d_Mod_file_44 (by decide) (fun h9 => absurd h9 (by decide)) (fun _ => ?_)
        exact kx_47 i ls H locs hi he h3 hr9.2 (lv_sub hl [0, 1, 2, 3] rfl) hP hD hS
      · refine toI (y := 0) hr9.1 ?_
        refine lv_if_eq (tgt := 50) hx hb d_Mod_file_44 (by decide) (fun _ => ?_) (fun h9 => absurd rfl h9)
        refine lv_iinc (k := 0) (v := nI (i + 1)) (lv' := [(3, .int (nI (i + 1))), (2, .int (nI len)), (0, .ref (ad 0)), (1, .int (nI n))]) hx hb d_Mod_file_50 hl rfl (nI_succ i).symm (by decide) rfl (fun ls hl => ?_)
        refine lv_goto (tgt := 25) hx hb d_Mod_file_53 (by decide) ?_
        exact ih (i + 1) ls H locs (by omega) (by omega) (lt_s he hr9.2) (lv_sub hl [0, 1, 2, 3] rfl) hP hD hS
set_option maxHeartbeats 4000000 in
set_option maxRecDepth 100000 in
theorem m_file_loop2 {p : Program} {l : Launch} {e : Env} {R : Room} {s : State} {m : MethodId} {args : Array Value} {below : List Frame} {meth : Method} {c : Code} {cells slots : Nat} {Q : State → Prop} {g : gG} {A : Nat → Prop} {ad : Nat → Nat} (hx : p.tables.exec = Jvm.exec) (hb : c.code = b_Mod_file) (hml : c.maxLocals = 4) (hown : s.vm.findClass "MacroMillModel" = some m.cls) (htt : ∀ w ∈ gt, w.before args s = true) (hK : va_K g.1 classes (tysG g) s) (hN : nw s) (hA : ∀ q : Nat, s.heap.size ≤ q → A q) (S0 : sS) (n : Nat) (cnt : Nat) (len : Nat) (hc : S0.1 0 3 = nI cnt) (hc2 : cnt < 32) (hn : n ≤ 64) (hf : ∀ i, fits .byte (.int (S0.2.1 0 i)) = true)
    (kx_114 : ∀ (i : Nat) (ls : Array Slot) (H : Heap) (locs : List Loc), i ≤ n → i = n →  lv_has ls 4 [(3, .int (nI i)), (2, .int (nI len)), (0, .ref (ad 0)), (1, .int (nI n))] → va_P g.1 classes (Sw shM g ad (setF S0 1 (va_cpy (S0.2.1 0) (S0.2.1 1) 0 (64 * cnt) i))) H → va_D A (Sw shM g ad (setF S0 1 (va_cpy (S0.2.1 0) (S0.2.1 1) 0 (64 * cnt) i))) → va_S A s.heap H locs → W p l e R s m args below meth c H locs cells slots Q (F0 m 114 ls [])) :
    ∀ (k9 : Nat) (i : Nat) (ls : Array Slot) (H : Heap) (locs : List Loc), n - i < k9 → i ≤ n → lv_has ls 4 [(3, .int (nI i)), (2, .int (nI len)), (0, .ref (ad 0)), (1, .int (nI n))] → va_P g.1 classes (Sw shM g ad (setF S0 1 (va_cpy (S0.2.1 0) (S0.2.1 1) 0 (64 * cnt) i))) H → va_D A (Sw shM g ad (setF S0 1 (va_cpy (S0.2.1 0) (S0.2.1 1) 0 (64 * cnt) i))) → va_S A s.heap H locs → W p l e R s m args below meth c H locs cells slots Q (F0 m 83 ls []) := by
  intro k9
  induction k9 with
  | zero =>
    intro i ls H locs hk9 hi hl hP hD hS
    exact absurd hk9 (Nat.not_lt_zero _)
  | succ k9 ih =>
    intro i ls H locs hk9 hi hl hP hD hS
    refine lv_iload_n hx hb d_Mod_file_83 rfl (lv_at hl 0 rfl) ?_
    refine lv_iload_n hx hb d_Mod_file_84 rfl (lv_at hl 3 rfl) ?_
    refine lv_icmp_ge (tgt := 114) hx hb d_Mod_file_85 (by decide) (fun h1 => ?_) (fun h1 => ?_)
    · exact kx_114 i ls H locs hi (by have h2 := nI_le_of (by omega) (by omega) h1; omega) (lv_sub hl [0, 1, 2, 3] rfl) hP hD hS
    · have h3 : i < n := nI_lt_of (by omega) (by omega) h1
      refine lv_aload_n hx hb d_Mod_file_88 rfl (lv_at hl 2 rfl) ?_
      refine S_getR (h := shM) (C := "MacroMillModel") (T := F_Mod) hx hb htt in_Mod hown hK hP 0 4 rfl 2 rfl rfl (by decide) (htt _ k_2240) (fun _ h9 => h9) d_Mod_file_89 ?_
      refine lv_bipush (v := 64) hx hb d_Mod_file_92 (by decide) ?_
      refine lv_aload_n hx hb d_Mod_file_94 rfl (lv_at hl 2 rfl) ?_
      refine S_getI (h := shM) (C := "MacroMillModel") (T := F_Mod) hx hb htt in_Mod hown hK hP 0 3 rfl rfl rfl (by decide) (htt _ k_2239) (fun _ h9 => h9) d_Mod_file_95 ?_
      refine toI (y := nI cnt) hc ?_
      refine lv_imul hx hb d_Mod_file_98 ?_
      refine toI (y := nI (64 * cnt)) (pk_mul 64 cnt) ?_
      refine lv_iload_n hx hb d_Mod_file_99 rfl (lv_at hl 0 rfl) ?_
      refine lv_iadd hx hb d_Mod_file_100 ?_
      refine toI (y := nI (64 * cnt + i)) (nI_add _ _) ?_
      show W _ _ _ _ _ _ _ _ _ _ _ _ _ _ _ (F0 _ 101 _ _)
      refine lv_aload_n hx hb d_Mod_file_101 rfl (lv_at hl 2 rfl) ?_
      refine S_getR (h := shM) (C := "MacroMillModel") (T := F_Mod) hx hb htt in_Mod hown hK hP 0 0 rfl 1 rfl rfl (by decide) (htt _ k_2236) (fun _ h9 => h9) d_Mod_file_102 ?_
      refine lv_iload_n hx hb d_Mod_file_105 rfl (lv_at hl 0 rfl) ?_
      refine S_bald (h := shM) (i := nI i) hx hb hK hP 0 rfl (vp_in_nI (by omega) (by decide)) d_Mod_file_106 ?_
      refine toI (y := S0.2.1 0 (0 + i)) (by rw [nI_clamp (by omega), Nat.zero_add]; rfl) ?_
      refine S_bast (h := shM) (i := nI (64 * cnt + i)) (v := S0.2.1 0 (0 + i)) hx hb hK hP hD hS 1 rfl (vp_in_nI (by omega) (by decide)) d_Mod_file_107 (fun H locs hP hD hS => ?_)
      rw [nI_clamp (by omega), putA_setF, nar_fit (hf _), cpy_upd] at hP hD
      refine lv_iinc (k := 0) (v := nI (i + 1)) (lv' := [(3, .int (nI (i + 1))), (2, .int (nI len)), (0, .ref (ad 0)), (1, .int (nI n))]) hx hb d_Mod_file_108 hl rfl (nI_succ i).symm (by decide) rfl (fun ls hl => ?_)
      refine lv_goto (tgt := 83) hx hb d_Mod_file_111 (by decide) ?_
      exact ih (i + 1) ls H locs (by omega) (by omega) (lv_sub hl [0, 1, 2, 3] rfl) hP hD hS
set_option maxHeartbeats 4000000 in
set_option maxRecDepth 100000 in
theorem m_file_loop3 {p : Program} {l : Launch} {e : Env} {R : Room} {s : State} {m : MethodId} {args : Array Value} {below : List Frame} {meth : Method} {c : Code} {cells slots : Nat} {Q : State → Prop} {g : gG} {A : Nat → Prop} {ad : Nat → Nat} (hx : p.tables.exec = Jvm.exec) (hb : c.code = b_Mod_file) (hml : c.maxLocals = 4) (hown : s.vm.findClass "MacroMillModel" = some m.cls) (htt : ∀ w ∈ gt, w.before args s = true) (hK : va_K g.1 classes (tysG g) s) (hN : nw s) (hA : ∀ q : Nat, s.heap.size ≤ q → A q) (S0 : sS) (n : Nat) (b : Nat) (len : Nat) (hn2 : n ≤ len) (hl2 : len ≤ 16384) (hb3 : b + (len - n) ≤ 32768) (hf : ∀ i, fits .byte (.int (S0.2.1 0 i)) = true)
    (kx_187 : ∀ (i : Nat) (ls : Array Slot) (H : Heap) (locs : List Loc), n + i ≤ len → i = len - n →  lv_has ls 4 [(3, .int (nI (n + i))), (2, .int (nI len)), (0, .ref (ad 0)), (1, .int (nI n))] → va_P g.1 classes (Sw shM g ad (putI (setF S0 3 (va_cpy (S0.2.1 0) (S0.2.1 3) n b i)) 0 9 (nI (b + i)))) H → va_D A (Sw shM g ad (putI (setF S0 3 (va_cpy (S0.2.1 0) (S0.2.1 3) n b i)) 0 9 (nI (b + i)))) → va_S A s.heap H locs → W p l e R s m args below meth c H locs cells slots Q (F0 m 187 ls [])) :
    ∀ (k9 : Nat) (i : Nat) (ls : Array Slot) (H : Heap) (locs : List Loc), len - (n + i) < k9 → n + i ≤ len → lv_has ls 4 [(3, .int (nI (n + i))), (2, .int (nI len)), (0, .ref (ad 0)), (1, .int (nI n))] → va_P g.1 classes (Sw shM g ad (putI (setF S0 3 (va_cpy (S0.2.1 0) (S0.2.1 3) n b i)) 0 9 (nI (b + i)))) H → va_D A (Sw shM g ad (putI (setF S0 3 (va_cpy (S0.2.1 0) (S0.2.1 3) n b i)) 0 9 (nI (b + i)))) → va_S A s.heap H locs → W p l e R s m args below meth c H locs cells slots Q (F0 m 151 ls []) := by
  intro k9
  induction k9 with
  | zero =>
    intro i ls H locs hk9 hi hl hP hD hS
    exact absurd hk9 (Nat.not_lt_zero _)
  | succ k9 ih =>
    intro i ls H locs hk9 hi hl hP hD hS
    refine lv_iload_n hx hb d_Mod_file_151 rfl (lv_at hl 0 rfl) ?_
    refine lv_iload_n hx hb d_Mod_file_152 rfl (lv_at hl 1 rfl) ?_
    refine lv_icmp_ge (tgt := 187) hx hb d_Mod_file_153 (by decide) (fun h1 => ?_) (fun h1 => ?_)
    · exact kx_187 i ls H locs hi (by have h2 := nI_le_of (by omega) (by omega) h1; omega) (lv_sub hl [0, 1, 2, 3] rfl) hP hD hS
    · have h3 : n + i < len := nI_lt_of (by omega) (by omega) h1
      refine lv_aload_n hx hb d_Mod_file_156 rfl (lv_at hl 2 rfl) ?_
      refine S_getR (h := shM) (C := "MacroMillModel") (T := F_Mod) hx hb htt in_Mod hown hK hP 0 6 rfl 4 rfl rfl (by decide) (htt _ k_2242) (fun _ h9 => h9) d_Mod_file_157 ?_
      refine lv_aload_n hx hb d_Mod_file_160 rfl (lv_at hl 2 rfl) ?_
      refine S_getI (h := shM) (C := "MacroMillModel") (T := F_Mod) hx hb htt in_Mod hown hK hP 0 9 rfl rfl rfl (by decide) (htt _ k_2245) (fun _ h9 => h9) d_Mod_file_161 ?_
      refine toI (y := nI (b + i)) rfl ?_
      refine lv_aload_n hx hb d_Mod_file_164 rfl (lv_at hl 2 rfl) ?_
      refine S_getR (h := shM) (C := "MacroMillModel") (T := F_Mod) hx hb htt in_Mod hown hK hP 0 0 rfl 1 rfl rfl (by decide) (htt _ k_2236) (fun _ h9 => h9) d_Mod_file_165 ?_
      refine lv_iload_n hx hb d_Mod_file_168 rfl (lv_at hl 0 rfl) ?_
      refine S_bald (h := shM) (i := nI (n + i)) hx hb hK hP 0 rfl (vp_in_nI (by omega) (by decide)) d_Mod_file_169 ?_
      refine toI (y := S0.2.1 0 (n + i)) (by rw [nI_clamp (by omega)]; rfl) ?_
      show W _ _ _ _ _ _ _ _ _ _ _ _ _ _ _ (F0 _ 170 _ _)
      refine S_bast (h := shM) (i := nI (b + i)) (v := S0.2.1 0 (n + i)) hx hb hK hP hD hS 3 rfl (vp_in_nI (by omega) (by decide)) d_Mod_file_170 (fun H locs hP hD hS => ?_)
      rw [nI_clamp (by omega), putA_putI, putA_setF, nar_fit (hf _), cpy_upd] at hP hD
      refine lv_aload_n hx hb d_Mod_file_171 rfl (lv_at hl 2 rfl) ?_
      refine lv_dup hx hb d_Mod_file_172 rfl ?_
      refine S_getI (h := shM) (C := "MacroMillModel") (T := F_Mod) hx hb htt in_Mod hown hK hP 0 9 rfl rfl rfl (by decide) (htt _ k_2245) (fun _ h9 => h9) d_Mod_file_173 ?_
      refine toI (y := nI (b + i)) rfl ?_
      refine lv_iconst (v := 1) hx hb d_Mod_file_176 (by decide) ?_
      refine lv_iadd hx hb d_Mod_file_177 ?_
      refine toI (y := nI (b + (i + 1))) (nI_1 (b + i)) ?_
      refine S_put (h := shM) (C := "MacroMillModel") (T := F_Mod) (v := nI (b + (i + 1))) hx hb htt in_Mod t_Mod t_Mod_ok n_Mod hown hK hP hD hS 0 9 rfl rfl rfl (by decide) (htt _ k_2245) (fun _ h9 => h9) rfl rfl rfl d_Mod_file_178 (fun H locs hP hD hS => ?_)
      rw [putI_putI] at hP hD
      refine lv_iinc (k := 0) (v := nI (n + (i + 1))) (lv' := [(3, .int (nI (n + (i + 1)))), (2, .int (nI len)), (0, .ref (ad 0)), (1, .int (nI n))]) hx hb d_Mod_file_181 hl rfl (nI_succ (n + i)).symm (by decide) rfl (fun ls hl => ?_)
      refine lv_goto (tgt := 151) hx hb d_Mod_file_184 (by decide) ?_
      exact ih (i + 1) ls H locs (by omega) (by omega) (lv_sub hl [0, 1, 2, 3] rfl) hP hD hS
abbrev rm_m_fileBad : Room := { frames := 1, cells := 0, slots := 0, locals := 21 }
set_option maxHeartbeats 4000000 in
set_option maxRecDepth 100000 in
theorem m_fileBad (l : Launch) (g : gG) (sz : Nat) (ad : Nat → Nat) (S : sS) (len : Nat) (v1 : Int32) (hs0 : S.1 0 1 = nI len) (hl2 : len ≤ 16384) (hv : v1 < 1 ∨ 64 < v1 ∨ ¬ v1 ≤ nI len) : Ci l y_Mod_file b_Mod_file 4 rm_m_fileBad g [.ref (ad 0), .int v1] (Sw shM g ad S) sz (fun r w => ∃ S' : sS, w = Sw shM g ad S' ∧ r = (-1) ∧ S' = (putI (putI S 0 1 0) 0 2 0)) := by
  refine startI (by decide) (Nat.le_of_ble_eq_true rfl) ?_
  intro p e s m below meth c A ls hx hb hr hml hlocks hmn hown htt hN hA hP hK hD hS hl
  have hown : s.vm.findClass "MacroMillModel" = some m.cls := hown
  have hl : lv_has ls 4 [(0, .ref (ad 0)), (1, .int v1)] := hl
  refine lv_aload_n hx hb d_Mod_file_0 rfl (lv_at hl 0 rfl) ?_
  refine go_iS (As := [.ref (ad 0)]) (g := g) (A := A) (h := shM) hP hK hD hS hA hN (fun hp => va_runV (As := []) (rest := []) ⟨hx, hb, hml, hown, htt⟩ (m_use l g _ ad S) ⟨(cb_L htt k_2688 k_276 k_2685 hd_Mod_use ⟨(by decide +kernel), (by decide +kernel)⟩), htt _ k_2687, htt _ k_127⟩ ⟨hp.1, S_recv hK hP 0 rfl rfl, hp.2⟩ rfl rfl hl.1 rfl (lv_room (Nat.le_of_ble_eq_true rfl)) d_Mod_file_1 ⟨(by decide +kernel), (by decide +kernel)⟩) (fun r9 Sn H locs hw9 hP hD hS => ?_)
  obtain ⟨rfl, rfl⟩ := hw9
  refine W.widen (k := 0) (n := 0) (by decide +kernel) (by decide +kernel) ?_
  refine toI (y := nI len) hs0 ?_
  refine lv_istore_n (lv' := [(2, .int (nI len)), (0, .ref (ad 0)), (1, .int v1)]) hx hb d_Mod_file_4 rfl hl (by decide) rfl (fun ls hl => ?_)
  refine lv_iload_n hx hb d_Mod_file_5 rfl (lv_at hl 2 rfl) ?_
  refine lv_iconst (v := 1) hx hb d_Mod_file_6 (by decide) ?_
  refine lv_icmp_lt (tgt := 21) hx hb d_Mod_file_7 (by decide) (fun h1 => ?_) (fun h1 => ?_)
  · refine lv_iconst (v := (-1)) hx hb d_Mod_file_21 (by decide) ?_
    exact fin_i (g := g) (ws := Sw shM g ad (putI (putI S 0 1 0) 0 2 0)) (v := (-1)) hx hb hr hlocks (by decide +kernel) (by decide +kernel) hP hD hS ⟨_, rfl, rfl, rfl⟩ d_Mod_file_22
  · refine lv_iload_n hx hb d_Mod_file_10 rfl (lv_at hl 2 rfl) ?_
    refine lv_bipush (v := 64) hx hb d_Mod_file_11 (by decide) ?_
    refine lv_icmp_gt (tgt := 21) hx hb d_Mod_file_13 (by decide) (fun h2 => ?_) (fun h2 => ?_)
    · refine lv_iconst (v := (-1)) hx hb d_Mod_file_21 (by decide) ?_
      exact fin_i (g := g) (ws := Sw shM g ad (putI (putI S 0 1 0) 0 2 0)) (v := (-1)) hx hb hr hlocks (by decide +kernel) (by decide +kernel) hP hD hS ⟨_, rfl, rfl, rfl⟩ d_Mod_file_22
    · refine lv_iload_n hx hb d_Mod_file_16 rfl (lv_at hl 2 rfl) ?_
      refine lv_iload_n hx hb d_Mod_file_17 rfl (lv_at hl 0 rfl) ?_
      show W _ _ _ _ _ _ _ _ _ _ _ _ _ _ _ (F0 _ 18 _ _)
      refine lv_icmp_le (tgt := 23) hx hb d_Mod_file_18 (by decide) (fun h9 => absurd h9 ((hv.resolve_left h1).resolve_left h2)) (fun _ => ?_)
      refine lv_iconst (v := (-1)) hx hb d_Mod_file_21 (by decide) ?_
      exact fin_i (g := g) (ws := Sw shM g ad (putI (putI S 0 1 0) 0 2 0)) (v := (-1)) hx hb hr hlocks (by decide +kernel) (by decide +kernel) hP hD hS ⟨_, rfl, rfl, rfl⟩ d_Mod_file_22
abbrev rm_m_fileOk : Room := { frames := 1, cells := 0, slots := 0, locals := 26 }
set_option maxHeartbeats 4000000 in
set_option maxRecDepth 100000 in
theorem m_fileOk (l : Launch) (g : gG) (sz : Nat) (ad : Nat → Nat) (S : sS) (len : Nat) (cnt : Nat) (b : Nat) (n : Nat) (hs0 : S.1 0 1 = nI len) (hl2 : len ≤ 16384) (hc : S.1 0 3 = nI cnt) (hc2 : cnt ≤ 32) (hbb : S.1 0 9 = nI b) (hb2 : b ≤ 32768) (hn0 : 1 ≤ n) (hn1 : n ≤ 64) (hn2 : n ≤ len) (hf : ∀ i, fits .byte (.int (S.2.1 0 i)) = true) : Ci l y_Mod_file b_Mod_file 4 rm_m_fileOk g [.ref (ad 0), .int (nI n)] (Sw shM g ad S) sz (fun r w => ∃ S' : sS, w = Sw shM g ad S' ∧ ((∃ i, i < cnt ∧ (S.2.1 2 i = nI n ∧ ∀ k2, k2 < n → S.2.1 1 (64 * i + k2) = S.2.1 0 (0 + k2))) ∧ r = (-3) ∧ S' = (putI (putI S 0 1 0) 0 2 0) ∨ (∀ k, k < cnt → ¬ (S.2.1 2 k = nI n ∧ ∀ k2, k2 < n → S.2.1 1 (64 * k + k2) = S.2.1 0 (0 + k2))) ∧ (32 ≤ cnt ∨ 32768 < b + len - n) ∧ r = (-4) ∧ S' = (putI (putI S 0 1 0) 0 2 0) ∨ (∀ k, k < cnt → ¬ (S.2.1 2 k = nI n ∧ ∀ k2, k2 < n → S.2.1 1 (64 * k + k2) = S.2.1 0 (0 + k2))) ∧ cnt < 32 ∧ b + len - n ≤ 32768 ∧ r = nI cnt ∧ S' = mAddF (putI (putI S 0 1 0) 0 2 0) cnt b n len)) := by
  refine startI (by decide) (Nat.le_of_ble_eq_true rfl) ?_
  intro p e s m below meth c A ls hx hb hr hml hlocks hmn hown htt hN hA hP hK hD hS hl
  have hown : s.vm.findClass "MacroMillModel" = some m.cls := hown
  have hl : lv_has ls 4 [(0, .ref (ad 0)), (1, .int (nI n))] := hl
  refine lv_aload_n hx hb d_Mod_file_0 rfl (lv_at hl 0 rfl) ?_
  refine go_iS (As := [.ref (ad 0)]) (g := g) (A := A) (h := shM) hP hK hD hS hA hN (fun hp => va_runV (As := []) (rest := []) ⟨hx, hb, hml, hown, htt⟩ (m_use l g _ ad S) ⟨(cb_L htt k_2688 k_276 k_2685 hd_Mod_use ⟨(by decide +kernel), (by decide +kernel)⟩), htt _ k_2687, htt _ k_127⟩ ⟨hp.1, S_recv hK hP 0 rfl rfl, hp.2⟩ rfl rfl hl.1 rfl (lv_room (Nat.le_of_ble_eq_true rfl)) d_Mod_file_1 ⟨(by decide +kernel), (by decide +kernel)⟩) (fun r9 Sn H locs hw9 hP hD hS => ?_)
  obtain ⟨rfl, rfl⟩ := hw9
  refine W.widen (k := 0) (n := 0) (by decide +kernel) (by decide +kernel) ?_
  refine toI (y := nI len) hs0 ?_
  refine lv_istore_n (lv' := [(2, .int (nI len)), (0, .ref (ad 0)), (1, .int (nI n))]) hx hb d_Mod_file_4 rfl hl (by decide) rfl (fun ls hl => ?_)
  refine lv_iload_n hx hb d_Mod_file_5 rfl (lv_at hl 2 rfl) ?_
  refine lv_iconst (v := 1) hx hb d_Mod_file_6 (by decide) ?_
  refine lv_icmp_lt (tgt := 21) hx hb d_Mod_file_7 (by decide) (fun h9 => absurd h9 (nI_nlt (b := 1) hn0 (by omega))) (fun _ => ?_)
  refine lv_iload_n hx hb d_Mod_file_10 rfl (lv_at hl 2 rfl) ?_
  refine lv_bipush (v := 64) hx hb d_Mod_file_11 (by decide) ?_
  refine lv_icmp_gt (tgt := 21) hx hb d_Mod_file_13 (by decide) (fun h9 => absurd h9 (nI_nlt (a := 64) hn1 (by decide))) (fun _ => ?_)
  refine lv_iload_n hx hb d_Mod_file_16 rfl (lv_at hl 2 rfl) ?_
  refine lv_iload_n hx hb d_Mod_file_17 rfl (lv_at hl 0 rfl) ?_
  show W _ _ _ _ _ _ _ _ _ _ _ _ _ _ _ (F0 _ 18 _ _)
  refine lv_icmp_le (tgt := 23) hx hb d_Mod_file_18 (by decide) (fun _ => ?_) (fun h9 => absurd (nI_le hn2 (by omega)) h9)
  refine lv_iconst (v := 0) hx hb d_Mod_file_23 (by decide) ?_
  refine lv_istore_n (lv' := [(3, .int 0), (2, .int (nI len)), (0, .ref (ad 0)), (1, .int (nI n))]) hx hb d_Mod_file_24 rfl hl (by decide) rfl (fun ls hl => ?_)
  refine m_file_loop1 hx hb hml hown htt hK hN hA (by decide +kernel) (by decide +kernel) (by decide +kernel) (by decide +kernel) (putI (putI S 0 1 0) 0 2 0) n cnt len hc hc2 hn1 (fun i2 ls H locs hi2 he2 hz0 hz1 hl hP hD hS => ?_) (fun i2 ls H locs hi2 he2 hz0 hl hP hD hS => ?_) (cnt - 0 + 1) 0 ls _ _ (by omega) (Nat.zero_le _) (fun k h9 => absurd h9 (Nat.not_lt_zero k)) (lv_sub hl [0, 1, 2, 3] rfl) hP hD hS
  · refine lv_bipush (v := (-3)) hx hb d_Mod_file_47 (by decide) ?_
    exact fin_i (g := g) (ws := Sw shM g ad (putI (putI S 0 1 0) 0 2 0)) (v := (-3)) hx hb hr hlocks (by decide +kernel) (by decide +kernel) hP hD hS ⟨_, rfl, Or.inl ⟨⟨i2, hz0, hz1⟩, rfl, rfl⟩⟩ d_Mod_file_49
  · have hno : ∀ k, k < cnt → ¬ (S.2.1 2 k = nI n ∧ ∀ k2, k2 < n → S.2.1 1 (64 * k + k2) = S.2.1 0 (0 + k2)) := by rw [hz0] at he2; exact he2
    refine lv_aload_n hx hb d_Mod_file_56 rfl (lv_at hl 2 rfl) ?_
    refine S_getI (h := shM) (C := "MacroMillModel") (T := F_Mod) hx hb htt in_Mod hown hK hP 0 3 rfl rfl rfl (by decide) (htt _ k_2239) (fun _ h9 => h9) d_Mod_file_57 ?_
    refine toI (y := nI cnt) hc ?_
    refine lv_bipush (v := 32) hx hb d_Mod_file_60 (by decide) ?_
    refine lv_icmp_eq (tgt := 78) hx hb d_Mod_file_62 (by decide) (fun h4 => ?_) (fun h4 => ?_)
    · have h5 : cnt = 32 := (nI_eq (b := 32) (by omega) (by decide)).mp h4
      refine lv_bipush (v := (-4)) hx hb d_Mod_file_78 (by decide) ?_
      exact fin_i (g := g) (ws := Sw shM g ad (putI (putI S 0 1 0) 0 2 0)) (v := (-4)) hx hb hr hlocks (by decide +kernel) (by decide +kernel) hP hD hS ⟨_, rfl, Or.inr (Or.inl ⟨hno, Or.inl (by omega), rfl, rfl⟩)⟩ d_Mod_file_80
    · have h5 : cnt < 32 := by
        have h6 : ¬ cnt = 32 := fun z => h4 ((nI_eq (b := 32) (by omega) (by decide)).mpr z)
        omega
      refine lv_aload_n hx hb d_Mod_file_65 rfl (lv_at hl 2 rfl) ?_
      refine S_getI (h := shM) (C := "MacroMillModel") (T := F_Mod) hx hb htt in_Mod hown hK hP 0 9 rfl rfl rfl (by decide) (htt _ k_2245) (fun _ h9 => h9) d_Mod_file_66 ?_
      refine toI (y := nI b) hbb ?_
      refine lv_iload_n hx hb d_Mod_file_69 rfl (lv_at hl 1 rfl) ?_
      refine lv_iadd hx hb d_Mod_file_70 ?_
      refine toI (y := nI (b + len)) (nI_add b len) ?_
      show W _ _ _ _ _ _ _ _ _ _ _ _ _ _ _ (F0 _ 71 _ _)
      refine lv_iload_n hx hb d_Mod_file_71 rfl (lv_at hl 3 rfl) ?_
      refine lv_isub hx hb d_Mod_file_72 ?_
      refine toI (y := nI (b + len - n)) (pk_sub (by omega)) ?_
      refine lv_ldc (v := 32768) hx hb hown (htt _ k_2229) d_Mod_file_73 ?_
      refine lv_icmp_le (tgt := 81) hx hb d_Mod_file_75 (by decide) (fun h6 => ?_) (fun h6 => ?_)
      · have h7 : b + len - n ≤ 32768 := nI_le_of (b := 32768) (by omega) (by decide) h6
        refine lv_iconst (v := 0) hx hb d_Mod_file_81 (by decide) ?_
        refine lv_istore_n (lv' := [(3, .int 0), (2, .int (nI len)), (0, .ref (ad 0)), (1, .int (nI n))]) hx hb d_Mod_file_82 rfl hl (by decide) rfl (fun ls hl => ?_)
        have e7 : (setF (putI (putI S 0 1 0) 0 2 0) 1 (va_cpy ((putI (putI S 0 1 0) 0 2 0).2.1 0) ((putI (putI S 0 1 0) 0 2 0).2.1 1) 0 (64 * cnt) 0)) = (putI (putI S 0 1 0) 0 2 0) := by rw [cpy_zero, setF_self]
        rw [← e7] at hP hD
        refine m_file_loop2 hx hb hml hown htt hK hN hA (putI (putI S 0 1 0) 0 2 0) n cnt len hc h5 hn1 hf (fun i2 ls H locs hi2 hz0 hl hP hD hS => ?_) (n - 0 + 1) 0 ls _ _ (by omega) (Nat.zero_le _) (lv_sub hl [0, 1, 2, 3] rfl) hP hD hS
        rw [hz0] at hl hP hD
        refine lv_aload_n hx hb d_Mod_file_114 rfl (lv_at hl 2 rfl) ?_
        refine S_getR (h := shM) (C := "MacroMillModel") (T := F_Mod) hx hb htt in_Mod hown hK hP 0 5 rfl 3 rfl rfl (by decide) (htt _ k_2241) (fun _ h9 => h9) d_Mod_file_115 ?_
        refine lv_aload_n hx hb d_Mod_file_118 rfl (lv_at hl 2 rfl) ?_
        refine S_getI (h := shM) (C := "MacroMillModel") (T := F_Mod) hx hb htt in_Mod hown hK hP 0 3 rfl rfl rfl (by decide) (htt _ k_2239) (fun _ h9 => h9) d_Mod_file_119 ?_
        refine toI (y := nI cnt) hc ?_
        refine lv_iload_n hx hb d_Mod_file_122 rfl (lv_at hl 3 rfl) ?_
        show W _ _ _ _ _ _ _ _ _ _ _ _ _ _ _ (F0 _ 123 _ _)
        refine S_iast (h := shM) (i := nI cnt) (v := nI n) hx hb hK hP hD hS 2 rfl (vp_in_nI (by omega) (by decide)) d_Mod_file_123 (fun H locs hP hD hS => ?_)
        rw [nI_clamp (by omega)] at hP hD
        refine lv_aload_n hx hb d_Mod_file_124 rfl (lv_at hl 2 rfl) ?_
        refine S_getR (h := shM) (C := "MacroMillModel") (T := F_Mod) hx hb htt in_Mod hown hK hP 0 7 rfl 5 rfl rfl (by decide) (htt _ k_2243) (fun _ h9 => h9) d_Mod_file_125 ?_
        refine lv_aload_n hx hb d_Mod_file_128 rfl (lv_at hl 2 rfl) ?_
        refine S_getI (h := shM) (C := "MacroMillModel") (T := F_Mod) hx hb htt in_Mod hown hK hP 0 3 rfl rfl rfl (by decide) (htt _ k_2239) (fun _ h9 => h9) d_Mod_file_129 ?_
        refine toI (y := nI cnt) hc ?_
        refine lv_aload_n hx hb d_Mod_file_132 rfl (lv_at hl 2 rfl) ?_
        refine S_getI (h := shM) (C := "MacroMillModel") (T := F_Mod) hx hb htt in_Mod hown hK hP 0 9 rfl rfl rfl (by decide) (htt _ k_2245) (fun _ h9 => h9) d_Mod_file_133 ?_
        refine toI (y := nI b) hbb ?_
        refine S_iast (h := shM) (i := nI cnt) (v := nI b) hx hb hK hP hD hS 4 rfl (vp_in_nI (by omega) (by decide)) d_Mod_file_136 (fun H locs hP hD hS => ?_)
        rw [nI_clamp (by omega)] at hP hD
        refine lv_aload_n hx hb d_Mod_file_137 rfl (lv_at hl 2 rfl) ?_
        refine S_getR (h := shM) (C := "MacroMillModel") (T := F_Mod) hx hb htt in_Mod hown hK hP 0 8 rfl 6 rfl rfl (by decide) (htt _ k_2244) (fun _ h9 => h9) d_Mod_file_138 ?_
        refine lv_aload_n hx hb d_Mod_file_141 rfl (lv_at hl 2 rfl) ?_
        refine S_getI (h := shM) (C := "MacroMillModel") (T := F_Mod) hx hb htt in_Mod hown hK hP 0 3 rfl rfl rfl (by decide) (htt _ k_2239) (fun _ h9 => h9) d_Mod_file_142 ?_
        refine toI (y := nI cnt) hc ?_
        show W _ _ _ _ _ _ _ _ _ _ _ _ _ _ _ (F0 _ 145 _ _)
        refine lv_iload_n hx hb d_Mod_file_145 rfl (lv_at hl 1 rfl) ?_
        refine lv_iload_n hx hb d_Mod_file_146 rfl (lv_at hl 3 rfl) ?_
        refine lv_isub hx hb d_Mod_file_147 ?_
        refine toI (y := nI (len - n)) (pk_sub (by omega)) ?_
        refine S_iast (h := shM) (i := nI cnt) (v := nI (len - n)) hx hb hK hP hD hS 5 rfl (vp_in_nI (by omega) (by decide)) d_Mod_file_148 (fun H locs hP hD hS => ?_)
        rw [nI_clamp (by omega)] at hP hD
        refine lv_iload_n hx hb d_Mod_file_149 rfl (lv_at hl 3 rfl) ?_
        refine lv_istore_n (lv' := [(3, .int (nI n)), (2, .int (nI len)), (0, .ref (ad 0)), (1, .int (nI n))]) hx hb d_Mod_file_150 rfl hl (by decide) rfl (fun ls hl => ?_)
        have e8 : (putI (setF (putA (putA (putA (setF (putI (putI S 0 1 0) 0 2 0) 1 (va_cpy ((putI (putI S 0 1 0) 0 2 0).2.1 0) ((putI (putI S 0 1 0) 0 2 0).2.1 1) 0 (64 * cnt) n)) 2 cnt (nI n)) 4 cnt (nI b)) 5 cnt (nI (len - n))) 3 (va_cpy ((putA (putA (putA (setF (putI (putI S 0 1 0) 0 2 0) 1 (va_cpy ((putI (putI S 0 1 0) 0 2 0).2.1 0) ((putI (putI S 0 1 0) 0 2 0).2.1 1) 0 (64 * cnt) n)) 2 cnt (nI n)) 4 cnt (nI b)) 5 cnt (nI (len - n))).2.1 0) ((putA (putA (putA (setF (putI (putI S 0 1 0) 0 2 0) 1 (va_cpy ((putI (putI S 0 1 0) 0 2 0).2.1 0) ((putI (putI S 0 1 0) 0 2 0).2.1 1) 0 (64 * cnt) n)) 2 cnt (nI n)) 4 cnt (nI b)) 5 cnt (nI (len - n))).2.1 3) n b 0)) 0 9 (nI (b + 0))) = (putA (putA (putA (setF (putI (putI S 0 1 0) 0 2 0) 1 (va_cpy ((putI (putI S 0 1 0) 0 2 0).2.1 0) ((putI (putI S 0 1 0) 0 2 0).2.1 1) 0 (64 * cnt) n)) 2 cnt (nI n)) 4 cnt (nI b)) 5 cnt (nI (len - n))) := by
          rw [cpy_zero, setF_self]
          exact putI_self hbb
        rw [← e8] at hP hD
        refine m_file_loop3 hx hb hml hown htt hK hN hA (putA (putA (putA (setF (putI (putI S 0 1 0) 0 2 0) 1 (va_cpy ((putI (putI S 0 1 0) 0 2 0).2.1 0) ((putI (putI S 0 1 0) 0 2 0).2.1 1) 0 (64 * cnt) n)) 2 cnt (nI n)) 4 cnt (nI b)) 5 cnt (nI (len - n))) n b len hn2 hl2 (by omega) hf (fun i2 ls H locs hi2 hz0 hl hP hD hS => ?_) (len - (n + 0) + 1) 0 ls _ _ (by omega) (by omega) (lv_sub hl [0, 1, 2, 3] rfl) hP hD hS
        rw [hz0] at hl hP hD
        refine lv_aload_n hx hb d_Mod_file_187 rfl (lv_at hl 2 rfl) ?_
        refine lv_dup hx hb d_Mod_file_188 rfl ?_
        refine S_getI (h := shM) (C := "MacroMillModel") (T := F_Mod) hx hb htt in_Mod hown hK hP 0 3 rfl rfl rfl (by decide) (htt _ k_2239) (fun _ h9 => h9) d_Mod_file_189 ?_
        refine toI (y := nI cnt) hc ?_
        refine lv_iconst (v := 1) hx hb d_Mod_file_192 (by decide) ?_
        refine lv_iadd hx hb d_Mod_file_193 ?_
        refine toI (y := nI (cnt + 1)) (nI_1 cnt) ?_
        show W _ _ _ _ _ _ _ _ _ _ _ _ _ _ _ (F0 _ 194 _ _)
        refine S_put (h := shM) (C := "MacroMillModel") (T := F_Mod) (v := nI (cnt + 1)) hx hb htt in_Mod t_Mod t_Mod_ok n_Mod hown hK hP hD hS 0 3 rfl rfl rfl (by decide) (htt _ k_2239) (fun _ h9 => h9) rfl rfl rfl d_Mod_file_194 (fun H locs hP hD hS => ?_)
        refine lv_aload_n hx hb d_Mod_file_197 rfl (lv_at hl 2 rfl) ?_
        refine S_getI (h := shM) (C := "MacroMillModel") (T := F_Mod) hx hb htt in_Mod hown hK hP 0 3 rfl rfl rfl (by decide) (htt _ k_2239) (fun _ h9 => h9) d_Mod_file_198 ?_
        refine toI (y := nI (cnt + 1)) rfl ?_
        refine lv_iconst (v := 1) hx hb d_Mod_file_201 (by decide) ?_
        refine lv_isub hx hb d_Mod_file_202 ?_
        refine toI (y := nI cnt) (nI_pred cnt) ?_
        exact fin_i (g := g) (ws := Sw shM g ad (putI (putI (setF (putA (putA (putA (setF (putI (putI S 0 1 0) 0 2 0) 1 (va_cpy ((putI (putI S 0 1 0) 0 2 0).2.1 0) ((putI (putI S 0 1 0) 0 2 0).2.1 1) 0 (64 * cnt) n)) 2 cnt (nI n)) 4 cnt (nI b)) 5 cnt (nI (len - n))) 3 (va_cpy ((putA (putA (putA (setF (putI (putI S 0 1 0) 0 2 0) 1 (va_cpy ((putI (putI S 0 1 0) 0 2 0).2.1 0) ((putI (putI S 0 1 0) 0 2 0).2.1 1) 0 (64 * cnt) n)) 2 cnt (nI n)) 4 cnt (nI b)) 5 cnt (nI (len - n))).2.1 0) ((putA (putA (putA (setF (putI (putI S 0 1 0) 0 2 0) 1 (va_cpy ((putI (putI S 0 1 0) 0 2 0).2.1 0) ((putI (putI S 0 1 0) 0 2 0).2.1 1) 0 (64 * cnt) n)) 2 cnt (nI n)) 4 cnt (nI b)) 5 cnt (nI (len - n))).2.1 3) n b (len - n))) 0 9 (nI (b + (len - n)))) 0 3 (nI (cnt + 1)))) (v := nI cnt) hx hb hr hlocks (by decide +kernel) (by decide +kernel) hP hD hS ⟨_, rfl, Or.inr (Or.inr ⟨hno, h5, h7, rfl, rfl⟩)⟩ d_Mod_file_203
      · have h7 : 32768 < b + len - n := nI_lt_of (a := 32768) (by decide) (by omega) h6
        refine lv_bipush (v := (-4)) hx hb d_Mod_file_78 (by decide) ?_
        exact fin_i (g := g) (ws := Sw shM g ad (putI (putI S 0 1 0) 0 2 0)) (v := (-4)) hx hb hr hlocks (by decide +kernel) (by decide +kernel) hP hD hS ⟨_, rfl, Or.inr (Or.inl ⟨hno, Or.inr h7, rfl, rfl⟩)⟩ d_Mod_file_80
