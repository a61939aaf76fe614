theorem nI_pred3 {e t : Nat} (h : 1 ≤ t) : nI (e + t) - 1 = nI (e + (t - 1)) := by
  rw [nI_pred2 (by omega), show e + t - 1 = e + (t - 1) by omega]
theorem nI_m1_next3 {e t : Nat} (h : 1 ≤ t) : nI (e + t) - 1 + Int32.ofInt (-1) = nI (e + (t - 1)) - 1 := by
  rw [show Int32.ofInt (-1) = -1 by decide, nI_pred3 h, Int32.sub_eq_add_neg]
theorem m1_lt3 {e t : Nat} (hb : e + t < 2 ^ 31) (h : nI (e + t) - 1 < nI e) : t = 0 := by
  rcases (show t = 0 ∨ 1 ≤ t by omega) with h0 | h1
  · exact h0
  · rw [nI_pred3 h1] at h
    exact absurd h (nI_nlt (by omega) (by omega))
theorem m1_ge3 {e t : Nat} (hb : e < 2 ^ 31) (h : ¬ nI (e + t) - 1 < nI e) : 1 ≤ t := by
  rcases (show t = 0 ∨ 1 ≤ t by omega) with h0 | h1
  · subst h0
    refine absurd ?_ h
    rcases (show e = 0 ∨ 1 ≤ e by omega) with h0 | h1
    · subst h0
      decide
    · rw [Nat.add_zero, nI_pred2 h1]
      exact nI_lt (by omega) hb
  · exact h1
theorem cpy_downE {f g : Nat → Int32} {sp sp' dp dp' k k' : Nat} (h1 : sp = sp' + 1) (h2 : dp = dp' + 1) (h3 : k' = k + 1) : upd (va_cpy f g sp dp k) dp' (f sp') = va_cpy f g sp' dp' k' := by
  subst h1 h2 h3
  funext j
  unfold upd va_cpy
  by_cases h : j = dp'
  · subst h
    rw [if_pos rfl, if_pos ⟨Nat.le_refl _, by omega⟩, Nat.sub_self, Nat.add_zero]
  · rw [if_neg h]
    by_cases h2 : dp' + 1 ≤ j ∧ j < dp' + 1 + k
    · rw [if_pos h2, if_pos ⟨by omega, by omega⟩]
      congr 1
      omega
    · rw [if_neg h2, if_neg (fun z => h2 ⟨by omega, by omega⟩)]
theorem setF_setF {S : sS} {a : Nat} {f g : Nat → Int32} : setF (setF S a f) a g = setF S a g := by
  unfold setF
  congr 2
  funext b
  by_cases h : b = a
  · simp [h]
  · simp [h]
/-- the reference's bytes behind write: those from e on go len further, then the tape's come to e -/
def mApp (S : sS) (e b len : Nat) : sS := setF S 3 (va_cpy (S.2.1 0) (va_cpy (S.2.1 3) (S.2.1 3) e (e + len) (b - e)) 0 e len)

theorem d_Mod_write_0 : decode b_Mod_write 0 = .ok (.aload_n 0, 1) := by decide +kernel
theorem d_Mod_write_1 : decode b_Mod_write 1 = .ok (.invokevirtual 248, 3) := by decide +kernel
theorem d_Mod_write_4 : decode b_Mod_write 4 = .ok (.istore_n 2, 1) := by decide +kernel
theorem d_Mod_write_5 : decode b_Mod_write 5 = .ok (.iload_n 1, 1) := by decide +kernel
theorem d_Mod_write_6 : decode b_Mod_write 6 = .ok (.ifCond .lt 11, 3) := by decide +kernel
theorem d_Mod_write_9 : decode b_Mod_write 9 = .ok (.iload_n 1, 1) := by decide +kernel
theorem d_Mod_write_10 : decode b_Mod_write 10 = .ok (.aload_n 0, 1) := by decide +kernel
theorem d_Mod_write_11 : decode b_Mod_write 11 = .ok (.getfield 252, 3) := by decide +kernel
theorem d_Mod_write_14 : decode b_Mod_write 14 = .ok (.if_icmp .lt 5, 3) := by decide +kernel
theorem d_Mod_write_17 : decode b_Mod_write 17 = .ok (.iconst (-1), 1) := by decide +kernel
theorem d_Mod_write_18 : decode b_Mod_write 18 = .ok (.ireturn, 1) := by decide +kernel
theorem d_Mod_write_19 : decode b_Mod_write 19 = .ok (.aload_n 0, 1) := by decide +kernel
theorem d_Mod_write_20 : decode b_Mod_write 20 = .ok (.getfield 259, 3) := by decide +kernel
theorem d_Mod_write_23 : decode b_Mod_write 23 = .ok (.iload_n 2, 1) := by decide +kernel
theorem d_Mod_write_24 : decode b_Mod_write 24 = .ok (.iadd, 1) := by decide +kernel
theorem d_Mod_write_25 : decode b_Mod_write 25 = .ok (.ldc 20, 2) := by decide +kernel
theorem d_Mod_write_27 : decode b_Mod_write 27 = .ok (.if_icmp .le 6, 3) := by decide +kernel
theorem d_Mod_write_30 : decode b_Mod_write 30 = .ok (.bipush (-4), 2) := by decide +kernel
theorem d_Mod_write_32 : decode b_Mod_write 32 = .ok (.ireturn, 1) := by decide +kernel
theorem d_Mod_write_33 : decode b_Mod_write 33 = .ok (.aload_n 0, 1) := by decide +kernel
theorem d_Mod_write_34 : decode b_Mod_write 34 = .ok (.getfield 24, 3) := by decide +kernel
theorem d_Mod_write_37 : decode b_Mod_write 37 = .ok (.iload_n 1, 1) := by decide +kernel
theorem d_Mod_write_38 : decode b_Mod_write 38 = .ok (.iaload, 1) := by decide +kernel
theorem d_Mod_write_39 : decode b_Mod_write 39 = .ok (.aload_n 0, 1) := by decide +kernel
theorem d_Mod_write_40 : decode b_Mod_write 40 = .ok (.getfield 27, 3) := by decide +kernel
theorem d_Mod_write_43 : decode b_Mod_write 43 = .ok (.iload_n 1, 1) := by decide +kernel
theorem d_Mod_write_44 : decode b_Mod_write 44 = .ok (.iaload, 1) := by decide +kernel
theorem d_Mod_write_45 : decode b_Mod_write 45 = .ok (.iadd, 1) := by decide +kernel
theorem d_Mod_write_46 : decode b_Mod_write 46 = .ok (.istore_n 3, 1) := by decide +kernel
theorem d_Mod_write_47 : decode b_Mod_write 47 = .ok (.aload_n 0, 1) := by decide +kernel
theorem d_Mod_write_48 : decode b_Mod_write 48 = .ok (.getfield 259, 3) := by decide +kernel
theorem d_Mod_write_51 : decode b_Mod_write 51 = .ok (.iconst 1, 1) := by decide +kernel
theorem d_Mod_write_52 : decode b_Mod_write 52 = .ok (.isub, 1) := by decide +kernel
theorem d_Mod_write_53 : decode b_Mod_write 53 = .ok (.istore 4, 2) := by decide +kernel
theorem d_Mod_write_55 : decode b_Mod_write 55 = .ok (.iload 4, 2) := by decide +kernel
theorem d_Mod_write_57 : decode b_Mod_write 57 = .ok (.iload_n 3, 1) := by decide +kernel
theorem d_Mod_write_58 : decode b_Mod_write 58 = .ok (.if_icmp .lt 25, 3) := by decide +kernel
theorem d_Mod_write_61 : decode b_Mod_write 61 = .ok (.aload_n 0, 1) := by decide +kernel
theorem d_Mod_write_62 : decode b_Mod_write 62 = .ok (.getfield 21, 3) := by decide +kernel
theorem d_Mod_write_65 : decode b_Mod_write 65 = .ok (.iload 4, 2) := by decide +kernel
theorem d_Mod_write_67 : decode b_Mod_write 67 = .ok (.iload_n 2, 1) := by decide +kernel
theorem d_Mod_write_68 : decode b_Mod_write 68 = .ok (.iadd, 1) := by decide +kernel
theorem d_Mod_write_69 : decode b_Mod_write 69 = .ok (.aload_n 0, 1) := by decide +kernel
theorem d_Mod_write_70 : decode b_Mod_write 70 = .ok (.getfield 21, 3) := by decide +kernel
theorem d_Mod_write_73 : decode b_Mod_write 73 = .ok (.iload 4, 2) := by decide +kernel
theorem d_Mod_write_75 : decode b_Mod_write 75 = .ok (.baload, 1) := by decide +kernel
theorem d_Mod_write_76 : decode b_Mod_write 76 = .ok (.bastore, 1) := by decide +kernel
theorem d_Mod_write_77 : decode b_Mod_write 77 = .ok (.iinc 4 (-1), 3) := by decide +kernel
theorem d_Mod_write_80 : decode b_Mod_write 80 = .ok (.goto (-25), 3) := by decide +kernel
theorem d_Mod_write_83 : decode b_Mod_write 83 = .ok (.iconst 0, 1) := by decide +kernel
theorem d_Mod_write_84 : decode b_Mod_write 84 = .ok (.istore 4, 2) := by decide +kernel
theorem d_Mod_write_86 : decode b_Mod_write 86 = .ok (.iload 4, 2) := by decide +kernel
theorem d_Mod_write_88 : decode b_Mod_write 88 = .ok (.iload_n 2, 1) := by decide +kernel
theorem d_Mod_write_89 : decode b_Mod_write 89 = .ok (.if_icmp .ge 25, 3) := by decide +kernel
theorem d_Mod_write_92 : decode b_Mod_write 92 = .ok (.aload_n 0, 1) := by decide +kernel
theorem d_Mod_write_93 : decode b_Mod_write 93 = .ok (.getfield 21, 3) := by decide +kernel
theorem d_Mod_write_96 : decode b_Mod_write 96 = .ok (.iload_n 3, 1) := by decide +kernel
theorem d_Mod_write_97 : decode b_Mod_write 97 = .ok (.iload 4, 2) := by decide +kernel
theorem d_Mod_write_99 : decode b_Mod_write 99 = .ok (.iadd, 1) := by decide +kernel
theorem d_Mod_write_100 : decode b_Mod_write 100 = .ok (.aload_n 0, 1) := by decide +kernel
theorem d_Mod_write_101 : decode b_Mod_write 101 = .ok (.getfield 9, 3) := by decide +kernel
theorem d_Mod_write_104 : decode b_Mod_write 104 = .ok (.iload 4, 2) := by decide +kernel
theorem d_Mod_write_106 : decode b_Mod_write 106 = .ok (.baload, 1) := by decide +kernel
theorem d_Mod_write_107 : decode b_Mod_write 107 = .ok (.bastore, 1) := by decide +kernel
theorem d_Mod_write_108 : decode b_Mod_write 108 = .ok (.iinc 4 1, 3) := by decide +kernel
theorem d_Mod_write_111 : decode b_Mod_write 111 = .ok (.goto (-25), 3) := by decide +kernel
theorem d_Mod_write_114 : decode b_Mod_write 114 = .ok (.iload_n 1, 1) := by decide +kernel
theorem d_Mod_write_115 : decode b_Mod_write 115 = .ok (.iconst 1, 1) := by decide +kernel
theorem d_Mod_write_116 : decode b_Mod_write 116 = .ok (.iadd, 1) := by decide +kernel
theorem d_Mod_write_117 : decode b_Mod_write 117 = .ok (.istore 4, 2) := by decide +kernel
theorem d_Mod_write_119 : decode b_Mod_write 119 = .ok (.iload 4, 2) := by decide +kernel
theorem d_Mod_write_121 : decode b_Mod_write 121 = .ok (.aload_n 0, 1) := by decide +kernel
theorem d_Mod_write_122 : decode b_Mod_write 122 = .ok (.getfield 252, 3) := by decide +kernel
theorem d_Mod_write_125 : decode b_Mod_write 125 = .ok (.if_icmp .ge 25, 3) := by decide +kernel
theorem d_Mod_write_128 : decode b_Mod_write 128 = .ok (.aload_n 0, 1) := by decide +kernel
theorem d_Mod_write_129 : decode b_Mod_write 129 = .ok (.getfield 24, 3) := by decide +kernel
theorem d_Mod_write_132 : decode b_Mod_write 132 = .ok (.iload 4, 2) := by decide +kernel
theorem d_Mod_write_134 : decode b_Mod_write 134 = .ok (.aload_n 0, 1) := by decide +kernel
theorem d_Mod_write_135 : decode b_Mod_write 135 = .ok (.getfield 24, 3) := by decide +kernel
theorem d_Mod_write_138 : decode b_Mod_write 138 = .ok (.iload 4, 2) := by decide +kernel
theorem d_Mod_write_140 : decode b_Mod_write 140 = .ok (.iaload, 1) := by decide +kernel
theorem d_Mod_write_141 : decode b_Mod_write 141 = .ok (.iload_n 2, 1) := by decide +kernel
theorem d_Mod_write_142 : decode b_Mod_write 142 = .ok (.iadd, 1) := by decide +kernel
theorem d_Mod_write_143 : decode b_Mod_write 143 = .ok (.iastore, 1) := by decide +kernel
theorem d_Mod_write_144 : decode b_Mod_write 144 = .ok (.iinc 4 1, 3) := by decide +kernel
theorem d_Mod_write_147 : decode b_Mod_write 147 = .ok (.goto (-28), 3) := by decide +kernel
theorem d_Mod_write_150 : decode b_Mod_write 150 = .ok (.aload_n 0, 1) := by decide +kernel
theorem d_Mod_write_151 : decode b_Mod_write 151 = .ok (.getfield 27, 3) := by decide +kernel
theorem d_Mod_write_154 : decode b_Mod_write 154 = .ok (.iload_n 1, 1) := by decide +kernel
theorem d_Mod_write_155 : decode b_Mod_write 155 = .ok (.aload_n 0, 1) := by decide +kernel
theorem d_Mod_write_156 : decode b_Mod_write 156 = .ok (.getfield 27, 3) := by decide +kernel
theorem d_Mod_write_159 : decode b_Mod_write 159 = .ok (.iload_n 1, 1) := by decide +kernel
theorem d_Mod_write_160 : decode b_Mod_write 160 = .ok (.iaload, 1) := by decide +kernel
theorem d_Mod_write_161 : decode b_Mod_write 161 = .ok (.iload_n 2, 1) := by decide +kernel
theorem d_Mod_write_162 : decode b_Mod_write 162 = .ok (.iadd, 1) := by decide +kernel
theorem d_Mod_write_163 : decode b_Mod_write 163 = .ok (.iastore, 1) := by decide +kernel
theorem d_Mod_write_164 : decode b_Mod_write 164 = .ok (.aload_n 0, 1) := by decide +kernel
theorem d_Mod_write_165 : decode b_Mod_write 165 = .ok (.aload_n 0, 1) := by decide +kernel
theorem d_Mod_write_166 : decode b_Mod_write 166 = .ok (.getfield 259, 3) := by decide +kernel
theorem d_Mod_write_169 : decode b_Mod_write 169 = .ok (.iload_n 2, 1) := by decide +kernel
theorem d_Mod_write_170 : decode b_Mod_write 170 = .ok (.iadd, 1) := by decide +kernel
theorem d_Mod_write_171 : decode b_Mod_write 171 = .ok (.putfield 259, 3) := by decide +kernel
theorem d_Mod_write_174 : decode b_Mod_write 174 = .ok (.aload_n 0, 1) := by decide +kernel
theorem d_Mod_write_175 : decode b_Mod_write 175 = .ok (.getfield 27, 3) := by decide +kernel
theorem d_Mod_write_178 : decode b_Mod_write 178 = .ok (.iload_n 1, 1) := by decide +kernel
theorem d_Mod_write_179 : decode b_Mod_write 179 = .ok (.iaload, 1) := by decide +kernel
theorem d_Mod_write_180 : decode b_Mod_write 180 = .ok (.ireturn, 1) := by decide +kernel
set_option maxHeartbeats 4000000 in
set_option maxRecDepth 100000 in
theorem m_write_loop1 {p : Program} {l : Launch} {e : Env} {R : Room} {s : State} {m : MethodId} {args : Array Value} {below : List Frame} {meth : Method} {c : Code} {cells slots : Nat} {Q : State → Prop} {g : gG} {A : Nat → Prop} {ad : Nat → Nat} (hx : p.tables.exec = Jvm.exec) (hb : c.code = b_Mod_write) (hml : c.maxLocals = 5) (hown : s.vm.findClass "MacroMillModel" = some m.cls) (htt : ∀ w ∈ gt, w.before args s = true) (hK : va_K g.1 classes (tysG g) s) (hN : nw s) (hA : ∀ q : Nat, s.heap.size ≤ q → A q) (S0 : sS) (e0 : Nat) (b : Nat) (len : Nat) (j : Nat) (hb3 : b + len ≤ 32768) (hfb : ∀ i, fits .byte (.int (S0.2.1 3 i)) = true)
    (kx_83 : ∀ (t : Nat) (ls : Array Slot) (H : Heap) (locs : List Loc), e0 + t ≤ b → t = 0 →  lv_has ls 5 [(4, .int (nI (e0 + t) - 1)), (3, .int (nI e0)), (2, .int (nI len)), (0, .ref (ad 0)), (1, .int (nI j))] → va_P g.1 classes (Sw shM g ad (setF S0 3 (va_cpy (S0.2.1 3) (S0.2.1 3) (e0 + t) (e0 + t + len) (b - e0 - t)))) H → va_D A (Sw shM g ad (setF S0 3 (va_cpy (S0.2.1 3) (S0.2.1 3) (e0 + t) (e0 + t + len) (b - e0 - t)))) → va_S A s.heap H locs → W p l e R s m args below meth c H locs cells slots Q (F0 m 83 ls [])) :
    ∀ (k9 : Nat) (t : Nat) (ls : Array Slot) (H : Heap) (locs : List Loc), t < k9 → e0 + t ≤ b → lv_has ls 5 [(4, .int (nI (e0 + t) - 1)), (3, .int (nI e0)), (2, .int (nI len)), (0, .ref (ad 0)), (1, .int (nI j))] → va_P g.1 classes (Sw shM g ad (setF S0 3 (va_cpy (S0.2.1 3) (S0.2.1 3) (e0 + t) (e0 + t + len) (b - e0 - t)))) H → va_D A (Sw shM g ad (setF S0 3 (va_cpy (S0.2.1 3) (S0.2.1 3) (e0 + t) (e0 + t + len) (b - e0 - t)))) → va_S A s.heap H locs → W p l e R s m args below meth c H locs cells slots Q (F0 m 55 ls []) := by
  intro k9
  induction k9 with
  | zero =>
    intro t ls H locs hk9 ht hl hP hD hS
    exact absurd hk9 (Nat.not_lt_zero _)
  | succ k9 ih =>
    intro t ls H locs hk9 ht hl hP hD hS
    refine lv_iload hx hb d_Mod_write_55 (lv_at hl 0 rfl) ?_
    refine lv_iload_n hx hb d_Mod_write_57 rfl (lv_at hl 1 rfl) ?_
    refine lv_icmp_lt (tgt := 83) hx hb d_Mod_write_58 (by decide) (fun h1 => ?_) (fun h1 => ?_)
    · exact kx_83 t ls H locs ht (m1_lt3 (by omega) h1) (lv_sub hl [0, 1, 2, 3, 4] rfl) hP hD hS
    · have h3 : 1 ≤ t := m1_ge3 (by omega) h1
      refine lv_aload_n hx hb d_Mod_write_61 rfl (lv_at hl 3 rfl) ?_
      refine S_getR (h := shM) (C := "MacroMillModel") (T := F_Mod) hx hb htt in_Mod hown hK hP 0 6 rfl 4 rfl rfl (by decide) (htt _ k_2242) (fun _ h9 => h9) d_Mod_write_62 ?_
      refine lv_iload hx hb d_Mod_write_65 (lv_at hl 0 rfl) ?_
      refine lv_iload_n hx hb d_Mod_write_67 rfl (lv_at hl 2 rfl) ?_
      refine lv_iadd hx hb d_Mod_write_68 ?_
      refine toI (y := nI (e0 + (t - 1) + len)) (by rw [nI_pred3 h3, nI_add]) ?_
      refine lv_aload_n hx hb d_Mod_write_69 rfl (lv_at hl 3 rfl) ?_
      refine S_getR (h := shM) (C := "MacroMillModel") (T := F_Mod) hx hb htt in_Mod hown hK hP 0 6 rfl 4 rfl rfl (by decide) (htt _ k_2242) (fun _ h9 => h9) d_Mod_write_70 ?_
      refine lv_iload hx hb d_Mod_write_73 (lv_at hl 0 rfl) ?_
      show W _ _ _ _ _ _ _ _ _ _ _ _ _ _ _ (F0 _ 75 _ _)
      refine S_bald (h := shM) (i := nI (e0 + t) - 1) hx hb hK hP 3 rfl (by rw [nI_pred3 h3]; exact vp_in_nI (by omega) (by decide)) d_Mod_write_75 ?_
      refine toI (y := S0.2.1 3 (e0 + (t - 1))) (by rw [nI_pred3 h3, nI_clamp (by omega)]; show va_cpy (S0.2.1 3) (S0.2.1 3) (e0 + t) (e0 + t + len) (b - e0 - t) (e0 + (t - 1)) = _; unfold va_cpy; rw [if_neg (fun z => by omega)]) ?_
      refine S_bast (h := shM) (i := nI (e0 + (t - 1) + len)) (v := S0.2.1 3 (e0 + (t - 1))) hx hb hK hP hD hS 3 rfl (vp_in_nI (by omega) (by decide)) d_Mod_write_76 (fun H locs hP hD hS => ?_)
      rw [nI_clamp (by omega), putA_setF, nar_fit (hfb _), cpy_downE (sp' := e0 + (t - 1)) (dp' := e0 + (t - 1) + len) (k' := b - e0 - (t - 1)) (by omega) (by omega) (by omega)] at hP hD
      refine lv_iinc (k := 0) (v := nI (e0 + (t - 1)) - 1) (lv' := [(4, .int (nI (e0 + (t - 1)) - 1)), (3, .int (nI e0)), (2, .int (nI len)), (0, .ref (ad 0)), (1, .int (nI j))]) hx hb d_Mod_write_77 hl rfl (nI_m1_next3 h3) (by decide) rfl (fun ls hl => ?_)
      refine lv_goto (tgt := 55) hx hb d_Mod_write_80 (by decide) ?_
      exact ih (t - 1) ls H locs (by omega) (by omega) (lv_sub hl [0, 1, 2, 3, 4] rfl) hP hD hS
set_option maxHeartbeats 4000000 in
set_option maxRecDepth 100000 in
theorem m_write_loop2 {p : Program} {l : Launch} {e : Env} {R : Room} {s : State} {m : MethodId} {args : Array Value} {below : List Frame} {meth : Method} {c : Code} {cells slots : Nat} {Q : State → Prop} {g : gG} {A : Nat → Prop} {ad : Nat → Nat} (hx : p.tables.exec = Jvm.exec) (hb : c.code = b_Mod_write) (hml : c.maxLocals = 5) (hown : s.vm.findClass "MacroMillModel" = some m.cls) (htt : ∀ w ∈ gt, w.before args s = true) (hK : va_K g.1 classes (tysG g) s) (hN : nw s) (hA : ∀ q : Nat, s.heap.size ≤ q → A q) (S0 : sS) (e0 : Nat) (len : Nat) (j : Nat) (hl2 : len ≤ 16384) (hb3 : e0 + len ≤ 32768) (hf : ∀ i, fits .byte (.int (S0.2.1 0 i)) = true)
    (kx_114 : ∀ (i : Nat) (ls : Array Slot) (H : Heap) (locs : List Loc), i ≤ len → i = len →  lv_has ls 5 [(4, .int (nI i)), (3, .int (nI e0)), (2, .int (nI len)), (0, .ref (ad 0)), (1, .int (nI j))] → va_P g.1 classes (Sw shM g ad (setF S0 3 (va_cpy (S0.2.1 0) (S0.2.1 3) 0 e0 i))) H → va_D A (Sw shM g ad (setF S0 3 (va_cpy (S0.2.1 0) (S0.2.1 3) 0 e0 i))) → va_S A s.heap H locs → W p l e R s m args below meth c H locs cells slots Q (F0 m 114 ls [])) :
    ∀ (k9 : Nat) (i : Nat) (ls : Array Slot) (H : Heap) (locs : List Loc), len - i < k9 → i ≤ len → lv_has ls 5 [(4, .int (nI i)), (3, .int (nI e0)), (2, .int (nI len)), (0, .ref (ad 0)), (1, .int (nI j))] → va_P g.1 classes (Sw shM g ad (setF S0 3 (va_cpy (S0.2.1 0) (S0.2.1 3) 0 e0 i))) H → va_D A (Sw shM g ad (setF S0 3 (va_cpy (S0.2.1 0) (S0.2.1 3) 0 e0 i))) → va_S A s.heap H locs → W p l e R s m args below meth c H locs cells slots Q (F0 m 86 ls []) := by
  intro k9
  induction k9 with
  | zero =>
    intro i ls H locs hk9 hi hl hP hD hS
    exact absurd hk9 (Nat.not_lt_zero _)
  | succ k9 ih =>
    intro i ls H locs hk9 hi hl hP hD hS
    refine lv_iload hx hb d_Mod_write_86 (lv_at hl 0 rfl) ?_
    refine lv_iload_n hx hb d_Mod_write_88 rfl (lv_at hl 2 rfl) ?_
    refine lv_icmp_ge (tgt := 114) hx hb d_Mod_write_89 (by decide) (fun h1 => ?_) (fun h1 => ?_)
    · exact kx_114 i ls H locs hi (by have h2 := nI_le_of (by omega) (by omega) h1; omega) (lv_sub hl [0, 1, 2, 3, 4] rfl) hP hD hS
    · have h3 : i < len := nI_lt_of (by omega) (by omega) h1
      refine lv_aload_n hx hb d_Mod_write_92 rfl (lv_at hl 3 rfl) ?_
      refine S_getR (h := shM) (C := "MacroMillModel") (T := F_Mod) hx hb htt in_Mod hown hK hP 0 6 rfl 4 rfl rfl (by decide) (htt _ k_2242) (fun _ h9 => h9) d_Mod_write_93 ?_
      refine lv_iload_n hx hb d_Mod_write_96 rfl (lv_at hl 1 rfl) ?_
      refine lv_iload hx hb d_Mod_write_97 (lv_at hl 0 rfl) ?_
      refine lv_iadd hx hb d_Mod_write_99 ?_
      refine toI (y := nI (e0 + i)) (nI_add _ _) ?_
      refine lv_aload_n hx hb d_Mod_write_100 rfl (lv_at hl 3 rfl) ?_
      refine S_getR (h := shM) (C := "MacroMillModel") (T := F_Mod) hx hb htt in_Mod hown hK hP 0 0 rfl 1 rfl rfl (by decide) (htt _ k_2236) (fun _ h9 => h9) d_Mod_write_101 ?_
      refine lv_iload hx hb d_Mod_write_104 (lv_at hl 0 rfl) ?_
      show W _ _ _ _ _ _ _ _ _ _ _ _ _ _ _ (F0 _ 106 _ _)
      refine S_bald (h := shM) (i := nI i) hx hb hK hP 0 rfl (vp_in_nI (by omega) (by decide)) d_Mod_write_106 ?_
      refine toI (y := S0.2.1 0 (0 + i)) (by rw [nI_clamp (by omega), Nat.zero_add]; rfl) ?_
      refine S_bast (h := shM) (i := nI (e0 + i)) (v := S0.2.1 0 (0 + i)) hx hb hK hP hD hS 3 rfl (vp_in_nI (by omega) (by decide)) d_Mod_write_107 (fun H locs hP hD hS => ?_)
      rw [nI_clamp (by omega), putA_setF, nar_fit (hf _), cpy_upd] at hP hD
      refine lv_iinc (k := 0) (v := nI (i + 1)) (lv' := [(4, .int (nI (i + 1))), (3, .int (nI e0)), (2, .int (nI len)), (0, .ref (ad 0)), (1, .int (nI j))]) hx hb d_Mod_write_108 hl rfl (nI_succ i).symm (by decide) rfl (fun ls hl => ?_)
      refine lv_goto (tgt := 86) hx hb d_Mod_write_111 (by decide) ?_
      exact ih (i + 1) ls H locs (by omega) (by omega) (lv_sub hl [0, 1, 2, 3, 4] rfl) hP hD hS
set_option maxHeartbeats 4000000 in
set_option maxRecDepth 100000 in
theorem m_write_loop3 {p : Program} {l : Launch} {e : Env} {R : Room} {s : State} {m : MethodId} {args : Array Value} {below : List Frame} {meth : Method} {c : Code} {cells slots : Nat} {Q : State → Prop} {g : gG} {A : Nat → Prop} {ad : Nat → Nat} (hx : p.tables.exec = Jvm.exec) (hb : c.code = b_Mod_write) (hml : c.maxLocals = 5) (hown : s.vm.findClass "MacroMillModel" = some m.cls) (htt : ∀ w ∈ gt, w.before args s = true) (hK : va_K g.1 classes (tysG g) s) (hN : nw s) (hA : ∀ q : Nat, s.heap.size ≤ q → A q) (S0 : sS) (at0 : Nat → Nat) (cnt : Nat) (j : Nat) (e0 : Nat) (len : Nat) (hc : S0.1 0 3 = nI cnt) (hc2 : cnt ≤ 32)
    (kx_150 : ∀ (i : Nat) (f4 : Nat → Int32) (ls : Array Slot) (H : Heap) (locs : List Loc), j < i → i ≤ cnt → (∀ k, k < cnt → f4 k = nI (if j < k ∧ k < i then at0 k + len else at0 k)) → i = cnt →  lv_has ls 5 [(4, .int (nI i)), (3, .int (nI e0)), (2, .int (nI len)), (0, .ref (ad 0)), (1, .int (nI j))] → va_P g.1 classes (Sw shM g ad (setF S0 4 f4)) H → va_D A (Sw shM g ad (setF S0 4 f4)) → va_S A s.heap H locs → W p l e R s m args below meth c H locs cells slots Q (F0 m 150 ls [])) :
    ∀ (k9 : Nat) (i : Nat) (f4 : Nat → Int32) (ls : Array Slot) (H : Heap) (locs : List Loc), cnt - i < k9 → j < i → i ≤ cnt → (∀ k, k < cnt → f4 k = nI (if j < k ∧ k < i then at0 k + len else at0 k)) → lv_has ls 5 [(4, .int (nI i)), (3, .int (nI e0)), (2, .int (nI len)), (0, .ref (ad 0)), (1, .int (nI j))] → va_P g.1 classes (Sw shM g ad (setF S0 4 f4)) H → va_D A (Sw shM g ad (setF S0 4 f4)) → va_S A s.heap H locs → W p l e R s m args below meth c H locs cells slots Q (F0 m 119 ls []) := by
  intro k9
  induction k9 with
  | zero =>
    intro i f4 ls H locs hk9 hi hi2 hg hl hP hD hS
    exact absurd hk9 (Nat.not_lt_zero _)
  | succ k9 ih =>
    intro i f4 ls H locs hk9 hi hi2 hg hl hP hD hS
    refine lv_iload hx hb d_Mod_write_119 (lv_at hl 0 rfl) ?_
    refine lv_aload_n hx hb d_Mod_write_121 rfl (lv_at hl 3 rfl) ?_
    refine S_getI (h := shM) (C := "MacroMillModel") (T := F_Mod) hx hb htt in_Mod hown hK hP 0 3 rfl rfl rfl (by decide) (htt _ k_2239) (fun _ h9 => h9) d_Mod_write_122 ?_
    refine toI (y := nI cnt) hc ?_
    refine lv_icmp_ge (tgt := 150) hx hb d_Mod_write_125 (by decide) (fun h1 => ?_) (fun h1 => ?_)
    · exact kx_150 i f4 ls H locs hi hi2 hg (by have h2 := nI_le_of (by omega) (by omega) h1; omega) (lv_sub hl [0, 1, 2, 3, 4] rfl) hP hD hS
    · have h3 : i < cnt := nI_lt_of (by omega) (by omega) h1
      refine lv_aload_n hx hb d_Mod_write_128 rfl (lv_at hl 3 rfl) ?_
      refine S_getR (h := shM) (C := "MacroMillModel") (T := F_Mod) hx hb htt in_Mod hown hK hP 0 7 rfl 5 rfl rfl (by decide) (htt _ k_2243) (fun _ h9 => h9) d_Mod_write_129 ?_
      refine lv_iload hx hb d_Mod_write_132 (lv_at hl 0 rfl) ?_
      refine lv_aload_n hx hb d_Mod_write_134 rfl (lv_at hl 3 rfl) ?_
      refine S_getR (h := shM) (C := "MacroMillModel") (T := F_Mod) hx hb htt in_Mod hown hK hP 0 7 rfl 5 rfl rfl (by decide) (htt _ k_2243) (fun _ h9 => h9) d_Mod_write_135 ?_
      refine lv_iload hx hb d_Mod_write_138 (lv_at hl 0 rfl) ?_
      refine S_iald (h := shM) (i := nI i) hx hb hK hP 4 rfl (vp_in_nI (by omega) (by decide)) d_Mod_write_140 ?_
      refine toI (y := nI (at0 i)) (by rw [nI_clamp (by omega)]; show f4 i = _; rw [hg i h3, if_neg (fun z => Nat.lt_irrefl _ z.2)]) ?_
      show W _ _ _ _ _ _ _ _ _ _ _ _ _ _ _ (F0 _ 141 _ _)
      refine lv_iload_n hx hb d_Mod_write_141 rfl (lv_at hl 2 rfl) ?_
      refine lv_iadd hx hb d_Mod_write_142 ?_
      refine toI (y := nI (at0 i + len)) (nI_add _ _) ?_
      refine S_iast (h := shM) (i := nI i) (v := nI (at0 i + len)) hx hb hK hP hD hS 4 rfl (vp_in_nI (by omega) (by decide)) d_Mod_write_143 (fun H locs hP hD hS => ?_)
      rw [nI_clamp (by omega), putA_setF] at hP hD
      refine lv_iinc (k := 0) (v := nI (i + 1)) (lv' := [(4, .int (nI (i + 1))), (3, .int (nI e0)), (2, .int (nI len)), (0, .ref (ad 0)), (1, .int (nI j))]) hx hb d_Mod_write_144 hl rfl (nI_succ i).symm (by decide) rfl (fun ls hl => ?_)
      refine lv_goto (tgt := 119) hx hb d_Mod_write_147 (by decide) ?_
      exact ih (i + 1) (upd f4 i (nI (at0 i + len))) ls H locs (by omega) (by omega) (by omega) (fun k hk => by
        unfold upd
        by_cases hki : k = i
        · subst hki
          rw [if_pos rfl, if_pos ⟨hi, Nat.lt_succ_self _⟩]
        · rw [if_neg hki, hg k hk]
          congr 1
          by_cases hz : j < k ∧ k < i
          · rw [if_pos hz, if_pos ⟨hz.1, by omega⟩]
          · rw [if_neg hz, if_neg (fun z => hz ⟨z.1, by omega⟩)]) (lv_sub hl [0, 1, 2, 3, 4] rfl) hP hD hS
abbrev rm_m_writeBad : Room := { frames := 1, cells := 0, slots := 0, locals := 21 }
set_option maxHeartbeats 4000000 in
set_option maxRecDepth 100000 in
theorem m_writeBad (l : Launch) (g : gG) (sz : Nat) (ad : Nat → Nat) (S : sS) (len : Nat) (cnt : Nat) (v1 : Int32) (hs0 : S.1 0 1 = nI len) (hl2 : len ≤ 16384) (hc : S.1 0 3 = nI cnt) (hv : v1 < 0 ∨ ¬ v1 < nI cnt) : Ci l y_Mod_write b_Mod_write 5 rm_m_writeBad g [.ref (ad 0), .int v1] (Sw shM g ad S) sz (fun r w => ∃ S' : sS, w = Sw shM g ad S' ∧ r = (-1) ∧ S' = (putI (putI S 0 1 0) 0 2 0)) := by
  refine startI (by decide) (Nat.le_of_ble_eq_true rfl) ?_
  intro p e s m below meth c A ls hx hb hr hml hlocks hmn hown htt hN hA hP hK hD hS hl
  have hown : s.vm.findClass "MacroMillModel" = some m.cls := hown
  have hl : lv_has ls 5 [(0, .ref (ad 0)), (1, .int v1)] := hl
  refine lv_aload_n hx hb d_Mod_write_0 rfl (lv_at hl 0 rfl) ?_
  refine go_iS (As := [.ref (ad 0)]) (g := g) (A := A) (h := shM) hP hK hD hS hA hN (fun hp => va_runV (As := []) (rest := []) ⟨hx, hb, hml, hown, htt⟩ (m_use l g _ ad S) ⟨(cb_L htt k_2688 k_276 k_2685 hd_Mod_use ⟨(by decide +kernel), (by decide +kernel)⟩), htt _ k_2687, htt _ k_127⟩ ⟨hp.1, S_recv hK hP 0 rfl rfl, hp.2⟩ rfl rfl hl.1 rfl (lv_room (Nat.le_of_ble_eq_true rfl)) d_Mod_write_1 ⟨(by decide +kernel), (by decide +kernel)⟩) (fun r9 Sn H locs hw9 hP hD hS => ?_)
  obtain ⟨rfl, rfl⟩ := hw9
  refine W.widen (k := 0) (n := 0) (by decide +kernel) (by decide +kernel) ?_
  refine toI (y := nI len) hs0 ?_
  refine lv_istore_n (lv' := [(2, .int (nI len)), (0, .ref (ad 0)), (1, .int v1)]) hx hb d_Mod_write_4 rfl hl (by decide) rfl (fun ls hl => ?_)
  refine lv_iload_n hx hb d_Mod_write_5 rfl (lv_at hl 2 rfl) ?_
  refine lv_if_lt (tgt := 17) hx hb d_Mod_write_6 (by decide) (fun h1 => ?_) (fun h1 => ?_)
  · refine lv_iconst (v := (-1)) hx hb d_Mod_write_17 (by decide) ?_
    exact fin_i (g := g) (ws := Sw shM g ad (putI (putI S 0 1 0) 0 2 0)) (v := (-1)) hx hb hr hlocks (by decide +kernel) (by decide +kernel) hP hD hS ⟨_, rfl, rfl, rfl⟩ d_Mod_write_18
  · refine lv_iload_n hx hb d_Mod_write_9 rfl (lv_at hl 2 rfl) ?_
    refine lv_aload_n hx hb d_Mod_write_10 rfl (lv_at hl 1 rfl) ?_
    refine S_getI (h := shM) (C := "MacroMillModel") (T := F_Mod) hx hb htt in_Mod hown hK hP 0 3 rfl rfl rfl (by decide) (htt _ k_2239) (fun _ h9 => h9) d_Mod_write_11 ?_
    refine toI (y := nI cnt) hc ?_
    refine lv_icmp_lt (tgt := 19) hx hb d_Mod_write_14 (by decide) (fun h9 => absurd h9 (hv.resolve_left h1)) (fun _ => ?_)
    refine lv_iconst (v := (-1)) hx hb d_Mod_write_17 (by decide) ?_
    exact fin_i (g := g) (ws := Sw shM g ad (putI (putI S 0 1 0) 0 2 0)) (v := (-1)) hx hb hr hlocks (by decide +kernel) (by decide +kernel) hP hD hS ⟨_, rfl, rfl, rfl⟩ d_Mod_write_18
abbrev rm_m_writeOk : Room := { frames := 1, cells := 0, slots := 0, locals := 21 }
set_option maxHeartbeats 4000000 in
set_option maxRecDepth 100000 in
theorem m_writeOk (l : Launch) (g : gG) (sz : Nat) (ad : Nat → Nat) (S : sS) (at0 : Nat → Nat) (len : Nat) (cnt : Nat) (b : Nat) (j : Nat) (z0 : Nat) (hs0 : S.1 0 1 = nI len) (hl2 : len ≤ 16384) (hc : S.1 0 3 = nI cnt) (hc2 : cnt ≤ 32) (hj : j < cnt) (hbb : S.1 0 9 = nI b) (hb2 : b ≤ 32768) (hat : ∀ i, i < cnt → S.2.1 4 i = nI (at0 i)) (hsz : S.2.1 5 j = nI z0) (hez : at0 j + z0 ≤ b) (hf : ∀ i, fits .byte (.int (S.2.1 0 i)) = true) (hfb : ∀ i, fits .byte (.int (S.2.1 3 i)) = true) : Ci l y_Mod_write b_Mod_write 5 rm_m_writeOk g [.ref (ad 0), .int (nI j)] (Sw shM g ad S) sz (fun r w => ∃ S' : sS, w = Sw shM g ad S' ∧ (32768 < b + len ∧ r = (-4) ∧ S' = (putI (putI S 0 1 0) 0 2 0) ∨ b + len ≤ 32768 ∧ r = nI (z0 + len) ∧ ∃ f4 : Nat → Int32, S' = putI (putA (setF (mApp (putI (putI S 0 1 0) 0 2 0) (at0 j + z0) b len) 4 f4) 5 j (nI (z0 + len))) 0 9 (nI (b + len)) ∧ ∀ k, k < cnt → f4 k = nI (if j < k then at0 k + len else at0 k))) := by
  refine startI (by decide) (Nat.le_of_ble_eq_true rfl) ?_
  intro p e s m below meth c A ls hx hb hr hml hlocks hmn hown htt hN hA hP hK hD hS hl
  have hown : s.vm.findClass "MacroMillModel" = some m.cls := hown
  have hl : lv_has ls 5 [(0, .ref (ad 0)), (1, .int (nI j))] := hl
  refine lv_aload_n hx hb d_Mod_write_0 rfl (lv_at hl 0 rfl) ?_
  refine go_iS (As := [.ref (ad 0)]) (g := g) (A := A) (h := shM) hP hK hD hS hA hN (fun hp => va_runV (As := []) (rest := []) ⟨hx, hb, hml, hown, htt⟩ (m_use l g _ ad S) ⟨(cb_L htt k_2688 k_276 k_2685 hd_Mod_use ⟨(by decide +kernel), (by decide +kernel)⟩), htt _ k_2687, htt _ k_127⟩ ⟨hp.1, S_recv hK hP 0 rfl rfl, hp.2⟩ rfl rfl hl.1 rfl (lv_room (Nat.le_of_ble_eq_true rfl)) d_Mod_write_1 ⟨(by decide +kernel), (by decide +kernel)⟩) (fun r9 Sn H locs hw9 hP hD hS => ?_)
  obtain ⟨rfl, rfl⟩ := hw9
  refine W.widen (k := 0) (n := 0) (by decide +kernel) (by decide +kernel) ?_
  refine toI (y := nI len) hs0 ?_
  refine lv_istore_n (lv' := [(2, .int (nI len)), (0, .ref (ad 0)), (1, .int (nI j))]) hx hb d_Mod_write_4 rfl hl (by decide) rfl (fun ls hl => ?_)
  refine lv_iload_n hx hb d_Mod_write_5 rfl (lv_at hl 2 rfl) ?_
  refine lv_if_lt (tgt := 17) hx hb d_Mod_write_6 (by decide) (fun h9 => absurd h9 (nI_pos (by omega))) (fun _ => ?_)
  refine lv_iload_n hx hb d_Mod_write_9 rfl (lv_at hl 2 rfl) ?_
  refine lv_aload_n hx hb d_Mod_write_10 rfl (lv_at hl 1 rfl) ?_
  refine S_getI (h := shM) (C := "MacroMillModel") (T := F_Mod) hx hb htt in_Mod hown hK hP 0 3 rfl rfl rfl (by decide) (htt _ k_2239) (fun _ h9 => h9) d_Mod_write_11 ?_
  refine toI (y := nI cnt) hc ?_
  refine lv_icmp_lt (tgt := 19) hx hb d_Mod_write_14 (by decide) (fun _ => ?_) (fun h9 => absurd (nI_lt hj (by omega)) h9)
  refine lv_aload_n hx hb d_Mod_write_19 rfl (lv_at hl 1 rfl) ?_
  refine S_getI (h := shM) (C := "MacroMillModel") (T := F_Mod) hx hb htt in_Mod hown hK hP 0 9 rfl rfl rfl (by decide) (htt _ k_2245) (fun _ h9 => h9) d_Mod_write_20 ?_
  refine toI (y := nI b) hbb ?_
  show W _ _ _ _ _ _ _ _ _ _ _ _ _ _ _ (F0 _ 23 _ _)
  refine lv_iload_n hx hb d_Mod_write_23 rfl (lv_at hl 0 rfl) ?_
  refine lv_iadd hx hb d_Mod_write_24 ?_
  refine toI (y := nI (b + len)) (nI_add b len) ?_
  refine lv_ldc (v := 32768) hx hb hown (htt _ k_2229) d_Mod_write_25 ?_
  refine lv_icmp_le (tgt := 33) hx hb d_Mod_write_27 (by decide) (fun h6 => ?_) (fun h6 => ?_)
  · have h7 : b + len ≤ 32768 := nI_le_of (b := 32768) (by omega) (by decide) h6
    refine lv_aload_n hx hb d_Mod_write_33 rfl (lv_at hl 1 rfl) ?_
    refine S_getR (h := shM) (C := "MacroMillModel") (T := F_Mod) hx hb htt in_Mod hown hK hP 0 7 rfl 5 rfl rfl (by decide) (htt _ k_2243) (fun _ h9 => h9) d_Mod_write_34 ?_
    refine lv_iload_n hx hb d_Mod_write_37 rfl (lv_at hl 2 rfl) ?_
    refine S_iald (h := shM) (i := nI j) hx hb hK hP 4 rfl (vp_in_nI (by omega) (by decide)) d_Mod_write_38 ?_
    refine toI (y := nI (at0 j)) (by rw [nI_clamp (by omega)]; exact hat j hj) ?_
    refine lv_aload_n hx hb d_Mod_write_39 rfl (lv_at hl 1 rfl) ?_
    refine S_getR (h := shM) (C := "MacroMillModel") (T := F_Mod) hx hb htt in_Mod hown hK hP 0 8 rfl 6 rfl rfl (by decide) (htt _ k_2244) (fun _ h9 => h9) d_Mod_write_40 ?_
    refine lv_iload_n hx hb d_Mod_write_43 rfl (lv_at hl 2 rfl) ?_
    refine S_iald (h := shM) (i := nI j) hx hb hK hP 5 rfl (vp_in_nI (by omega) (by decide)) d_Mod_write_44 ?_
    refine toI (y := nI z0) (by rw [nI_clamp (by omega)]; exact hsz) ?_
    show W _ _ _ _ _ _ _ _ _ _ _ _ _ _ _ (F0 _ 45 _ _)
    refine lv_iadd hx hb d_Mod_write_45 ?_
    refine toI (y := nI (at0 j + z0)) (nI_add _ _) ?_
    refine lv_istore_n (lv' := [(3, .int (nI (at0 j + z0))), (2, .int (nI len)), (0, .ref (ad 0)), (1, .int (nI j))]) hx hb d_Mod_write_46 rfl hl (by decide) rfl (fun ls hl => ?_)
    refine lv_aload_n hx hb d_Mod_write_47 rfl (lv_at hl 2 rfl) ?_
    refine S_getI (h := shM) (C := "MacroMillModel") (T := F_Mod) hx hb htt in_Mod hown hK hP 0 9 rfl rfl rfl (by decide) (htt _ k_2245) (fun _ h9 => h9) d_Mod_write_48 ?_
    refine toI (y := nI b) hbb ?_
    refine lv_iconst (v := 1) hx hb d_Mod_write_51 (by decide) ?_
    refine lv_isub hx hb d_Mod_write_52 ?_
    refine toI (y := nI ((at0 j + z0) + (b - (at0 j + z0))) - 1) (by rw [show (at0 j + z0) + (b - (at0 j + z0)) = b by omega]) ?_
    refine lv_istore (lv' := [(4, .int (nI ((at0 j + z0) + (b - (at0 j + z0))) - 1)), (3, .int (nI (at0 j + z0))), (2, .int (nI len)), (0, .ref (ad 0)), (1, .int (nI j))]) hx hb d_Mod_write_53 hl (by decide) rfl (fun ls hl => ?_)
    have e7 : (setF (putI (putI S 0 1 0) 0 2 0) 3 (va_cpy ((putI (putI S 0 1 0) 0 2 0).2.1 3) ((putI (putI S 0 1 0) 0 2 0).2.1 3) ((at0 j + z0) + (b - (at0 j + z0))) ((at0 j + z0) + (b - (at0 j + z0)) + len) (b - (at0 j + z0) - (b - (at0 j + z0))))) = (putI (putI S 0 1 0) 0 2 0) := by rw [show b - (at0 j + z0) - (b - (at0 j + z0)) = 0 by omega, cpy_zero, setF_self]
    rw [← e7] at hP hD
    refine m_write_loop1 hx hb hml hown htt hK hN hA (putI (putI S 0 1 0) 0 2 0) (at0 j + z0) b len j h7 hfb (fun t2 ls H locs ht2 hz0 hl hP hD hS => ?_) ((b - (at0 j + z0)) + 1) (b - (at0 j + z0)) ls _ _ (by omega) (by omega) (lv_sub hl [0, 1, 2, 3, 4] rfl) hP hD hS
    rw [hz0] at hl hP hD
    refine lv_iconst (v := 0) hx hb d_Mod_write_83 (by decide) ?_
    refine lv_istore (lv' := [(4, .int 0), (3, .int (nI (at0 j + z0))), (2, .int (nI len)), (0, .ref (ad 0)), (1, .int (nI j))]) hx hb d_Mod_write_84 hl (by decide) rfl (fun ls hl => ?_)
    have e8 : (setF (setF (putI (putI S 0 1 0) 0 2 0) 3 (va_cpy ((putI (putI S 0 1 0) 0 2 0).2.1 3) ((putI (putI S 0 1 0) 0 2 0).2.1 3) ((at0 j + z0) + 0) ((at0 j + z0) + 0 + len) (b - (at0 j + z0) - 0))) 3 (va_cpy ((setF (putI (putI S 0 1 0) 0 2 0) 3 (va_cpy ((putI (putI S 0 1 0) 0 2 0).2.1 3) ((putI (putI S 0 1 0) 0 2 0).2.1 3) ((at0 j + z0) + 0) ((at0 j + z0) + 0 + len) (b - (at0 j + z0) - 0))).2.1 0) ((setF (putI (putI S 0 1 0) 0 2 0) 3 (va_cpy ((putI (putI S 0 1 0) 0 2 0).2.1 3) ((putI (putI S 0 1 0) 0 2 0).2.1 3) ((at0 j + z0) + 0) ((at0 j + z0) + 0 + len) (b - (at0 j + z0) - 0))).2.1 3) 0 (at0 j + z0) 0)) = (setF (putI (putI S 0 1 0) 0 2 0) 3 (va_cpy ((putI (putI S 0 1 0) 0 2 0).2.1 3) ((putI (putI S 0 1 0) 0 2 0).2.1 3) ((at0 j + z0) + 0) ((at0 j + z0) + 0 + len) (b - (at0 j + z0) - 0))) := by rw [cpy_zero, setF_self]
    rw [← e8] at hP hD
    refine m_write_loop2 hx hb hml hown htt hK hN hA (setF (putI (putI S 0 1 0) 0 2 0) 3 (va_cpy ((putI (putI S 0 1 0) 0 2 0).2.1 3) ((putI (putI S 0 1 0) 0 2 0).2.1 3) ((at0 j + z0) + 0) ((at0 j + z0) + 0 + len) (b - (at0 j + z0) - 0))) (at0 j + z0) len j hl2 (by omega) hf (fun i2 ls H locs hi2 hz0 hl hP hD hS => ?_) (len - 0 + 1) 0 ls _ _ (by omega) (Nat.zero_le _) (lv_sub hl [0, 1, 2, 3, 4] rfl) hP hD hS
    rw [hz0] at hl hP hD
    rw [setF_setF] at hP hD
    change va_P g.1 classes (Sw shM g ad (mApp (putI (putI S 0 1 0) 0 2 0) (at0 j + z0) b len)) _ at hP
    change va_D A (Sw shM g ad (mApp (putI (putI S 0 1 0) 0 2 0) (at0 j + z0) b len)) at hD
    refine lv_iload_n hx hb d_Mod_write_114 rfl (lv_at hl 4 rfl) ?_
    show W _ _ _ _ _ _ _ _ _ _ _ _ _ _ _ (F0 _ 115 _ _)
    refine lv_iconst (v := 1) hx hb d_Mod_write_115 (by decide) ?_
    refine lv_iadd hx hb d_Mod_write_116 ?_
    refine toI (y := nI (j + 1)) (nI_1 j) ?_
    refine lv_istore (lv' := [(4, .int (nI (j + 1))), (3, .int (nI (at0 j + z0))), (2, .int (nI len)), (0, .ref (ad 0)), (1, .int (nI j))]) hx hb d_Mod_write_117 hl (by decide) rfl (fun ls hl => ?_)
    have e5 : (setF (mApp (putI (putI S 0 1 0) 0 2 0) (at0 j + z0) b len) 4 (S.2.1 4)) = (mApp (putI (putI S 0 1 0) 0 2 0) (at0 j + z0) b len) := setF_self (S := (mApp (putI (putI S 0 1 0) 0 2 0) (at0 j + z0) b len)) (a := 4)
    rw [← e5] at hP hD
    refine m_write_loop3 hx hb hml hown htt hK hN hA (mApp (putI (putI S 0 1 0) 0 2 0) (at0 j + z0) b len) at0 cnt j (at0 j + z0) len hc hc2 (fun i2 f42 ls H locs hi2 hi22 hg2 hz0 hl hP hD hS => ?_) (cnt - (j + 1) + 1) (j + 1) (S.2.1 4) ls _ _ (by omega) (Nat.lt_succ_self _) (by omega) (fun k hk => by rw [hat k hk, if_neg (fun z => by omega)]) (lv_sub hl [0, 1, 2, 3, 4] rfl) hP hD hS
    have hfin : ∀ k, k < cnt → f42 k = nI (if j < k then at0 k + len else at0 k) := by
      intro k hk
      rw [hg2 k hk]
      congr 1
      by_cases hz : j < k
      · rw [if_pos ⟨hz, by omega⟩, if_pos hz]
      · rw [if_neg (fun z => hz z.1), if_neg hz]
    refine lv_aload_n hx hb d_Mod_write_150 rfl (lv_at hl 3 rfl) ?_
    refine S_getR (h := shM) (C := "MacroMillModel") (T := F_Mod) hx hb htt in_Mod hown hK hP 0 8 rfl 6 rfl rfl (by decide) (htt _ k_2244) (fun _ h9 => h9) d_Mod_write_151 ?_
    refine lv_iload_n hx hb d_Mod_write_154 rfl (lv_at hl 4 rfl) ?_
    refine lv_aload_n hx hb d_Mod_write_155 rfl (lv_at hl 3 rfl) ?_
    refine S_getR (h := shM) (C := "MacroMillModel") (T := F_Mod) hx hb htt in_Mod hown hK hP 0 8 rfl 6 rfl rfl (by decide) (htt _ k_2244) (fun _ h9 => h9) d_Mod_write_156 ?_
    refine lv_iload_n hx hb d_Mod_write_159 rfl (lv_at hl 4 rfl) ?_
    refine S_iald (h := shM) (i := nI j) hx hb hK hP 5 rfl (vp_in_nI (by omega) (by decide)) d_Mod_write_160 ?_
    refine toI (y := nI z0) (by rw [nI_clamp (by omega)]; exact hsz) ?_
    refine lv_iload_n hx hb d_Mod_write_161 rfl (lv_at hl 2 rfl) ?_
    show W _ _ _ _ _ _ _ _ _ _ _ _ _ _ _ (F0 _ 162 _ _)
    refine lv_iadd hx hb d_Mod_write_162 ?_
    refine toI (y := nI (z0 + len)) (nI_add _ _) ?_
    refine S_iast (h := shM) (i := nI j) (v := nI (z0 + len)) hx hb hK hP hD hS 5 rfl (vp_in_nI (by omega) (by decide)) d_Mod_write_163 (fun H locs hP hD hS => ?_)
    rw [nI_clamp (by omega)] at hP hD
    refine lv_aload_n hx hb d_Mod_write_164 rfl (lv_at hl 3 rfl) ?_
    refine lv_aload_n hx hb d_Mod_write_165 rfl (lv_at hl 3 rfl) ?_
    refine S_getI (h := shM) (C := "MacroMillModel") (T := F_Mod) hx hb htt in_Mod hown hK hP 0 9 rfl rfl rfl (by decide) (htt _ k_2245) (fun _ h9 => h9) d_Mod_write_166 ?_
    refine toI (y := nI b) hbb ?_
    refine lv_iload_n hx hb d_Mod_write_169 rfl (lv_at hl 2 rfl) ?_
    refine lv_iadd hx hb d_Mod_write_170 ?_
    refine toI (y := nI (b + len)) (nI_add _ _) ?_
    refine S_put (h := shM) (C := "MacroMillModel") (T := F_Mod) (v := nI (b + len)) hx hb htt in_Mod t_Mod t_Mod_ok n_Mod hown hK hP hD hS 0 9 rfl rfl rfl (by decide) (htt _ k_2245) (fun _ h9 => h9) rfl rfl rfl d_Mod_write_171 (fun H locs hP hD hS => ?_)
    refine lv_aload_n hx hb d_Mod_write_174 rfl (lv_at hl 3 rfl) ?_
    refine S_getR (h := shM) (C := "MacroMillModel") (T := F_Mod) hx hb htt in_Mod hown hK hP 0 8 rfl 6 rfl rfl (by decide) (htt _ k_2244) (fun _ h9 => h9) d_Mod_write_175 ?_
    refine lv_iload_n hx hb d_Mod_write_178 rfl (lv_at hl 4 rfl) ?_
    refine S_iald (h := shM) (i := nI j) hx hb hK hP 5 rfl (vp_in_nI (by omega) (by decide)) d_Mod_write_179 ?_
    refine toI (y := nI (z0 + len)) (by rw [nI_clamp (by omega)]; show up2 _ 5 j _ 5 j = _; rw [up2_own, if_pos rfl]) ?_
    show W _ _ _ _ _ _ _ _ _ _ _ _ _ _ _ (F0 _ 180 _ _)
    exact fin_i (g := g) (ws := Sw shM g ad (putI (putA (setF (mApp (putI (putI S 0 1 0) 0 2 0) (at0 j + z0) b len) 4 f42) 5 j (nI (z0 + len))) 0 9 (nI (b + len)))) (v := nI (z0 + len)) hx hb hr hlocks (by decide +kernel) (by decide +kernel) hP hD hS ⟨_, rfl, Or.inr ⟨h7, rfl, f42, rfl, hfin⟩⟩ d_Mod_write_180
  · have h7 : 32768 < b + len := nI_lt_of (a := 32768) (by decide) (by omega) h6
    refine lv_bipush (v := (-4)) hx hb d_Mod_write_30 (by decide) ?_
    exact fin_i (g := g) (ws := Sw shM g ad (putI (putI S 0 1 0) 0 2 0)) (v := (-4)) hx hb hr hlocks (by decide +kernel) (by decide +kernel) hP hD hS ⟨_, rfl, Or.inl ⟨h7, rfl, rfl⟩⟩ d_Mod_write_32
