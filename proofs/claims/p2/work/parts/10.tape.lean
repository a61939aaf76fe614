/-- four bytes of an int behind the tape's n bytes, the first one first -/
def layF (a : Nat) (S : sS) (n : Nat) (v : Int32) : sS :=
  putI (putA (putI (putA (putI (putA (putI (putA S a n (vp_nar .byte (v >>> (24 &&& 31)).toInt8.toInt32)) 0 1 (nI (n + 1))) a (n + 1) (vp_nar .byte (v >>> (16 &&& 31)).toInt8.toInt32)) 0 1 (nI (n + 2))) a (n + 2) (vp_nar .byte (v >>> (8 &&& 31)).toInt8.toInt32)) 0 1 (nI (n + 3))) a (n + 3) (vp_nar .byte (v >>> (0 &&& 31)).toInt8.toInt32)) 0 1 (nI (n + 4))
/-- how many of the first n are not 0 -/
def cntF (f : Nat → Int32) : Nat → Nat
  | 0 => 0
  | n + 1 => cntF f n + if f n = 0 then 0 else 1
theorem nI_le_of {a b : Nat} (ha : a < 2 ^ 31) (hb : b < 2 ^ 31) (h : nI a ≤ nI b) : a ≤ b := (nI_leI ha hb).mp h
theorem nI_lt_of {a b : Nat} (ha : a < 2 ^ 31) (hb : b < 2 ^ 31) (h : ¬ nI b ≤ nI a) : a < b := Nat.not_le.mp fun z => h ((nI_leI hb ha).mpr z)

theorem d_MM_astray_0 : decode b_MM_astray 0 = .ok (.aload_n 0, 1) := by decide +kernel
theorem d_MM_astray_1 : decode b_MM_astray 1 = .ok (.getfield 23, 3) := by decide +kernel
theorem d_MM_astray_4 : decode b_MM_astray 4 = .ok (.getfield 104, 3) := by decide +kernel
theorem d_MM_astray_7 : decode b_MM_astray 7 = .ok (.ireturn, 1) := by decide +kernel
theorem d_MM_clear_0 : decode b_MM_clear 0 = .ok (.aload_n 0, 1) := by decide +kernel
theorem d_MM_clear_1 : decode b_MM_clear 1 = .ok (.getfield 16, 3) := by decide +kernel
theorem d_MM_clear_4 : decode b_MM_clear 4 = .ok (.getfield 72, 3) := by decide +kernel
theorem d_MM_clear_7 : decode b_MM_clear 7 = .ok (.istore_n 1, 1) := by decide +kernel
theorem d_MM_clear_8 : decode b_MM_clear 8 = .ok (.aload_n 0, 1) := by decide +kernel
theorem d_MM_clear_9 : decode b_MM_clear 9 = .ok (.getfield 16, 3) := by decide +kernel
theorem d_MM_clear_12 : decode b_MM_clear 12 = .ok (.iconst 0, 1) := by decide +kernel
theorem d_MM_clear_13 : decode b_MM_clear 13 = .ok (.putfield 72, 3) := by decide +kernel
theorem d_MM_clear_16 : decode b_MM_clear 16 = .ok (.iload_n 1, 1) := by decide +kernel
theorem d_MM_clear_17 : decode b_MM_clear 17 = .ok (.ireturn, 1) := by decide +kernel
theorem d_MM_end_0 : decode b_MM_end 0 = .ok (.iload_n 1, 1) := by decide +kernel
theorem d_MM_end_1 : decode b_MM_end 1 = .ok (.ifCond .lt 16, 3) := by decide +kernel
theorem d_MM_end_4 : decode b_MM_end 4 = .ok (.iload_n 1, 1) := by decide +kernel
theorem d_MM_end_5 : decode b_MM_end 5 = .ok (.bipush 20, 2) := by decide +kernel
theorem d_MM_end_7 : decode b_MM_end 7 = .ok (.if_icmp .gt 10, 3) := by decide +kernel
theorem d_MM_end_10 : decode b_MM_end 10 = .ok (.aload_n 0, 1) := by decide +kernel
theorem d_MM_end_11 : decode b_MM_end 11 = .ok (.getfield 56, 3) := by decide +kernel
theorem d_MM_end_14 : decode b_MM_end 14 = .ok (.ifCond .ne 5, 3) := by decide +kernel
theorem d_MM_end_17 : decode b_MM_end 17 = .ok (.iconst (-1), 1) := by decide +kernel
theorem d_MM_end_18 : decode b_MM_end 18 = .ok (.ireturn, 1) := by decide +kernel
theorem d_MM_end_19 : decode b_MM_end 19 = .ok (.aload_n 0, 1) := by decide +kernel
theorem d_MM_end_20 : decode b_MM_end 20 = .ok (.dup, 1) := by decide +kernel
theorem d_MM_end_21 : decode b_MM_end 21 = .ok (.getfield 48, 3) := by decide +kernel
theorem d_MM_end_24 : decode b_MM_end 24 = .ok (.bipush 20, 2) := by decide +kernel
theorem d_MM_end_26 : decode b_MM_end 26 = .ok (.iload_n 1, 1) := by decide +kernel
theorem d_MM_end_27 : decode b_MM_end 27 = .ok (.isub, 1) := by decide +kernel
theorem d_MM_end_28 : decode b_MM_end 28 = .ok (.isub, 1) := by decide +kernel
theorem d_MM_end_29 : decode b_MM_end 29 = .ok (.putfield 48, 3) := by decide +kernel
theorem d_MM_end_32 : decode b_MM_end 32 = .ok (.aload_n 0, 1) := by decide +kernel
theorem d_MM_end_33 : decode b_MM_end 33 = .ok (.iconst 0, 1) := by decide +kernel
theorem d_MM_end_34 : decode b_MM_end 34 = .ok (.putfield 56, 3) := by decide +kernel
theorem d_MM_end_37 : decode b_MM_end 37 = .ok (.aload_n 0, 1) := by decide +kernel
theorem d_MM_end_38 : decode b_MM_end 38 = .ok (.getfield 48, 3) := by decide +kernel
theorem d_MM_end_41 : decode b_MM_end 41 = .ok (.ireturn, 1) := by decide +kernel
theorem d_MM_feed_0 : decode b_MM_feed 0 = .ok (.aload_n 0, 1) := by decide +kernel
theorem d_MM_feed_1 : decode b_MM_feed 1 = .ok (.getfield 48, 3) := by decide +kernel
theorem d_MM_feed_4 : decode b_MM_feed 4 = .ok (.bipush 20, 2) := by decide +kernel
theorem d_MM_feed_6 : decode b_MM_feed 6 = .ok (.iadd, 1) := by decide +kernel
theorem d_MM_feed_7 : decode b_MM_feed 7 = .ok (.sipush 16384, 3) := by decide +kernel
theorem d_MM_feed_10 : decode b_MM_feed 10 = .ok (.if_icmp .le 6, 3) := by decide +kernel
theorem d_MM_feed_13 : decode b_MM_feed 13 = .ok (.bipush (-4), 2) := by decide +kernel
theorem d_MM_feed_15 : decode b_MM_feed 15 = .ok (.ireturn, 1) := by decide +kernel
theorem d_MM_feed_16 : decode b_MM_feed 16 = .ok (.aload_n 0, 1) := by decide +kernel
theorem d_MM_feed_17 : decode b_MM_feed 17 = .ok (.iload_n 1, 1) := by decide +kernel
theorem d_MM_feed_18 : decode b_MM_feed 18 = .ok (.invokevirtual 52, 3) := by decide +kernel
theorem d_MM_feed_21 : decode b_MM_feed 21 = .ok (.aload_n 0, 1) := by decide +kernel
theorem d_MM_feed_22 : decode b_MM_feed 22 = .ok (.iload_n 2, 1) := by decide +kernel
theorem d_MM_feed_23 : decode b_MM_feed 23 = .ok (.invokevirtual 52, 3) := by decide +kernel
theorem d_MM_feed_26 : decode b_MM_feed 26 = .ok (.aload_n 0, 1) := by decide +kernel
theorem d_MM_feed_27 : decode b_MM_feed 27 = .ok (.iload_n 3, 1) := by decide +kernel
theorem d_MM_feed_28 : decode b_MM_feed 28 = .ok (.invokevirtual 52, 3) := by decide +kernel
theorem d_MM_feed_31 : decode b_MM_feed 31 = .ok (.aload_n 0, 1) := by decide +kernel
theorem d_MM_feed_32 : decode b_MM_feed 32 = .ok (.iload 4, 2) := by decide +kernel
theorem d_MM_feed_34 : decode b_MM_feed 34 = .ok (.invokevirtual 52, 3) := by decide +kernel
theorem d_MM_feed_37 : decode b_MM_feed 37 = .ok (.aload_n 0, 1) := by decide +kernel
theorem d_MM_feed_38 : decode b_MM_feed 38 = .ok (.iload 5, 2) := by decide +kernel
theorem d_MM_feed_40 : decode b_MM_feed 40 = .ok (.invokevirtual 52, 3) := by decide +kernel
theorem d_MM_feed_43 : decode b_MM_feed 43 = .ok (.aload_n 0, 1) := by decide +kernel
theorem d_MM_feed_44 : decode b_MM_feed 44 = .ok (.iconst 1, 1) := by decide +kernel
theorem d_MM_feed_45 : decode b_MM_feed 45 = .ok (.putfield 56, 3) := by decide +kernel
theorem d_MM_feed_48 : decode b_MM_feed 48 = .ok (.aload_n 0, 1) := by decide +kernel
theorem d_MM_feed_49 : decode b_MM_feed 49 = .ok (.getfield 48, 3) := by decide +kernel
theorem d_MM_feed_52 : decode b_MM_feed 52 = .ok (.ireturn, 1) := by decide +kernel
theorem d_MM_layNumber_0 : decode b_MM_layNumber 0 = .ok (.bipush 24, 2) := by decide +kernel
theorem d_MM_layNumber_2 : decode b_MM_layNumber 2 = .ok (.istore_n 2, 1) := by decide +kernel
theorem d_MM_layNumber_3 : decode b_MM_layNumber 3 = .ok (.iload_n 2, 1) := by decide +kernel
theorem d_MM_layNumber_4 : decode b_MM_layNumber 4 = .ok (.ifCond .lt 32, 3) := by decide +kernel
theorem d_MM_layNumber_7 : decode b_MM_layNumber 7 = .ok (.aload_n 0, 1) := by decide +kernel
theorem d_MM_layNumber_8 : decode b_MM_layNumber 8 = .ok (.getfield 9, 3) := by decide +kernel
theorem d_MM_layNumber_11 : decode b_MM_layNumber 11 = .ok (.aload_n 0, 1) := by decide +kernel
theorem d_MM_layNumber_12 : decode b_MM_layNumber 12 = .ok (.getfield 48, 3) := by decide +kernel
theorem d_MM_layNumber_15 : decode b_MM_layNumber 15 = .ok (.iload_n 1, 1) := by decide +kernel
theorem d_MM_layNumber_16 : decode b_MM_layNumber 16 = .ok (.iload_n 2, 1) := by decide +kernel
theorem d_MM_layNumber_17 : decode b_MM_layNumber 17 = .ok (.ishr, 1) := by decide +kernel
theorem d_MM_layNumber_18 : decode b_MM_layNumber 18 = .ok (.i2b, 1) := by decide +kernel
theorem d_MM_layNumber_19 : decode b_MM_layNumber 19 = .ok (.bastore, 1) := by decide +kernel
theorem d_MM_layNumber_20 : decode b_MM_layNumber 20 = .ok (.aload_n 0, 1) := by decide +kernel
theorem d_MM_layNumber_21 : decode b_MM_layNumber 21 = .ok (.dup, 1) := by decide +kernel
theorem d_MM_layNumber_22 : decode b_MM_layNumber 22 = .ok (.getfield 48, 3) := by decide +kernel
theorem d_MM_layNumber_25 : decode b_MM_layNumber 25 = .ok (.iconst 1, 1) := by decide +kernel
theorem d_MM_layNumber_26 : decode b_MM_layNumber 26 = .ok (.iadd, 1) := by decide +kernel
theorem d_MM_layNumber_27 : decode b_MM_layNumber 27 = .ok (.putfield 48, 3) := by decide +kernel
theorem d_MM_layNumber_30 : decode b_MM_layNumber 30 = .ok (.iinc 2 (-8), 3) := by decide +kernel
theorem d_MM_layNumber_33 : decode b_MM_layNumber 33 = .ok (.goto (-30), 3) := by decide +kernel
theorem d_MM_layNumber_36 : decode b_MM_layNumber 36 = .ok (.return_, 1) := by decide +kernel
theorem d_MM_size_0 : decode b_MM_size 0 = .ok (.aload_n 0, 1) := by decide +kernel
theorem d_MM_size_1 : decode b_MM_size 1 = .ok (.getfield 23, 3) := by decide +kernel
theorem d_MM_size_4 : decode b_MM_size 4 = .ok (.getfield 101, 3) := by decide +kernel
theorem d_MM_size_7 : decode b_MM_size 7 = .ok (.ireturn, 1) := by decide +kernel
theorem d_MM_useTape_0 : decode b_MM_useTape 0 = .ok (.aload_n 0, 1) := by decide +kernel
theorem d_MM_useTape_1 : decode b_MM_useTape 1 = .ok (.getfield 48, 3) := by decide +kernel
theorem d_MM_useTape_4 : decode b_MM_useTape 4 = .ok (.istore_n 1, 1) := by decide +kernel
theorem d_MM_useTape_5 : decode b_MM_useTape 5 = .ok (.aload_n 0, 1) := by decide +kernel
theorem d_MM_useTape_6 : decode b_MM_useTape 6 = .ok (.iconst 0, 1) := by decide +kernel
theorem d_MM_useTape_7 : decode b_MM_useTape 7 = .ok (.putfield 48, 3) := by decide +kernel
theorem d_MM_useTape_10 : decode b_MM_useTape 10 = .ok (.aload_n 0, 1) := by decide +kernel
theorem d_MM_useTape_11 : decode b_MM_useTape 11 = .ok (.iconst 0, 1) := by decide +kernel
theorem d_MM_useTape_12 : decode b_MM_useTape 12 = .ok (.putfield 56, 3) := by decide +kernel
theorem d_MM_useTape_15 : decode b_MM_useTape 15 = .ok (.iload_n 1, 1) := by decide +kernel
theorem d_MM_useTape_16 : decode b_MM_useTape 16 = .ok (.ireturn, 1) := by decide +kernel
theorem d_Mod_astray_0 : decode b_Mod_astray 0 = .ok (.aload_n 0, 1) := by decide +kernel
theorem d_Mod_astray_1 : decode b_Mod_astray 1 = .ok (.getfield 697, 3) := by decide +kernel
theorem d_Mod_astray_4 : decode b_Mod_astray 4 = .ok (.ireturn, 1) := by decide +kernel
theorem d_Mod_clear_0 : decode b_Mod_clear 0 = .ok (.aload_n 0, 1) := by decide +kernel
theorem d_Mod_clear_1 : decode b_Mod_clear 1 = .ok (.getfield 252, 3) := by decide +kernel
theorem d_Mod_clear_4 : decode b_Mod_clear 4 = .ok (.istore_n 1, 1) := by decide +kernel
theorem d_Mod_clear_5 : decode b_Mod_clear 5 = .ok (.aload_n 0, 1) := by decide +kernel
theorem d_Mod_clear_6 : decode b_Mod_clear 6 = .ok (.iconst 0, 1) := by decide +kernel
theorem d_Mod_clear_7 : decode b_Mod_clear 7 = .ok (.putfield 252, 3) := by decide +kernel
theorem d_Mod_clear_10 : decode b_Mod_clear 10 = .ok (.aload_n 0, 1) := by decide +kernel
theorem d_Mod_clear_11 : decode b_Mod_clear 11 = .ok (.iconst 0, 1) := by decide +kernel
theorem d_Mod_clear_12 : decode b_Mod_clear 12 = .ok (.putfield 259, 3) := by decide +kernel
theorem d_Mod_clear_15 : decode b_Mod_clear 15 = .ok (.iload_n 1, 1) := by decide +kernel
theorem d_Mod_clear_16 : decode b_Mod_clear 16 = .ok (.ireturn, 1) := by decide +kernel
theorem d_Mod_end_0 : decode b_Mod_end 0 = .ok (.aload_n 0, 1) := by decide +kernel
theorem d_Mod_end_1 : decode b_Mod_end 1 = .ok (.getfield 244, 3) := by decide +kernel
theorem d_Mod_end_4 : decode b_Mod_end 4 = .ok (.ifCond .eq 13, 3) := by decide +kernel
theorem d_Mod_end_7 : decode b_Mod_end 7 = .ok (.iload_n 1, 1) := by decide +kernel
theorem d_Mod_end_8 : decode b_Mod_end 8 = .ok (.ifCond .lt 9, 3) := by decide +kernel
theorem d_Mod_end_11 : decode b_Mod_end 11 = .ok (.iload_n 1, 1) := by decide +kernel
theorem d_Mod_end_12 : decode b_Mod_end 12 = .ok (.bipush 20, 2) := by decide +kernel
theorem d_Mod_end_14 : decode b_Mod_end 14 = .ok (.if_icmp .le 5, 3) := by decide +kernel
theorem d_Mod_end_17 : decode b_Mod_end 17 = .ok (.iconst (-1), 1) := by decide +kernel
theorem d_Mod_end_18 : decode b_Mod_end 18 = .ok (.ireturn, 1) := by decide +kernel
theorem d_Mod_end_19 : decode b_Mod_end 19 = .ok (.aload_n 0, 1) := by decide +kernel
theorem d_Mod_end_20 : decode b_Mod_end 20 = .ok (.aload_n 0, 1) := by decide +kernel
theorem d_Mod_end_21 : decode b_Mod_end 21 = .ok (.getfield 236, 3) := by decide +kernel
theorem d_Mod_end_24 : decode b_Mod_end 24 = .ok (.bipush 20, 2) := by decide +kernel
theorem d_Mod_end_26 : decode b_Mod_end 26 = .ok (.isub, 1) := by decide +kernel
theorem d_Mod_end_27 : decode b_Mod_end 27 = .ok (.iload_n 1, 1) := by decide +kernel
theorem d_Mod_end_28 : decode b_Mod_end 28 = .ok (.iadd, 1) := by decide +kernel
theorem d_Mod_end_29 : decode b_Mod_end 29 = .ok (.putfield 236, 3) := by decide +kernel
theorem d_Mod_end_32 : decode b_Mod_end 32 = .ok (.aload_n 0, 1) := by decide +kernel
theorem d_Mod_end_33 : decode b_Mod_end 33 = .ok (.iconst 0, 1) := by decide +kernel
theorem d_Mod_end_34 : decode b_Mod_end 34 = .ok (.putfield 244, 3) := by decide +kernel
theorem d_Mod_end_37 : decode b_Mod_end 37 = .ok (.aload_n 0, 1) := by decide +kernel
theorem d_Mod_end_38 : decode b_Mod_end 38 = .ok (.getfield 236, 3) := by decide +kernel
theorem d_Mod_end_41 : decode b_Mod_end 41 = .ok (.ireturn, 1) := by decide +kernel
theorem d_Mod_feed_0 : decode b_Mod_feed 0 = .ok (.aload_n 0, 1) := by decide +kernel
theorem d_Mod_feed_1 : decode b_Mod_feed 1 = .ok (.getfield 236, 3) := by decide +kernel
theorem d_Mod_feed_4 : decode b_Mod_feed 4 = .ok (.bipush 20, 2) := by decide +kernel
theorem d_Mod_feed_6 : decode b_Mod_feed 6 = .ok (.iadd, 1) := by decide +kernel
theorem d_Mod_feed_7 : decode b_Mod_feed 7 = .ok (.sipush 16384, 3) := by decide +kernel
theorem d_Mod_feed_10 : decode b_Mod_feed 10 = .ok (.if_icmp .le 6, 3) := by decide +kernel
theorem d_Mod_feed_13 : decode b_Mod_feed 13 = .ok (.bipush (-4), 2) := by decide +kernel
theorem d_Mod_feed_15 : decode b_Mod_feed 15 = .ok (.ireturn, 1) := by decide +kernel
theorem d_Mod_feed_16 : decode b_Mod_feed 16 = .ok (.aload_n 0, 1) := by decide +kernel
theorem d_Mod_feed_17 : decode b_Mod_feed 17 = .ok (.iload_n 1, 1) := by decide +kernel
theorem d_Mod_feed_18 : decode b_Mod_feed 18 = .ok (.invokevirtual 240, 3) := by decide +kernel
theorem d_Mod_feed_21 : decode b_Mod_feed 21 = .ok (.aload_n 0, 1) := by decide +kernel
theorem d_Mod_feed_22 : decode b_Mod_feed 22 = .ok (.iload_n 2, 1) := by decide +kernel
theorem d_Mod_feed_23 : decode b_Mod_feed 23 = .ok (.invokevirtual 240, 3) := by decide +kernel
theorem d_Mod_feed_26 : decode b_Mod_feed 26 = .ok (.aload_n 0, 1) := by decide +kernel
theorem d_Mod_feed_27 : decode b_Mod_feed 27 = .ok (.iload_n 3, 1) := by decide +kernel
theorem d_Mod_feed_28 : decode b_Mod_feed 28 = .ok (.invokevirtual 240, 3) := by decide +kernel
theorem d_Mod_feed_31 : decode b_Mod_feed 31 = .ok (.aload_n 0, 1) := by decide +kernel
theorem d_Mod_feed_32 : decode b_Mod_feed 32 = .ok (.iload 4, 2) := by decide +kernel
theorem d_Mod_feed_34 : decode b_Mod_feed 34 = .ok (.invokevirtual 240, 3) := by decide +kernel
theorem d_Mod_feed_37 : decode b_Mod_feed 37 = .ok (.aload_n 0, 1) := by decide +kernel
theorem d_Mod_feed_38 : decode b_Mod_feed 38 = .ok (.iload 5, 2) := by decide +kernel
theorem d_Mod_feed_40 : decode b_Mod_feed 40 = .ok (.invokevirtual 240, 3) := by decide +kernel
theorem d_Mod_feed_43 : decode b_Mod_feed 43 = .ok (.aload_n 0, 1) := by decide +kernel
theorem d_Mod_feed_44 : decode b_Mod_feed 44 = .ok (.iconst 1, 1) := by decide +kernel
theorem d_Mod_feed_45 : decode b_Mod_feed 45 = .ok (.putfield 244, 3) := by decide +kernel
theorem d_Mod_feed_48 : decode b_Mod_feed 48 = .ok (.aload_n 0, 1) := by decide +kernel
theorem d_Mod_feed_49 : decode b_Mod_feed 49 = .ok (.getfield 236, 3) := by decide +kernel
theorem d_Mod_feed_52 : decode b_Mod_feed 52 = .ok (.ireturn, 1) := by decide +kernel
theorem d_Mod_feedInt_0 : decode b_Mod_feedInt 0 = .ok (.bipush 24, 2) := by decide +kernel
theorem d_Mod_feedInt_2 : decode b_Mod_feedInt 2 = .ok (.istore_n 2, 1) := by decide +kernel
theorem d_Mod_feedInt_3 : decode b_Mod_feedInt 3 = .ok (.iload_n 2, 1) := by decide +kernel
theorem d_Mod_feedInt_4 : decode b_Mod_feedInt 4 = .ok (.ifCond .lt 32, 3) := by decide +kernel
theorem d_Mod_feedInt_7 : decode b_Mod_feedInt 7 = .ok (.aload_n 0, 1) := by decide +kernel
theorem d_Mod_feedInt_8 : decode b_Mod_feedInt 8 = .ok (.getfield 9, 3) := by decide +kernel
theorem d_Mod_feedInt_11 : decode b_Mod_feedInt 11 = .ok (.aload_n 0, 1) := by decide +kernel
theorem d_Mod_feedInt_12 : decode b_Mod_feedInt 12 = .ok (.getfield 236, 3) := by decide +kernel
theorem d_Mod_feedInt_15 : decode b_Mod_feedInt 15 = .ok (.iload_n 1, 1) := by decide +kernel
theorem d_Mod_feedInt_16 : decode b_Mod_feedInt 16 = .ok (.iload_n 2, 1) := by decide +kernel
theorem d_Mod_feedInt_17 : decode b_Mod_feedInt 17 = .ok (.ishr, 1) := by decide +kernel
theorem d_Mod_feedInt_18 : decode b_Mod_feedInt 18 = .ok (.i2b, 1) := by decide +kernel
theorem d_Mod_feedInt_19 : decode b_Mod_feedInt 19 = .ok (.bastore, 1) := by decide +kernel
theorem d_Mod_feedInt_20 : decode b_Mod_feedInt 20 = .ok (.aload_n 0, 1) := by decide +kernel
theorem d_Mod_feedInt_21 : decode b_Mod_feedInt 21 = .ok (.dup, 1) := by decide +kernel
theorem d_Mod_feedInt_22 : decode b_Mod_feedInt 22 = .ok (.getfield 236, 3) := by decide +kernel
theorem d_Mod_feedInt_25 : decode b_Mod_feedInt 25 = .ok (.iconst 1, 1) := by decide +kernel
theorem d_Mod_feedInt_26 : decode b_Mod_feedInt 26 = .ok (.iadd, 1) := by decide +kernel
theorem d_Mod_feedInt_27 : decode b_Mod_feedInt 27 = .ok (.putfield 236, 3) := by decide +kernel
theorem d_Mod_feedInt_30 : decode b_Mod_feedInt 30 = .ok (.iinc 2 (-8), 3) := by decide +kernel
theorem d_Mod_feedInt_33 : decode b_Mod_feedInt 33 = .ok (.goto (-30), 3) := by decide +kernel
theorem d_Mod_feedInt_36 : decode b_Mod_feedInt 36 = .ok (.return_, 1) := by decide +kernel
theorem d_Mod_size_0 : decode b_Mod_size 0 = .ok (.aload_n 0, 1) := by decide +kernel
theorem d_Mod_size_1 : decode b_Mod_size 1 = .ok (.getfield 700, 3) := by decide +kernel
theorem d_Mod_size_4 : decode b_Mod_size 4 = .ok (.ireturn, 1) := by decide +kernel
theorem d_Mod_use_0 : decode b_Mod_use 0 = .ok (.aload_n 0, 1) := by decide +kernel
theorem d_Mod_use_1 : decode b_Mod_use 1 = .ok (.getfield 236, 3) := by decide +kernel
theorem d_Mod_use_4 : decode b_Mod_use 4 = .ok (.istore_n 1, 1) := by decide +kernel
theorem d_Mod_use_5 : decode b_Mod_use 5 = .ok (.aload_n 0, 1) := by decide +kernel
theorem d_Mod_use_6 : decode b_Mod_use 6 = .ok (.iconst 0, 1) := by decide +kernel
theorem d_Mod_use_7 : decode b_Mod_use 7 = .ok (.putfield 236, 3) := by decide +kernel
theorem d_Mod_use_10 : decode b_Mod_use 10 = .ok (.aload_n 0, 1) := by decide +kernel
theorem d_Mod_use_11 : decode b_Mod_use 11 = .ok (.iconst 0, 1) := by decide +kernel
theorem d_Mod_use_12 : decode b_Mod_use 12 = .ok (.putfield 244, 3) := by decide +kernel
theorem d_Mod_use_15 : decode b_Mod_use 15 = .ok (.iload_n 1, 1) := by decide +kernel
theorem d_Mod_use_16 : decode b_Mod_use 16 = .ok (.ireturn, 1) := by decide +kernel
abbrev rm_c_use : Room := { frames := 0, cells := 0, slots := 0, locals := 0 }
set_option maxHeartbeats 4000000 in
set_option maxRecDepth 100000 in
theorem c_use (l : Launch) (g : gG) (sz : Nat) (ad : Nat → Nat) (S : sS) : Ci l y_MM_useTape b_MM_useTape 2 rm_c_use g [.ref (ad 0)] (Sw shC g ad S) sz (fun r w => ∃ S' : sS, w = Sw shC g ad S' ∧ r = S.1 0 1 ∧ S' = (putI (putI S 0 1 0) 0 2 0)) := by
  refine startI (by decide) (Nat.le_of_ble_eq_true rfl) ?_
  intro p e s m below meth c A ls hx hb hr hml hlocks hmn hown htt hN hA hP hK hD hS hl
  have hown : s.vm.findClass "MacroMill" = some m.cls := hown
  have hl : lv_has ls 2 [(0, .ref (ad 0))] := hl
  refine lv_aload_n hx hb d_MM_useTape_0 rfl (lv_at hl 0 rfl) ?_
  refine S_getI (h := shC) (C := "MacroMill") (T := F_MM) hx hb htt in_MM hown hK hP 0 1 rfl rfl rfl (by decide) (htt _ k_965) (fun _ h9 => h9) d_MM_useTape_1 ?_
  refine lv_istore_n (lv' := [(1, .int (S.1 0 1)), (0, .ref (ad 0))]) hx hb d_MM_useTape_4 rfl hl (by decide) rfl (fun ls hl => ?_)
  refine lv_aload_n hx hb d_MM_useTape_5 rfl (lv_at hl 1 rfl) ?_
  refine lv_iconst (v := 0) hx hb d_MM_useTape_6 (by decide) ?_
  refine S_put (h := shC) (C := "MacroMill") (T := F_MM) (v := 0) hx hb htt in_MM t_MM t_MM_ok n_MM hown hK hP hD hS 0 1 rfl rfl rfl (by decide) (htt _ k_965) (fun _ h9 => h9) rfl rfl rfl d_MM_useTape_7 (fun H locs hP hD hS => ?_)
  refine lv_aload_n hx hb d_MM_useTape_10 rfl (lv_at hl 1 rfl) ?_
  refine lv_iconst (v := 0) hx hb d_MM_useTape_11 (by decide) ?_
  refine S_put (h := shC) (C := "MacroMill") (T := F_MM) (v := 0) hx hb htt in_MM t_MM t_MM_ok n_MM hown hK hP hD hS 0 2 rfl rfl rfl (by decide) (htt _ k_966) (fun _ h9 => h9) rfl rfl rfl d_MM_useTape_12 (fun H locs hP hD hS => ?_)
  refine lv_iload_n hx hb d_MM_useTape_15 rfl (lv_at hl 0 rfl) ?_
  exact fin_i (g := g) (ws := Sw shC g ad (putI (putI S 0 1 0) 0 2 0)) (v := S.1 0 1) hx hb hr hlocks (by decide +kernel) (by decide +kernel) hP hD hS ⟨_, rfl, rfl, rfl⟩ d_MM_useTape_16
abbrev rm_c_lay : Room := { frames := 0, cells := 0, slots := 0, locals := 0 }
set_option maxHeartbeats 4000000 in
set_option maxRecDepth 100000 in
theorem c_lay (l : Launch) (g : gG) (sz : Nat) (ad : Nat → Nat) (S : sS) (n0 : Nat) (v0 : Int32) (hs : S.1 0 1 = nI n0) (hn : n0 + 4 ≤ 16384) : Cv l y_MM_layNumber b_MM_layNumber 3 rm_c_lay g [.ref (ad 0), .int v0] (Sw shC g ad S) sz (fun w => ∃ S' : sS, w = Sw shC g ad S' ∧ S' = layF 0 S n0 v0) := by
  refine startV (by decide) (Nat.le_of_ble_eq_true rfl) ?_
  intro p e s m below meth c A ls hx hb hr hml hlocks hmn hown htt hN hA hP hK hD hS hl
  have hown : s.vm.findClass "MacroMill" = some m.cls := hown
  have hl : lv_has ls 3 [(0, .ref (ad 0)), (1, .int v0)] := hl
  refine lv_bipush (v := 24) hx hb d_MM_layNumber_0 (by decide) ?_
  refine lv_istore_n (lv' := [(2, .int 24), (0, .ref (ad 0)), (1, .int v0)]) hx hb d_MM_layNumber_2 rfl hl (by decide) rfl (fun ls hl => ?_)
  refine lv_iload_n hx hb d_MM_layNumber_3 rfl (lv_at hl 0 rfl) ?_
  refine lv_if_lt (tgt := 36) hx hb d_MM_layNumber_4 (by decide) (fun h9 => absurd h9 (by decide)) (fun _ => ?_)
  refine lv_aload_n hx hb d_MM_layNumber_7 rfl (lv_at hl 1 rfl) ?_
  refine S_getR (h := shC) (C := "MacroMill") (T := F_MM) hx hb htt in_MM hown hK hP 0 0 rfl 13 rfl rfl (by decide) (htt _ k_964) (fun _ h9 => h9) d_MM_layNumber_8 ?_
  refine lv_aload_n hx hb d_MM_layNumber_11 rfl (lv_at hl 1 rfl) ?_
  refine S_getI (h := shC) (C := "MacroMill") (T := F_MM) hx hb htt in_MM hown hK hP 0 1 rfl rfl rfl (by decide) (htt _ k_965) (fun _ h9 => h9) d_MM_layNumber_12 ?_
  refine toI (y := nI n0) hs ?_
  refine lv_iload_n hx hb d_MM_layNumber_15 rfl (lv_at hl 2 rfl) ?_
  refine lv_iload_n hx hb d_MM_layNumber_16 rfl (lv_at hl 0 rfl) ?_
  refine lv_ishr hx hb d_MM_layNumber_17 ?_
  show W _ _ _ _ _ _ _ _ _ _ _ _ _ _ _ (F0 _ 18 _ _)
  refine lv_i2b (v := (v0 >>> (24 &&& 31)).toInt8.toInt32) hx hb d_MM_layNumber_18 rfl ?_
  refine S_bast (h := shC) (i := nI n0) (v := (v0 >>> (24 &&& 31)).toInt8.toInt32) hx hb hK hP hD hS 0 rfl (vp_in_nI (by omega) (by decide)) d_MM_layNumber_19 (fun H locs hP hD hS => ?_)
  refine lv_aload_n hx hb d_MM_layNumber_20 rfl (lv_at hl 1 rfl) ?_
  refine lv_dup hx hb d_MM_layNumber_21 rfl ?_
  refine S_getI (h := shC) (C := "MacroMill") (T := F_MM) hx hb htt in_MM hown hK hP 0 1 rfl rfl rfl (by decide) (htt _ k_965) (fun _ h9 => h9) d_MM_layNumber_22 ?_
  refine toI (y := nI n0) hs ?_
  refine lv_iconst (v := 1) hx hb d_MM_layNumber_25 (by decide) ?_
  refine lv_iadd hx hb d_MM_layNumber_26 ?_
  refine toI (y := nI (n0 + 1)) (nI_1 n0) ?_
  refine S_put (h := shC) (C := "MacroMill") (T := F_MM) (v := nI (n0 + 1)) hx hb htt in_MM t_MM t_MM_ok n_MM hown hK hP hD hS 0 1 rfl rfl rfl (by decide) (htt _ k_965) (fun _ h9 => h9) rfl rfl rfl d_MM_layNumber_27 (fun H locs hP hD hS => ?_)
  refine lv_iinc (k := 0) (v := 16) (lv' := [(2, .int 16), (0, .ref (ad 0)), (1, .int v0)]) hx hb d_MM_layNumber_30 hl rfl (by decide) (by decide) rfl (fun ls hl => ?_)
  refine lv_goto (tgt := 3) hx hb d_MM_layNumber_33 (by decide) ?_
  refine lv_iload_n hx hb d_MM_layNumber_3 rfl (lv_at hl 0 rfl) ?_
  refine lv_if_lt (tgt := 36) hx hb d_MM_layNumber_4 (by decide) (fun h9 => absurd h9 (by decide)) (fun _ => ?_)
  show W _ _ _ _ _ _ _ _ _ _ _ _ _ _ _ (F0 _ 7 _ _)
  refine lv_aload_n hx hb d_MM_layNumber_7 rfl (lv_at hl 1 rfl) ?_
  refine S_getR (h := shC) (C := "MacroMill") (T := F_MM) hx hb htt in_MM hown hK hP 0 0 rfl 13 rfl rfl (by decide) (htt _ k_964) (fun _ h9 => h9) d_MM_layNumber_8 ?_
  refine lv_aload_n hx hb d_MM_layNumber_11 rfl (lv_at hl 1 rfl) ?_
  refine S_getI (h := shC) (C := "MacroMill") (T := F_MM) hx hb htt in_MM hown hK hP 0 1 rfl rfl rfl (by decide) (htt _ k_965) (fun _ h9 => h9) d_MM_layNumber_12 ?_
  refine toI (y := nI (n0 + 1)) rfl ?_
  refine lv_iload_n hx hb d_MM_layNumber_15 rfl (lv_at hl 2 rfl) ?_
  refine lv_iload_n hx hb d_MM_layNumber_16 rfl (lv_at hl 0 rfl) ?_
  refine lv_ishr hx hb d_MM_layNumber_17 ?_
  refine lv_i2b (v := (v0 >>> (16 &&& 31)).toInt8.toInt32) hx hb d_MM_layNumber_18 rfl ?_
  refine S_bast (h := shC) (i := nI (n0 + 1)) (v := (v0 >>> (16 &&& 31)).toInt8.toInt32) hx hb hK hP hD hS 0 rfl (vp_in_nI (by omega) (by decide)) d_MM_layNumber_19 (fun H locs hP hD hS => ?_)
  refine lv_aload_n hx hb d_MM_layNumber_20 rfl (lv_at hl 1 rfl) ?_
  refine lv_dup hx hb d_MM_layNumber_21 rfl ?_
  refine S_getI (h := shC) (C := "MacroMill") (T := F_MM) hx hb htt in_MM hown hK hP 0 1 rfl rfl rfl (by decide) (htt _ k_965) (fun _ h9 => h9) d_MM_layNumber_22 ?_
  refine toI (y := nI (n0 + 1)) rfl ?_
  show W _ _ _ _ _ _ _ _ _ _ _ _ _ _ _ (F0 _ 25 _ _)
  refine lv_iconst (v := 1) hx hb d_MM_layNumber_25 (by decide) ?_
  refine lv_iadd hx hb d_MM_layNumber_26 ?_
  refine toI (y := nI (n0 + 2)) (nI_1 (n0 + 1)) ?_
  refine S_put (h := shC) (C := "MacroMill") (T := F_MM) (v := nI (n0 + 2)) hx hb htt in_MM t_MM t_MM_ok n_MM hown hK hP hD hS 0 1 rfl rfl rfl (by decide) (htt _ k_965) (fun _ h9 => h9) rfl rfl rfl d_MM_layNumber_27 (fun H locs hP hD hS => ?_)
  refine lv_iinc (k := 0) (v := 8) (lv' := [(2, .int 8), (0, .ref (ad 0)), (1, .int v0)]) hx hb d_MM_layNumber_30 hl rfl (by decide) (by decide) rfl (fun ls hl => ?_)
  refine lv_goto (tgt := 3) hx hb d_MM_layNumber_33 (by decide) ?_
  refine lv_iload_n hx hb d_MM_layNumber_3 rfl (lv_at hl 0 rfl) ?_
  refine lv_if_lt (tgt := 36) hx hb d_MM_layNumber_4 (by decide) (fun h9 => absurd h9 (by decide)) (fun _ => ?_)
  refine lv_aload_n hx hb d_MM_layNumber_7 rfl (lv_at hl 1 rfl) ?_
  refine S_getR (h := shC) (C := "MacroMill") (T := F_MM) hx hb htt in_MM hown hK hP 0 0 rfl 13 rfl rfl (by decide) (htt _ k_964) (fun _ h9 => h9) d_MM_layNumber_8 ?_
  refine lv_aload_n hx hb d_MM_layNumber_11 rfl (lv_at hl 1 rfl) ?_
  refine S_getI (h := shC) (C := "MacroMill") (T := F_MM) hx hb htt in_MM hown hK hP 0 1 rfl rfl rfl (by decide) (htt _ k_965) (fun _ h9 => h9) d_MM_layNumber_12 ?_
  refine toI (y := nI (n0 + 2)) rfl ?_
  refine lv_iload_n hx hb d_MM_layNumber_15 rfl (lv_at hl 2 rfl) ?_
  show W _ _ _ _ _ _ _ _ _ _ _ _ _ _ _ (F0 _ 16 _ _)
  refine lv_iload_n hx hb d_MM_layNumber_16 rfl (lv_at hl 0 rfl) ?_
  refine lv_ishr hx hb d_MM_layNumber_17 ?_
  refine lv_i2b (v := (v0 >>> (8 &&& 31)).toInt8.toInt32) hx hb d_MM_layNumber_18 rfl ?_
  refine S_bast (h := shC) (i := nI (n0 + 2)) (v := (v0 >>> (8 &&& 31)).toInt8.toInt32) hx hb hK hP hD hS 0 rfl (vp_in_nI (by omega) (by decide)) d_MM_layNumber_19 (fun H locs hP hD hS => ?_)
  refine lv_aload_n hx hb d_MM_layNumber_20 rfl (lv_at hl 1 rfl) ?_
  refine lv_dup hx hb d_MM_layNumber_21 rfl ?_
  refine S_getI (h := shC) (C := "MacroMill") (T := F_MM) hx hb htt in_MM hown hK hP 0 1 rfl rfl rfl (by decide) (htt _ k_965) (fun _ h9 => h9) d_MM_layNumber_22 ?_
  refine toI (y := nI (n0 + 2)) rfl ?_
  refine lv_iconst (v := 1) hx hb d_MM_layNumber_25 (by decide) ?_
  refine lv_iadd hx hb d_MM_layNumber_26 ?_
  refine toI (y := nI (n0 + 3)) (nI_1 (n0 + 2)) ?_
  refine S_put (h := shC) (C := "MacroMill") (T := F_MM) (v := nI (n0 + 3)) hx hb htt in_MM t_MM t_MM_ok n_MM hown hK hP hD hS 0 1 rfl rfl rfl (by decide) (htt _ k_965) (fun _ h9 => h9) rfl rfl rfl d_MM_layNumber_27 (fun H locs hP hD hS => ?_)
  refine lv_iinc (k := 0) (v := 0) (lv' := [(2, .int 0), (0, .ref (ad 0)), (1, .int v0)]) hx hb d_MM_layNumber_30 hl rfl (by decide) (by decide) rfl (fun ls hl => ?_)
  refine lv_goto (tgt := 3) hx hb d_MM_layNumber_33 (by decide) ?_
  show W _ _ _ _ _ _ _ _ _ _ _ _ _ _ _ (F0 _ 3 _ _)
  refine lv_iload_n hx hb d_MM_layNumber_3 rfl (lv_at hl 0 rfl) ?_
  refine lv_if_lt (tgt := 36) hx hb d_MM_layNumber_4 (by decide) (fun h9 => absurd h9 (by decide)) (fun _ => ?_)
  refine lv_aload_n hx hb d_MM_layNumber_7 rfl (lv_at hl 1 rfl) ?_
  refine S_getR (h := shC) (C := "MacroMill") (T := F_MM) hx hb htt in_MM hown hK hP 0 0 rfl 13 rfl rfl (by decide) (htt _ k_964) (fun _ h9 => h9) d_MM_layNumber_8 ?_
  refine lv_aload_n hx hb d_MM_layNumber_11 rfl (lv_at hl 1 rfl) ?_
  refine S_getI (h := shC) (C := "MacroMill") (T := F_MM) hx hb htt in_MM hown hK hP 0 1 rfl rfl rfl (by decide) (htt _ k_965) (fun _ h9 => h9) d_MM_layNumber_12 ?_
  refine toI (y := nI (n0 + 3)) rfl ?_
  refine lv_iload_n hx hb d_MM_layNumber_15 rfl (lv_at hl 2 rfl) ?_
  refine lv_iload_n hx hb d_MM_layNumber_16 rfl (lv_at hl 0 rfl) ?_
  refine lv_ishr hx hb d_MM_layNumber_17 ?_
  refine lv_i2b (v := (v0 >>> (0 &&& 31)).toInt8.toInt32) hx hb d_MM_layNumber_18 rfl ?_
  refine S_bast (h := shC) (i := nI (n0 + 3)) (v := (v0 >>> (0 &&& 31)).toInt8.toInt32) hx hb hK hP hD hS 0 rfl (vp_in_nI (by omega) (by decide)) d_MM_layNumber_19 (fun H locs hP hD hS => ?_)
  refine lv_aload_n hx hb d_MM_layNumber_20 rfl (lv_at hl 1 rfl) ?_
  show W _ _ _ _ _ _ _ _ _ _ _ _ _ _ _ (F0 _ 21 _ _)
  refine lv_dup hx hb d_MM_layNumber_21 rfl ?_
  refine S_getI (h := shC) (C := "MacroMill") (T := F_MM) hx hb htt in_MM hown hK hP 0 1 rfl rfl rfl (by decide) (htt _ k_965) (fun _ h9 => h9) d_MM_layNumber_22 ?_
  refine toI (y := nI (n0 + 3)) rfl ?_
  refine lv_iconst (v := 1) hx hb d_MM_layNumber_25 (by decide) ?_
  refine lv_iadd hx hb d_MM_layNumber_26 ?_
  refine toI (y := nI (n0 + 4)) (nI_1 (n0 + 3)) ?_
  refine S_put (h := shC) (C := "MacroMill") (T := F_MM) (v := nI (n0 + 4)) hx hb htt in_MM t_MM t_MM_ok n_MM hown hK hP hD hS 0 1 rfl rfl rfl (by decide) (htt _ k_965) (fun _ h9 => h9) rfl rfl rfl d_MM_layNumber_27 (fun H locs hP hD hS => ?_)
  refine lv_iinc (k := 0) (v := (-8)) (lv' := [(2, .int (-8)), (0, .ref (ad 0)), (1, .int v0)]) hx hb d_MM_layNumber_30 hl rfl (by decide) (by decide) rfl (fun ls hl => ?_)
  refine lv_goto (tgt := 3) hx hb d_MM_layNumber_33 (by decide) ?_
  refine lv_iload_n hx hb d_MM_layNumber_3 rfl (lv_at hl 0 rfl) ?_
  refine lv_if_lt (tgt := 36) hx hb d_MM_layNumber_4 (by decide) (fun _ => ?_) (fun h9 => absurd (by decide) h9)
  exact fin_v (g := g) (ws := Sw shC g ad (putI (putA (putI (putA (putI (putA (putI (putA S 0 (nI n0 : Int32).toNatClampNeg (vp_nar .byte ((v0 >>> (24 &&& 31)).toInt8.toInt32))) 0 1 (nI (n0 + 1))) 0 (nI (n0 + 1) : Int32).toNatClampNeg (vp_nar .byte ((v0 >>> (16 &&& 31)).toInt8.toInt32))) 0 1 (nI (n0 + 2))) 0 (nI (n0 + 2) : Int32).toNatClampNeg (vp_nar .byte ((v0 >>> (8 &&& 31)).toInt8.toInt32))) 0 1 (nI (n0 + 3))) 0 (nI (n0 + 3) : Int32).toNatClampNeg (vp_nar .byte ((v0 >>> (0 &&& 31)).toInt8.toInt32))) 0 1 (nI (n0 + 4)))) hx hb hr hlocks (by decide +kernel) (by decide +kernel) hP hD hS ⟨_, rfl, by unfold layF; rw [nI_clamp (by omega : n0 < 2 ^ 31), nI_clamp (by omega : n0 + 1 < 2 ^ 31), nI_clamp (by omega : n0 + 2 < 2 ^ 31), nI_clamp (by omega : n0 + 3 < 2 ^ 31)]⟩ d_MM_layNumber_36
abbrev rm_c_feed : Room := { frames := 1, cells := 0, slots := 0, locals := 22 }
set_option maxHeartbeats 4000000 in
set_option maxRecDepth 100000 in
theorem c_feed (l : Launch) (g : gG) (sz : Nat) (ad : Nat → Nat) (S : sS) (n0 : Nat) (v1 : Int32) (v2 : Int32) (v3 : Int32) (v4 : Int32) (v5 : Int32) (hs : S.1 0 1 = nI n0) (hn : n0 + 20 ≤ 16384) : Ci l y_MM_feed b_MM_feed 6 rm_c_feed g [.ref (ad 0), .int v1, .int v2, .int v3, .int v4, .int v5] (Sw shC g ad S) sz (fun r w => ∃ S' : sS, w = Sw shC g ad S' ∧ r = nI (((((n0 + 4) + 4) + 4) + 4) + 4) ∧ S' = (putI (layF 0 (layF 0 (layF 0 (layF 0 (layF 0 S n0 (v1)) (n0 + 4) (v2)) ((n0 + 4) + 4) (v3)) (((n0 + 4) + 4) + 4) (v4)) ((((n0 + 4) + 4) + 4) + 4) (v5)) 0 2 1)) := by
  refine startI (by decide) (Nat.le_of_ble_eq_true rfl) ?_
  intro p e s m below meth c A ls hx hb hr hml hlocks hmn hown htt hN hA hP hK hD hS hl
  have hown : s.vm.findClass "MacroMill" = some m.cls := hown
  have hl : lv_has ls 6 [(0, .ref (ad 0)), (1, .int v1), (2, .int v2), (3, .int v3), (4, .int v4), (5, .int v5)] := hl
  refine lv_aload_n hx hb d_MM_feed_0 rfl (lv_at hl 0 rfl) ?_
  refine S_getI (h := shC) (C := "MacroMill") (T := F_MM) hx hb htt in_MM hown hK hP 0 1 rfl rfl rfl (by decide) (htt _ k_965) (fun _ h9 => h9) d_MM_feed_1 ?_
  refine toI (y := nI n0) hs ?_
  refine lv_bipush (v := 20) hx hb d_MM_feed_4 (by decide) ?_
  refine lv_iadd hx hb d_MM_feed_6 ?_
  refine toI (y := nI (n0 + 20)) (nI_add n0 20) ?_
  refine lv_sipush (v := 16384) hx hb d_MM_feed_7 (by decide) ?_
  refine lv_icmp_le (tgt := 16) hx hb d_MM_feed_10 (by decide) (fun _ => ?_) (fun h9 => absurd (nI_le (b := 16384) hn (by decide)) h9)
  refine lv_aload_n hx hb d_MM_feed_16 rfl (lv_at hl 0 rfl) ?_
  refine lv_iload_n hx hb d_MM_feed_17 rfl (lv_at hl 1 rfl) ?_
  refine go_vS (As := [.ref (ad 0), .int v1]) (g := g) (A := A) (h := shC) hP hK hD hS hA hN (fun hp => va_runV (As := [.int v1]) (rest := []) ⟨hx, hb, hml, hown, htt⟩ (c_lay l g _ ad S n0 (v1) hs (by omega)) ⟨(cb_L htt k_993 k_262 k_990 hd_MM_layNumber ⟨(by decide +kernel), (by decide +kernel)⟩), htt _ k_992, htt _ k_0⟩ ⟨hp.1, S_recv hK hP 0 rfl rfl, hp.2⟩ rfl rfl hl.1 rfl (lv_room (Nat.le_of_ble_eq_true rfl)) d_MM_feed_18 ⟨(by decide +kernel), (by decide +kernel)⟩) (fun Sn H locs hw9 hP hD hS => ?_)
  obtain rfl := hw9
  refine W.widen (k := 0) (n := 0) (by decide +kernel) (by decide +kernel) ?_
  refine lv_aload_n hx hb d_MM_feed_21 rfl (lv_at hl 0 rfl) ?_
  refine lv_iload_n hx hb d_MM_feed_22 rfl (lv_at hl 2 rfl) ?_
  show W _ _ _ _ _ _ _ _ _ _ _ _ _ _ _ (F0 _ 23 _ _)
  refine go_vS (As := [.ref (ad 0), .int v2]) (g := g) (A := A) (h := shC) hP hK hD hS hA hN (fun hp => va_runV (As := [.int v2]) (rest := []) ⟨hx, hb, hml, hown, htt⟩ (c_lay l g _ ad (layF 0 S n0 (v1)) (n0 + 4) (v2) rfl (by omega)) ⟨(cb_L htt k_993 k_262 k_990 hd_MM_layNumber ⟨(by decide +kernel), (by decide +kernel)⟩), htt _ k_992, htt _ k_0⟩ ⟨hp.1, S_recv hK hP 0 rfl rfl, hp.2⟩ rfl rfl hl.1 rfl (lv_room (Nat.le_of_ble_eq_true rfl)) d_MM_feed_23 ⟨(by decide +kernel), (by decide +kernel)⟩) (fun Sn_2 H locs hw9 hP hD hS => ?_)
  obtain rfl := hw9
  refine W.widen (k := 0) (n := 0) (by decide +kernel) (by decide +kernel) ?_
  refine lv_aload_n hx hb d_MM_feed_26 rfl (lv_at hl 0 rfl) ?_
  refine lv_iload_n hx hb d_MM_feed_27 rfl (lv_at hl 3 rfl) ?_
  refine go_vS (As := [.ref (ad 0), .int v3]) (g := g) (A := A) (h := shC) hP hK hD hS hA hN (fun hp => va_runV (As := [.int v3]) (rest := []) ⟨hx, hb, hml, hown, htt⟩ (c_lay l g _ ad (layF 0 (layF 0 S n0 (v1)) (n0 + 4) (v2)) ((n0 + 4) + 4) (v3) rfl (by omega)) ⟨(cb_L htt k_993 k_262 k_990 hd_MM_layNumber ⟨(by decide +kernel), (by decide +kernel)⟩), htt _ k_992, htt _ k_0⟩ ⟨hp.1, S_recv hK hP 0 rfl rfl, hp.2⟩ rfl rfl hl.1 rfl (lv_room (Nat.le_of_ble_eq_true rfl)) d_MM_feed_28 ⟨(by decide +kernel), (by decide +kernel)⟩) (fun Sn_3 H locs hw9 hP hD hS => ?_)
  obtain rfl := hw9
  refine W.widen (k := 0) (n := 0) (by decide +kernel) (by decide +kernel) ?_
  refine lv_aload_n hx hb d_MM_feed_31 rfl (lv_at hl 0 rfl) ?_
  refine lv_iload hx hb d_MM_feed_32 (lv_at hl 4 rfl) ?_
  refine go_vS (As := [.ref (ad 0), .int v4]) (g := g) (A := A) (h := shC) hP hK hD hS hA hN (fun hp => va_runV (As := [.int v4]) (rest := []) ⟨hx, hb, hml, hown, htt⟩ (c_lay l g _ ad (layF 0 (layF 0 (layF 0 S n0 (v1)) (n0 + 4) (v2)) ((n0 + 4) + 4) (v3)) (((n0 + 4) + 4) + 4) (v4) rfl (by omega)) ⟨(cb_L htt k_993 k_262 k_990 hd_MM_layNumber ⟨(by decide +kernel), (by decide +kernel)⟩), htt _ k_992, htt _ k_0⟩ ⟨hp.1, S_recv hK hP 0 rfl rfl, hp.2⟩ rfl rfl hl.1 rfl (lv_room (Nat.le_of_ble_eq_true rfl)) d_MM_feed_34 ⟨(by decide +kernel), (by decide +kernel)⟩) (fun Sn_4 H locs hw9 hP hD hS => ?_)
  obtain rfl := hw9
  refine W.widen (k := 0) (n := 0) (by decide +kernel) (by decide +kernel) ?_
  refine lv_aload_n hx hb d_MM_feed_37 rfl (lv_at hl 0 rfl) ?_
  refine lv_iload hx hb d_MM_feed_38 (lv_at hl 5 rfl) ?_
  refine go_vS (As := [.ref (ad 0), .int v5]) (g := g) (A := A) (h := shC) hP hK hD hS hA hN (fun hp => va_runV (As := [.int v5]) (rest := []) ⟨hx, hb, hml, hown, htt⟩ (c_lay l g _ ad (layF 0 (layF 0 (layF 0 (layF 0 S n0 (v1)) (n0 + 4) (v2)) ((n0 + 4) + 4) (v3)) (((n0 + 4) + 4) + 4) (v4)) ((((n0 + 4) + 4) + 4) + 4) (v5) rfl (by omega)) ⟨(cb_L htt k_993 k_262 k_990 hd_MM_layNumber ⟨(by decide +kernel), (by decide +kernel)⟩), htt _ k_992, htt _ k_0⟩ ⟨hp.1, S_recv hK hP 0 rfl rfl, hp.2⟩ rfl rfl hl.1 rfl (lv_room (Nat.le_of_ble_eq_true rfl)) d_MM_feed_40 ⟨(by decide +kernel), (by decide +kernel)⟩) (fun Sn_5 H locs hw9 hP hD hS => ?_)
  obtain rfl := hw9
  refine W.widen (k := 0) (n := 0) (by decide +kernel) (by decide +kernel) ?_
  refine lv_aload_n hx hb d_MM_feed_43 rfl (lv_at hl 0 rfl) ?_
  refine lv_iconst (v := 1) hx hb d_MM_feed_44 (by decide) ?_
  show W _ _ _ _ _ _ _ _ _ _ _ _ _ _ _ (F0 _ 45 _ _)
  refine S_put (h := shC) (C := "MacroMill") (T := F_MM) (v := 1) hx hb htt in_MM t_MM t_MM_ok n_MM hown hK hP hD hS 0 2 rfl rfl rfl (by decide) (htt _ k_966) (fun _ h9 => h9) rfl rfl rfl d_MM_feed_45 (fun H locs hP hD hS => ?_)
  refine lv_aload_n hx hb d_MM_feed_48 rfl (lv_at hl 0 rfl) ?_
  refine S_getI (h := shC) (C := "MacroMill") (T := F_MM) hx hb htt in_MM hown hK hP 0 1 rfl rfl rfl (by decide) (htt _ k_965) (fun _ h9 => h9) d_MM_feed_49 ?_
  refine toI (y := nI (((((n0 + 4) + 4) + 4) + 4) + 4)) rfl ?_
  exact fin_i (g := g) (ws := Sw shC g ad (putI (layF 0 (layF 0 (layF 0 (layF 0 (layF 0 S n0 (v1)) (n0 + 4) (v2)) ((n0 + 4) + 4) (v3)) (((n0 + 4) + 4) + 4) (v4)) ((((n0 + 4) + 4) + 4) + 4) (v5)) 0 2 1)) (v := nI (((((n0 + 4) + 4) + 4) + 4) + 4)) hx hb hr hlocks (by decide +kernel) (by decide +kernel) hP hD hS ⟨_, rfl, rfl, rfl⟩ d_MM_feed_52
abbrev rm_c_feedFull : Room := { frames := 0, cells := 0, slots := 0, locals := 0 }
set_option maxHeartbeats 4000000 in
set_option maxRecDepth 100000 in
theorem c_feedFull (l : Launch) (g : gG) (sz : Nat) (ad : Nat → Nat) (S : sS) (n0 : Nat) (v1 : Int32) (v2 : Int32) (v3 : Int32) (v4 : Int32) (v5 : Int32) (hs : S.1 0 1 = nI n0) (hn : 16384 < n0 + 20) (hm : n0 ≤ 16384) : Ci l y_MM_feed b_MM_feed 6 rm_c_feedFull g [.ref (ad 0), .int v1, .int v2, .int v3, .int v4, .int v5] (Sw shC g ad S) sz (fun r w => ∃ S' : sS, w = Sw shC g ad S' ∧ r = (-4) ∧ S' = S) := by
  refine startI (by decide) (Nat.le_of_ble_eq_true rfl) ?_
  intro p e s m below meth c A ls hx hb hr hml hlocks hmn hown htt hN hA hP hK hD hS hl
  have hown : s.vm.findClass "MacroMill" = some m.cls := hown
  have hl : lv_has ls 6 [(0, .ref (ad 0)), (1, .int v1), (2, .int v2), (3, .int v3), (4, .int v4), (5, .int v5)] := hl
  refine lv_aload_n hx hb d_MM_feed_0 rfl (lv_at hl 0 rfl) ?_
  refine S_getI (h := shC) (C := "MacroMill") (T := F_MM) hx hb htt in_MM hown hK hP 0 1 rfl rfl rfl (by decide) (htt _ k_965) (fun _ h9 => h9) d_MM_feed_1 ?_
  refine toI (y := nI n0) hs ?_
  refine lv_bipush (v := 20) hx hb d_MM_feed_4 (by decide) ?_
  refine lv_iadd hx hb d_MM_feed_6 ?_
  refine toI (y := nI (n0 + 20)) (nI_add n0 20) ?_
  refine lv_sipush (v := 16384) hx hb d_MM_feed_7 (by decide) ?_
  refine lv_icmp_le (tgt := 16) hx hb d_MM_feed_10 (by decide) (fun h9 => absurd h9 (nI_ge (a := 16384) hn (by omega))) (fun _ => ?_)
  refine lv_bipush (v := (-4)) hx hb d_MM_feed_13 (by decide) ?_
  exact fin_i (g := g) (ws := Sw shC g ad S) (v := (-4)) hx hb hr hlocks (by decide +kernel) (by decide +kernel) hP hD hS ⟨_, rfl, rfl, rfl⟩ d_MM_feed_15
abbrev rm_c_clear : Room := { frames := 0, cells := 0, slots := 0, locals := 0 }
set_option maxHeartbeats 4000000 in
set_option maxRecDepth 100000 in
theorem c_clear (l : Launch) (g : gG) (sz : Nat) (ad : Nat → Nat) (S : sS) : Ci l y_MM_clear b_MM_clear 2 rm_c_clear g [.ref (ad 0)] (Sw shC g ad S) sz (fun r w => ∃ S' : sS, w = Sw shC g ad S' ∧ r = S.1 1 4 ∧ S' = (putI S 1 4 0)) := by
  refine startI (by decide) (Nat.le_of_ble_eq_true rfl) ?_
  intro p e s m below meth c A ls hx hb hr hml hlocks hmn hown htt hN hA hP hK hD hS hl
  have hown : s.vm.findClass "MacroMill" = some m.cls := hown
  have hl : lv_has ls 2 [(0, .ref (ad 0))] := hl
  refine lv_aload_n hx hb d_MM_clear_0 rfl (lv_at hl 0 rfl) ?_
  refine S_getR (h := shC) (C := "MacroMill") (T := F_MM) hx hb htt in_MM hown hK hP 0 3 rfl 1 rfl rfl (by decide) (htt _ k_967) (fun _ h9 => h9) d_MM_clear_1 ?_
  refine S_getI (h := shC) (C := "MacroMill$Files") (T := F_Files) hx hb htt in_Files hown hK hP 1 4 rfl rfl rfl (by decide) (htt _ k_312) (fun _ h9 => h9) d_MM_clear_4 ?_
  refine lv_istore_n (lv' := [(1, .int (S.1 1 4)), (0, .ref (ad 0))]) hx hb d_MM_clear_7 rfl hl (by decide) rfl (fun ls hl => ?_)
  refine lv_aload_n hx hb d_MM_clear_8 rfl (lv_at hl 1 rfl) ?_
  refine S_getR (h := shC) (C := "MacroMill") (T := F_MM) hx hb htt in_MM hown hK hP 0 3 rfl 1 rfl rfl (by decide) (htt _ k_967) (fun _ h9 => h9) d_MM_clear_9 ?_
  refine lv_iconst (v := 0) hx hb d_MM_clear_12 (by decide) ?_
  refine S_put (h := shC) (C := "MacroMill$Files") (T := F_Files) (v := 0) hx hb htt in_Files t_Files t_Files_ok n_Files hown hK hP hD hS 1 4 rfl rfl rfl (by decide) (htt _ k_312) (fun _ h9 => h9) rfl rfl rfl d_MM_clear_13 (fun H locs hP hD hS => ?_)
  refine lv_iload_n hx hb d_MM_clear_16 rfl (lv_at hl 0 rfl) ?_
  exact fin_i (g := g) (ws := Sw shC g ad (putI S 1 4 0)) (v := S.1 1 4) hx hb hr hlocks (by decide +kernel) (by decide +kernel) hP hD hS ⟨_, rfl, rfl, rfl⟩ d_MM_clear_17
abbrev rm_c_size : Room := { frames := 0, cells := 0, slots := 0, locals := 0 }
set_option maxHeartbeats 4000000 in
set_option maxRecDepth 100000 in
theorem c_size (l : Launch) (g : gG) (sz : Nat) (ad : Nat → Nat) (S : sS) : Ci l y_MM_size b_MM_size 1 rm_c_size g [.ref (ad 0)] (Sw shC g ad S) sz (fun r w => ∃ S' : sS, w = Sw shC g ad S' ∧ r = S.1 2 1 ∧ S' = S) := by
  refine startI (by decide) (Nat.le_of_ble_eq_true rfl) ?_
  intro p e s m below meth c A ls hx hb hr hml hlocks hmn hown htt hN hA hP hK hD hS hl
  have hown : s.vm.findClass "MacroMill" = some m.cls := hown
  have hl : lv_has ls 1 [(0, .ref (ad 0))] := hl
  refine lv_aload_n hx hb d_MM_size_0 rfl (lv_at hl 0 rfl) ?_
  refine S_getR (h := shC) (C := "MacroMill") (T := F_MM) hx hb htt in_MM hown hK hP 0 4 rfl 2 rfl rfl (by decide) (htt _ k_968) (fun _ h9 => h9) d_MM_size_1 ?_
  refine S_getI (h := shC) (C := "MacroMill$Outcome") (T := F_Outcome) hx hb htt in_Outcome hown hK hP 2 1 rfl rfl rfl (by decide) (htt _ k_341) (fun _ h9 => h9) d_MM_size_4 ?_
  exact fin_i (g := g) (ws := Sw shC g ad S) (v := S.1 2 1) hx hb hr hlocks (by decide +kernel) (by decide +kernel) hP hD hS ⟨_, rfl, rfl, rfl⟩ d_MM_size_7
abbrev rm_c_astray : Room := { frames := 0, cells := 0, slots := 0, locals := 0 }
set_option maxHeartbeats 4000000 in
set_option maxRecDepth 100000 in
theorem c_astray (l : Launch) (g : gG) (sz : Nat) (ad : Nat → Nat) (S : sS) : Ci l y_MM_astray b_MM_astray 1 rm_c_astray g [.ref (ad 0)] (Sw shC g ad S) sz (fun r w => ∃ S' : sS, w = Sw shC g ad S' ∧ r = S.1 2 9 ∧ S' = S) := by
  refine startI (by decide) (Nat.le_of_ble_eq_true rfl) ?_
  intro p e s m below meth c A ls hx hb hr hml hlocks hmn hown htt hN hA hP hK hD hS hl
  have hown : s.vm.findClass "MacroMill" = some m.cls := hown
  have hl : lv_has ls 1 [(0, .ref (ad 0))] := hl
  refine lv_aload_n hx hb d_MM_astray_0 rfl (lv_at hl 0 rfl) ?_
  refine S_getR (h := shC) (C := "MacroMill") (T := F_MM) hx hb htt in_MM hown hK hP 0 4 rfl 2 rfl rfl (by decide) (htt _ k_968) (fun _ h9 => h9) d_MM_astray_1 ?_
  refine S_getI (h := shC) (C := "MacroMill$Outcome") (T := F_Outcome) hx hb htt in_Outcome hown hK hP 2 9 rfl rfl rfl (by decide) (htt _ k_363) (fun _ h9 => h9) d_MM_astray_4 ?_
  exact fin_i (g := g) (ws := Sw shC g ad S) (v := S.1 2 9) hx hb hr hlocks (by decide +kernel) (by decide +kernel) hP hD hS ⟨_, rfl, rfl, rfl⟩ d_MM_astray_7
abbrev rm_c_end : Room := { frames := 0, cells := 0, slots := 0, locals := 0 }
set_option maxHeartbeats 4000000 in
set_option maxRecDepth 100000 in
theorem c_end (l : Launch) (g : gG) (sz : Nat) (ad : Nat → Nat) (S : sS) (v1 : Int32) : Ci l y_MM_end b_MM_end 2 rm_c_end g [.ref (ad 0), .int v1] (Sw shC g ad S) sz (fun r w => ∃ S' : sS, w = Sw shC g ad S' ∧ (((S.1 0 2 = 0 ∨ v1 < 0 ∨ 20 < v1) ∧ r = (-1) ∧ S' = S) ∨ (¬ S.1 0 2 = 0 ∧ ¬ v1 < 0 ∧ ¬ 20 < v1 ∧ r = S.1 0 1 - (20 - v1) ∧ S' = putI (putI S 0 1 (S.1 0 1 - (20 - v1))) 0 2 0))) := by
  refine startI (by decide) (Nat.le_of_ble_eq_true rfl) ?_
  intro p e s m below meth c A ls hx hb hr hml hlocks hmn hown htt hN hA hP hK hD hS hl
  have hown : s.vm.findClass "MacroMill" = some m.cls := hown
  have hl : lv_has ls 2 [(0, .ref (ad 0)), (1, .int v1)] := hl
  refine lv_iload_n hx hb d_MM_end_0 rfl (lv_at hl 1 rfl) ?_
  refine lv_if_lt (tgt := 17) hx hb d_MM_end_1 (by decide) (fun h1 => ?_) (fun h1 => ?_)
  · refine lv_iconst (v := (-1)) hx hb d_MM_end_17 (by decide) ?_
    exact fin_i (g := g) (ws := Sw shC g ad S) (v := (-1)) hx hb hr hlocks (by decide +kernel) (by decide +kernel) hP hD hS ⟨S, rfl, Or.inl ⟨by first | exact Or.inl h3 | exact Or.inr (Or.inl h1) | exact Or.inr (Or.inr h2), rfl, rfl⟩⟩ d_MM_end_18
  · refine lv_iload_n hx hb d_MM_end_4 rfl (lv_at hl 1 rfl) ?_
    refine lv_bipush (v := 20) hx hb d_MM_end_5 (by decide) ?_
    refine lv_icmp_gt (tgt := 17) hx hb d_MM_end_7 (by decide) (fun h2 => ?_) (fun h2 => ?_)
    · refine lv_iconst (v := (-1)) hx hb d_MM_end_17 (by decide) ?_
      exact fin_i (g := g) (ws := Sw shC g ad S) (v := (-1)) hx hb hr hlocks (by decide +kernel) (by decide +kernel) hP hD hS ⟨S, rfl, Or.inl ⟨by first | exact Or.inl h3 | exact Or.inr (Or.inl h1) | exact Or.inr (Or.inr h2), rfl, rfl⟩⟩ d_MM_end_18
    · refine lv_aload_n hx hb d_MM_end_10 rfl (lv_at hl 0 rfl) ?_
      refine S_getI (h := shC) (C := "MacroMill") (T := F_MM) hx hb htt in_MM hown hK hP 0 2 rfl rfl rfl (by decide) (htt _ k_966) (fun _ h9 => h9) d_MM_end_11 ?_
      refine lv_if_ne (tgt := 19) hx hb d_MM_end_14 (by decide) (fun h3 => ?_) (fun h3 => ?_)
      · refine lv_aload_n hx hb d_MM_end_19 rfl (lv_at hl 0 rfl) ?_
        refine lv_dup hx hb d_MM_end_20 rfl ?_
        refine S_getI (h := shC) (C := "MacroMill") (T := F_MM) hx hb htt in_MM hown hK hP 0 1 rfl rfl rfl (by decide) (htt _ k_965) (fun _ h9 => h9) d_MM_end_21 ?_
        show W _ _ _ _ _ _ _ _ _ _ _ _ _ _ _ (F0 _ 24 _ _)
        refine lv_bipush (v := 20) hx hb d_MM_end_24 (by decide) ?_
        refine lv_iload_n hx hb d_MM_end_26 rfl (lv_at hl 1 rfl) ?_
        refine lv_isub hx hb d_MM_end_27 ?_
        refine lv_isub hx hb d_MM_end_28 ?_
        refine S_put (h := shC) (C := "MacroMill") (T := F_MM) (v := (S.1 0 1) - (20 - v1)) hx hb htt in_MM t_MM t_MM_ok n_MM hown hK hP hD hS 0 1 rfl rfl rfl (by decide) (htt _ k_965) (fun _ h9 => h9) rfl rfl rfl d_MM_end_29 (fun H locs hP hD hS => ?_)
        refine lv_aload_n hx hb d_MM_end_32 rfl (lv_at hl 0 rfl) ?_
        refine lv_iconst (v := 0) hx hb d_MM_end_33 (by decide) ?_
        refine S_put (h := shC) (C := "MacroMill") (T := F_MM) (v := 0) hx hb htt in_MM t_MM t_MM_ok n_MM hown hK hP hD hS 0 2 rfl rfl rfl (by decide) (htt _ k_966) (fun _ h9 => h9) rfl rfl rfl d_MM_end_34 (fun H locs hP hD hS => ?_)
        refine lv_aload_n hx hb d_MM_end_37 rfl (lv_at hl 0 rfl) ?_
        refine S_getI (h := shC) (C := "MacroMill") (T := F_MM) hx hb htt in_MM hown hK hP 0 1 rfl rfl rfl (by decide) (htt _ k_965) (fun _ h9 => h9) d_MM_end_38 ?_
        refine toI (y := (S.1 0 1) - (20 - v1)) rfl ?_
        exact fin_i (g := g) (ws := Sw shC g ad (putI (putI S 0 1 ((S.1 0 1) - (20 - v1))) 0 2 0)) (v := (S.1 0 1) - (20 - v1)) hx hb hr hlocks (by decide +kernel) (by decide +kernel) hP hD hS ⟨_, rfl, Or.inr ⟨h3, h1, h2, rfl, rfl⟩⟩ d_MM_end_41
      · refine lv_iconst (v := (-1)) hx hb d_MM_end_17 (by decide) ?_
        exact fin_i (g := g) (ws := Sw shC g ad S) (v := (-1)) hx hb hr hlocks (by decide +kernel) (by decide +kernel) hP hD hS ⟨S, rfl, Or.inl ⟨by first | exact Or.inl h3 | exact Or.inr (Or.inl h1) | exact Or.inr (Or.inr h2), rfl, rfl⟩⟩ d_MM_end_18
abbrev rm_m_use : Room := { frames := 0, cells := 0, slots := 0, locals := 0 }
set_option maxHeartbeats 4000000 in
set_option maxRecDepth 100000 in
theorem m_use (l : Launch) (g : gG) (sz : Nat) (ad : Nat → Nat) (S : sS) : Ci l y_Mod_use b_Mod_use 2 rm_m_use g [.ref (ad 0)] (Sw shM g ad S) sz (fun r w => ∃ S' : sS, w = Sw shM g ad S' ∧ r = S.1 0 1 ∧ S' = (putI (putI S 0 1 0) 0 2 0)) := by
  refine startI (by decide) (Nat.le_of_ble_eq_true rfl) ?_
  intro p e s m below meth c A ls hx hb hr hml hlocks hmn hown htt hN hA hP hK hD hS hl
  have hown : s.vm.findClass "MacroMillModel" = some m.cls := hown
  have hl : lv_has ls 2 [(0, .ref (ad 0))] := hl
  refine lv_aload_n hx hb d_Mod_use_0 rfl (lv_at hl 0 rfl) ?_
  refine S_getI (h := shM) (C := "MacroMillModel") (T := F_Mod) hx hb htt in_Mod hown hK hP 0 1 rfl rfl rfl (by decide) (htt _ k_2237) (fun _ h9 => h9) d_Mod_use_1 ?_
  refine lv_istore_n (lv' := [(1, .int (S.1 0 1)), (0, .ref (ad 0))]) hx hb d_Mod_use_4 rfl hl (by decide) rfl (fun ls hl => ?_)
  refine lv_aload_n hx hb d_Mod_use_5 rfl (lv_at hl 1 rfl) ?_
  refine lv_iconst (v := 0) hx hb d_Mod_use_6 (by decide) ?_
  refine S_put (h := shM) (C := "MacroMillModel") (T := F_Mod) (v := 0) hx hb htt in_Mod t_Mod t_Mod_ok n_Mod hown hK hP hD hS 0 1 rfl rfl rfl (by decide) (htt _ k_2237) (fun _ h9 => h9) rfl rfl rfl d_Mod_use_7 (fun H locs hP hD hS => ?_)
  refine lv_aload_n hx hb d_Mod_use_10 rfl (lv_at hl 1 rfl) ?_
  refine lv_iconst (v := 0) hx hb d_Mod_use_11 (by decide) ?_
  refine S_put (h := shM) (C := "MacroMillModel") (T := F_Mod) (v := 0) hx hb htt in_Mod t_Mod t_Mod_ok n_Mod hown hK hP hD hS 0 2 rfl rfl rfl (by decide) (htt _ k_2238) (fun _ h9 => h9) rfl rfl rfl d_Mod_use_12 (fun H locs hP hD hS => ?_)
  refine lv_iload_n hx hb d_Mod_use_15 rfl (lv_at hl 0 rfl) ?_
  exact fin_i (g := g) (ws := Sw shM g ad (putI (putI S 0 1 0) 0 2 0)) (v := S.1 0 1) hx hb hr hlocks (by decide +kernel) (by decide +kernel) hP hD hS ⟨_, rfl, rfl, rfl⟩ d_Mod_use_16
abbrev rm_m_lay : Room := { frames := 0, cells := 0, slots := 0, locals := 0 }
set_option maxHeartbeats 4000000 in
set_option maxRecDepth 100000 in
theorem m_lay (l : Launch) (g : gG) (sz : Nat) (ad : Nat → Nat) (S : sS) (n0 : Nat) (v0 : Int32) (hs : S.1 0 1 = nI n0) (hn : n0 + 4 ≤ 16384) : Cv l y_Mod_feedInt b_Mod_feedInt 3 rm_m_lay g [.ref (ad 0), .int v0] (Sw shM g ad S) sz (fun w => ∃ S' : sS, w = Sw shM g ad S' ∧ S' = layF 0 S n0 v0) := by
  refine startV (by decide) (Nat.le_of_ble_eq_true rfl) ?_
  intro p e s m below meth c A ls hx hb hr hml hlocks hmn hown htt hN hA hP hK hD hS hl
  have hown : s.vm.findClass "MacroMillModel" = some m.cls := hown
  have hl : lv_has ls 3 [(0, .ref (ad 0)), (1, .int v0)] := hl
  refine lv_bipush (v := 24) hx hb d_Mod_feedInt_0 (by decide) ?_
  refine lv_istore_n (lv' := [(2, .int 24), (0, .ref (ad 0)), (1, .int v0)]) hx hb d_Mod_feedInt_2 rfl hl (by decide) rfl (fun ls hl => ?_)
  refine lv_iload_n hx hb d_Mod_feedInt_3 rfl (lv_at hl 0 rfl) ?_
  refine lv_if_lt (tgt := 36) hx hb d_Mod_feedInt_4 (by decide) (fun h9 => absurd h9 (by decide)) (fun _ => ?_)
  refine lv_aload_n hx hb d_Mod_feedInt_7 rfl (lv_at hl 1 rfl) ?_
  refine S_getR (h := shM) (C := "MacroMillModel") (T := F_Mod) hx hb htt in_Mod hown hK hP 0 0 rfl 1 rfl rfl (by decide) (htt _ k_2236) (fun _ h9 => h9) d_Mod_feedInt_8 ?_
  refine lv_aload_n hx hb d_Mod_feedInt_11 rfl (lv_at hl 1 rfl) ?_
  refine S_getI (h := shM) (C := "MacroMillModel") (T := F_Mod) hx hb htt in_Mod hown hK hP 0 1 rfl rfl rfl (by decide) (htt _ k_2237) (fun _ h9 => h9) d_Mod_feedInt_12 ?_
  refine toI (y := nI n0) hs ?_
  refine lv_iload_n hx hb d_Mod_feedInt_15 rfl (lv_at hl 2 rfl) ?_
  refine lv_iload_n hx hb d_Mod_feedInt_16 rfl (lv_at hl 0 rfl) ?_
  refine lv_ishr hx hb d_Mod_feedInt_17 ?_
  show W _ _ _ _ _ _ _ _ _ _ _ _ _ _ _ (F0 _ 18 _ _)
  refine lv_i2b (v := (v0 >>> (24 &&& 31)).toInt8.toInt32) hx hb d_Mod_feedInt_18 rfl ?_
  refine S_bast (h := shM) (i := nI n0) (v := (v0 >>> (24 &&& 31)).toInt8.toInt32) hx hb hK hP hD hS 0 rfl (vp_in_nI (by omega) (by decide)) d_Mod_feedInt_19 (fun H locs hP hD hS => ?_)
  refine lv_aload_n hx hb d_Mod_feedInt_20 rfl (lv_at hl 1 rfl) ?_
  refine lv_dup hx hb d_Mod_feedInt_21 rfl ?_
  refine S_getI (h := shM) (C := "MacroMillModel") (T := F_Mod) hx hb htt in_Mod hown hK hP 0 1 rfl rfl rfl (by decide) (htt _ k_2237) (fun _ h9 => h9) d_Mod_feedInt_22 ?_
  refine toI (y := nI n0) hs ?_
  refine lv_iconst (v := 1) hx hb d_Mod_feedInt_25 (by decide) ?_
  refine lv_iadd hx hb d_Mod_feedInt_26 ?_
  refine toI (y := nI (n0 + 1)) (nI_1 n0) ?_
  refine S_put (h := shM) (C := "MacroMillModel") (T := F_Mod) (v := nI (n0 + 1)) hx hb htt in_Mod t_Mod t_Mod_ok n_Mod hown hK hP hD hS 0 1 rfl rfl rfl (by decide) (htt _ k_2237) (fun _ h9 => h9) rfl rfl rfl d_Mod_feedInt_27 (fun H locs hP hD hS => ?_)
  refine lv_iinc (k := 0) (v := 16) (lv' := [(2, .int 16), (0, .ref (ad 0)), (1, .int v0)]) hx hb d_Mod_feedInt_30 hl rfl (by decide) (by decide) rfl (fun ls hl => ?_)
  refine lv_goto (tgt := 3) hx hb d_Mod_feedInt_33 (by decide) ?_
  refine lv_iload_n hx hb d_Mod_feedInt_3 rfl (lv_at hl 0 rfl) ?_
  refine lv_if_lt (tgt := 36) hx hb d_Mod_feedInt_4 (by decide) (fun h9 => absurd h9 (by decide)) (fun _ => ?_)
  show W _ _ _ _ _ _ _ _ _ _ _ _ _ _ _ (F0 _ 7 _ _)
  refine lv_aload_n hx hb d_Mod_feedInt_7 rfl (lv_at hl 1 rfl) ?_
  refine S_getR (h := shM) (C := "MacroMillModel") (T := F_Mod) hx hb htt in_Mod hown hK hP 0 0 rfl 1 rfl rfl (by decide) (htt _ k_2236) (fun _ h9 => h9) d_Mod_feedInt_8 ?_
  refine lv_aload_n hx hb d_Mod_feedInt_11 rfl (lv_at hl 1 rfl) ?_
  refine S_getI (h := shM) (C := "MacroMillModel") (T := F_Mod) hx hb htt in_Mod hown hK hP 0 1 rfl rfl rfl (by decide) (htt _ k_2237) (fun _ h9 => h9) d_Mod_feedInt_12 ?_
  refine toI (y := nI (n0 + 1)) rfl ?_
  refine lv_iload_n hx hb d_Mod_feedInt_15 rfl (lv_at hl 2 rfl) ?_
  refine lv_iload_n hx hb d_Mod_feedInt_16 rfl (lv_at hl 0 rfl) ?_
  refine lv_ishr hx hb d_Mod_feedInt_17 ?_
  refine lv_i2b (v := (v0 >>> (16 &&& 31)).toInt8.toInt32) hx hb d_Mod_feedInt_18 rfl ?_
  refine S_bast (h := shM) (i := nI (n0 + 1)) (v := (v0 >>> (16 &&& 31)).toInt8.toInt32) hx hb hK hP hD hS 0 rfl (vp_in_nI (by omega) (by decide)) d_Mod_feedInt_19 (fun H locs hP hD hS => ?_)
  refine lv_aload_n hx hb d_Mod_feedInt_20 rfl (lv_at hl 1 rfl) ?_
  refine lv_dup hx hb d_Mod_feedInt_21 rfl ?_
  refine S_getI (h := shM) (C := "MacroMillModel") (T := F_Mod) hx hb htt in_Mod hown hK hP 0 1 rfl rfl rfl (by decide) (htt _ k_2237) (fun _ h9 => h9) d_Mod_feedInt_22 ?_
  refine toI (y := nI (n0 + 1)) rfl ?_
  show W _ _ _ _ _ _ _ _ _ _ _ _ _ _ _ (F0 _ 25 _ _)
  refine lv_iconst (v := 1) hx hb d_Mod_feedInt_25 (by decide) ?_
  refine lv_iadd hx hb d_Mod_feedInt_26 ?_
  refine toI (y := nI (n0 + 2)) (nI_1 (n0 + 1)) ?_
  refine S_put (h := shM) (C := "MacroMillModel") (T := F_Mod) (v := nI (n0 + 2)) hx hb htt in_Mod t_Mod t_Mod_ok n_Mod hown hK hP hD hS 0 1 rfl rfl rfl (by decide) (htt _ k_2237) (fun _ h9 => h9) rfl rfl rfl d_Mod_feedInt_27 (fun H locs hP hD hS => ?_)
  refine lv_iinc (k := 0) (v := 8) (lv' := [(2, .int 8), (0, .ref (ad 0)), (1, .int v0)]) hx hb d_Mod_feedInt_30 hl rfl (by decide) (by decide) rfl (fun ls hl => ?_)
  refine lv_goto (tgt := 3) hx hb d_Mod_feedInt_33 (by decide) ?_
  refine lv_iload_n hx hb d_Mod_feedInt_3 rfl (lv_at hl 0 rfl) ?_
  refine lv_if_lt (tgt := 36) hx hb d_Mod_feedInt_4 (by decide) (fun h9 => absurd h9 (by decide)) (fun _ => ?_)
  refine lv_aload_n hx hb d_Mod_feedInt_7 rfl (lv_at hl 1 rfl) ?_
  refine S_getR (h := shM) (C := "MacroMillModel") (T := F_Mod) hx hb htt in_Mod hown hK hP 0 0 rfl 1 rfl rfl (by decide) (htt _ k_2236) (fun _ h9 => h9) d_Mod_feedInt_8 ?_
  refine lv_aload_n hx hb d_Mod_feedInt_11 rfl (lv_at hl 1 rfl) ?_
  refine S_getI (h := shM) (C := "MacroMillModel") (T := F_Mod) hx hb htt in_Mod hown hK hP 0 1 rfl rfl rfl (by decide) (htt _ k_2237) (fun _ h9 => h9) d_Mod_feedInt_12 ?_
  refine toI (y := nI (n0 + 2)) rfl ?_
  refine lv_iload_n hx hb d_Mod_feedInt_15 rfl (lv_at hl 2 rfl) ?_
  show W _ _ _ _ _ _ _ _ _ _ _ _ _ _ _ (F0 _ 16 _ _)
  refine lv_iload_n hx hb d_Mod_feedInt_16 rfl (lv_at hl 0 rfl) ?_
  refine lv_ishr hx hb d_Mod_feedInt_17 ?_
  refine lv_i2b (v := (v0 >>> (8 &&& 31)).toInt8.toInt32) hx hb d_Mod_feedInt_18 rfl ?_
  refine S_bast (h := shM) (i := nI (n0 + 2)) (v := (v0 >>> (8 &&& 31)).toInt8.toInt32) hx hb hK hP hD hS 0 rfl (vp_in_nI (by omega) (by decide)) d_Mod_feedInt_19 (fun H locs hP hD hS => ?_)
  refine lv_aload_n hx hb d_Mod_feedInt_20 rfl (lv_at hl 1 rfl) ?_
  refine lv_dup hx hb d_Mod_feedInt_21 rfl ?_
  refine S_getI (h := shM) (C := "MacroMillModel") (T := F_Mod) hx hb htt in_Mod hown hK hP 0 1 rfl rfl rfl (by decide) (htt _ k_2237) (fun _ h9 => h9) d_Mod_feedInt_22 ?_
  refine toI (y := nI (n0 + 2)) rfl ?_
  refine lv_iconst (v := 1) hx hb d_Mod_feedInt_25 (by decide) ?_
  refine lv_iadd hx hb d_Mod_feedInt_26 ?_
  refine toI (y := nI (n0 + 3)) (nI_1 (n0 + 2)) ?_
  refine S_put (h := shM) (C := "MacroMillModel") (T := F_Mod) (v := nI (n0 + 3)) hx hb htt in_Mod t_Mod t_Mod_ok n_Mod hown hK hP hD hS 0 1 rfl rfl rfl (by decide) (htt _ k_2237) (fun _ h9 => h9) rfl rfl rfl d_Mod_feedInt_27 (fun H locs hP hD hS => ?_)
  refine lv_iinc (k := 0) (v := 0) (lv' := [(2, .int 0), (0, .ref (ad 0)), (1, .int v0)]) hx hb d_Mod_feedInt_30 hl rfl (by decide) (by decide) rfl (fun ls hl => ?_)
  refine lv_goto (tgt := 3) hx hb d_Mod_feedInt_33 (by decide) ?_
  show W _ _ _ _ _ _ _ _ _ _ _ _ _ _ _ (F0 _ 3 _ _)
  refine lv_iload_n hx hb d_Mod_feedInt_3 rfl (lv_at hl 0 rfl) ?_
  refine lv_if_lt (tgt := 36) hx hb d_Mod_feedInt_4 (by decide) (fun h9 => absurd h9 (by decide)) (fun _ => ?_)
  refine lv_aload_n hx hb d_Mod_feedInt_7 rfl (lv_at hl 1 rfl) ?_
  refine S_getR (h := shM) (C := "MacroMillModel") (T := F_Mod) hx hb htt in_Mod hown hK hP 0 0 rfl 1 rfl rfl (by decide) (htt _ k_2236) (fun _ h9 => h9) d_Mod_feedInt_8 ?_
  refine lv_aload_n hx hb d_Mod_feedInt_11 rfl (lv_at hl 1 rfl) ?_
  refine S_getI (h := shM) (C := "MacroMillModel") (T := F_Mod) hx hb htt in_Mod hown hK hP 0 1 rfl rfl rfl (by decide) (htt _ k_2237) (fun _ h9 => h9) d_Mod_feedInt_12 ?_
  refine toI (y := nI (n0 + 3)) rfl ?_
  refine lv_iload_n hx hb d_Mod_feedInt_15 rfl (lv_at hl 2 rfl) ?_
  refine lv_iload_n hx hb d_Mod_feedInt_16 rfl (lv_at hl 0 rfl) ?_
  refine lv_ishr hx hb d_Mod_feedInt_17 ?_
  refine lv_i2b (v := (v0 >>> (0 &&& 31)).toInt8.toInt32) hx hb d_Mod_feedInt_18 rfl ?_
  refine S_bast (h := shM) (i := nI (n0 + 3)) (v := (v0 >>> (0 &&& 31)).toInt8.toInt32) hx hb hK hP hD hS 0 rfl (vp_in_nI (by omega) (by decide)) d_Mod_feedInt_19 (fun H locs hP hD hS => ?_)
  refine lv_aload_n hx hb d_Mod_feedInt_20 rfl (lv_at hl 1 rfl) ?_
  show W _ _ _ _ _ _ _ _ _ _ _ _ _ _ _ (F0 _ 21 _ _)
  refine lv_dup hx hb d_Mod_feedInt_21 rfl ?_
  refine S_getI (h := shM) (C := "MacroMillModel") (T := F_Mod) hx hb htt in_Mod hown hK hP 0 1 rfl rfl rfl (by decide) (htt _ k_2237) (fun _ h9 => h9) d_Mod_feedInt_22 ?_
  refine toI (y := nI (n0 + 3)) rfl ?_
  refine lv_iconst (v := 1) hx hb d_Mod_feedInt_25 (by decide) ?_
  refine lv_iadd hx hb d_Mod_feedInt_26 ?_
  refine toI (y := nI (n0 + 4)) (nI_1 (n0 + 3)) ?_
  refine S_put (h := shM) (C := "MacroMillModel") (T := F_Mod) (v := nI (n0 + 4)) hx hb htt in_Mod t_Mod t_Mod_ok n_Mod hown hK hP hD hS 0 1 rfl rfl rfl (by decide) (htt _ k_2237) (fun _ h9 => h9) rfl rfl rfl d_Mod_feedInt_27 (fun H locs hP hD hS => ?_)
  refine lv_iinc (k := 0) (v := (-8)) (lv' := [(2, .int (-8)), (0, .ref (ad 0)), (1, .int v0)]) hx hb d_Mod_feedInt_30 hl rfl (by decide) (by decide) rfl (fun ls hl => ?_)
  refine lv_goto (tgt := 3) hx hb d_Mod_feedInt_33 (by decide) ?_
  refine lv_iload_n hx hb d_Mod_feedInt_3 rfl (lv_at hl 0 rfl) ?_
  refine lv_if_lt (tgt := 36) hx hb d_Mod_feedInt_4 (by decide) (fun _ => ?_) (fun h9 => absurd (by decide) h9)
  exact fin_v (g := g) (ws := Sw shM g ad (putI (putA (putI (putA (putI (putA (putI (putA S 0 (nI n0 : Int32).toNatClampNeg (vp_nar .byte ((v0 >>> (24 &&& 31)).toInt8.toInt32))) 0 1 (nI (n0 + 1))) 0 (nI (n0 + 1) : Int32).toNatClampNeg (vp_nar .byte ((v0 >>> (16 &&& 31)).toInt8.toInt32))) 0 1 (nI (n0 + 2))) 0 (nI (n0 + 2) : Int32).toNatClampNeg (vp_nar .byte ((v0 >>> (8 &&& 31)).toInt8.toInt32))) 0 1 (nI (n0 + 3))) 0 (nI (n0 + 3) : Int32).toNatClampNeg (vp_nar .byte ((v0 >>> (0 &&& 31)).toInt8.toInt32))) 0 1 (nI (n0 + 4)))) hx hb hr hlocks (by decide +kernel) (by decide +kernel) hP hD hS ⟨_, rfl, by unfold layF; rw [nI_clamp (by omega : n0 < 2 ^ 31), nI_clamp (by omega : n0 + 1 < 2 ^ 31), nI_clamp (by omega : n0 + 2 < 2 ^ 31), nI_clamp (by omega : n0 + 3 < 2 ^ 31)]⟩ d_Mod_feedInt_36
abbrev rm_m_feed : Room := { frames := 1, cells := 0, slots := 0, locals := 22 }
set_option maxHeartbeats 4000000 in
set_option maxRecDepth 100000 in
theorem m_feed (l : Launch) (g : gG) (sz : Nat) (ad : Nat → Nat) (S : sS) (n0 : Nat) (v1 : Int32) (v2 : Int32) (v3 : Int32) (v4 : Int32) (v5 : Int32) (hs : S.1 0 1 = nI n0) (hn : n0 + 20 ≤ 16384) : Ci l y_Mod_feed b_Mod_feed 6 rm_m_feed g [.ref (ad 0), .int v1, .int v2, .int v3, .int v4, .int v5] (Sw shM g ad S) sz (fun r w => ∃ S' : sS, w = Sw shM g ad S' ∧ r = nI (((((n0 + 4) + 4) + 4) + 4) + 4) ∧ S' = (putI (layF 0 (layF 0 (layF 0 (layF 0 (layF 0 S n0 (v1)) (n0 + 4) (v2)) ((n0 + 4) + 4) (v3)) (((n0 + 4) + 4) + 4) (v4)) ((((n0 + 4) + 4) + 4) + 4) (v5)) 0 2 1)) := by
  refine startI (by decide) (Nat.le_of_ble_eq_true rfl) ?_
  intro p e s m below meth c A ls hx hb hr hml hlocks hmn hown htt hN hA hP hK hD hS hl
  have hown : s.vm.findClass "MacroMillModel" = some m.cls := hown
  have hl : lv_has ls 6 [(0, .ref (ad 0)), (1, .int v1), (2, .int v2), (3, .int v3), (4, .int v4), (5, .int v5)] := hl
  refine lv_aload_n hx hb d_Mod_feed_0 rfl (lv_at hl 0 rfl) ?_
  refine S_getI (h := shM) (C := "MacroMillModel") (T := F_Mod) hx hb htt in_Mod hown hK hP 0 1 rfl rfl rfl (by decide) (htt _ k_2237) (fun _ h9 => h9) d_Mod_feed_1 ?_
  refine toI (y := nI n0) hs ?_
  refine lv_bipush (v := 20) hx hb d_Mod_feed_4 (by decide) ?_
  refine lv_iadd hx hb d_Mod_feed_6 ?_
  refine toI (y := nI (n0 + 20)) (nI_add n0 20) ?_
  refine lv_sipush (v := 16384) hx hb d_Mod_feed_7 (by decide) ?_
  refine lv_icmp_le (tgt := 16) hx hb d_Mod_feed_10 (by decide) (fun _ => ?_) (fun h9 => absurd (nI_le (b := 16384) hn (by decide)) h9)
  refine lv_aload_n hx hb d_Mod_feed_16 rfl (lv_at hl 0 rfl) ?_
  refine lv_iload_n hx hb d_Mod_feed_17 rfl (lv_at hl 1 rfl) ?_
  refine go_vS (As := [.ref (ad 0), .int v1]) (g := g) (A := A) (h := shM) hP hK hD hS hA hN (fun hp => va_runV (As := [.int v1]) (rest := []) ⟨hx, hb, hml, hown, htt⟩ (m_lay l g _ ad S n0 (v1) hs (by omega)) ⟨(cb_L htt k_2676 k_276 k_2673 hd_Mod_feedInt ⟨(by decide +kernel), (by decide +kernel)⟩), htt _ k_2675, htt _ k_126⟩ ⟨hp.1, S_recv hK hP 0 rfl rfl, hp.2⟩ rfl rfl hl.1 rfl (lv_room (Nat.le_of_ble_eq_true rfl)) d_Mod_feed_18 ⟨(by decide +kernel), (by decide +kernel)⟩) (fun Sn H locs hw9 hP hD hS => ?_)
  obtain rfl := hw9
  refine W.widen (k := 0) (n := 0) (by decide +kernel) (by decide +kernel) ?_
  refine lv_aload_n hx hb d_Mod_feed_21 rfl (lv_at hl 0 rfl) ?_
  refine lv_iload_n hx hb d_Mod_feed_22 rfl (lv_at hl 2 rfl) ?_
  show W _ _ _ _ _ _ _ _ _ _ _ _ _ _ _ (F0 _ 23 _ _)
  refine go_vS (As := [.ref (ad 0), .int v2]) (g := g) (A := A) (h := shM) hP hK hD hS hA hN (fun hp => va_runV (As := [.int v2]) (rest := []) ⟨hx, hb, hml, hown, htt⟩ (m_lay l g _ ad (layF 0 S n0 (v1)) (n0 + 4) (v2) rfl (by omega)) ⟨(cb_L htt k_2676 k_276 k_2673 hd_Mod_feedInt ⟨(by decide +kernel), (by decide +kernel)⟩), htt _ k_2675, htt _ k_126⟩ ⟨hp.1, S_recv hK hP 0 rfl rfl, hp.2⟩ rfl rfl hl.1 rfl (lv_room (Nat.le_of_ble_eq_true rfl)) d_Mod_feed_23 ⟨(by decide +kernel), (by decide +kernel)⟩) (fun Sn_2 H locs hw9 hP hD hS => ?_)
  obtain rfl := hw9
  refine W.widen (k := 0) (n := 0) (by decide +kernel) (by decide +kernel) ?_
  refine lv_aload_n hx hb d_Mod_feed_26 rfl (lv_at hl 0 rfl) ?_
  refine lv_iload_n hx hb d_Mod_feed_27 rfl (lv_at hl 3 rfl) ?_
  refine go_vS (As := [.ref (ad 0), .int v3]) (g := g) (A := A) (h := shM) hP hK hD hS hA hN (fun hp => va_runV (As := [.int v3]) (rest := []) ⟨hx, hb, hml, hown, htt⟩ (m_lay l g _ ad (layF 0 (layF 0 S n0 (v1)) (n0 + 4) (v2)) ((n0 + 4) + 4) (v3) rfl (by omega)) ⟨(cb_L htt k_2676 k_276 k_2673 hd_Mod_feedInt ⟨(by decide +kernel), (by decide +kernel)⟩), htt _ k_2675, htt _ k_126⟩ ⟨hp.1, S_recv hK hP 0 rfl rfl, hp.2⟩ rfl rfl hl.1 rfl (lv_room (Nat.le_of_ble_eq_true rfl)) d_Mod_feed_28 ⟨(by decide +kernel), (by decide +kernel)⟩) (fun Sn_3 H locs hw9 hP hD hS => ?_)
  obtain rfl := hw9
  refine W.widen (k := 0) (n := 0) (by decide +kernel) (by decide +kernel) ?_
  refine lv_aload_n hx hb d_Mod_feed_31 rfl (lv_at hl 0 rfl) ?_
  refine lv_iload hx hb d_Mod_feed_32 (lv_at hl 4 rfl) ?_
  refine go_vS (As := [.ref (ad 0), .int v4]) (g := g) (A := A) (h := shM) hP hK hD hS hA hN (fun hp => va_runV (As := [.int v4]) (rest := []) ⟨hx, hb, hml, hown, htt⟩ (m_lay l g _ ad (layF 0 (layF 0 (layF 0 S n0 (v1)) (n0 + 4) (v2)) ((n0 + 4) + 4) (v3)) (((n0 + 4) + 4) + 4) (v4) rfl (by omega)) ⟨(cb_L htt k_2676 k_276 k_2673 hd_Mod_feedInt ⟨(by decide +kernel), (by decide +kernel)⟩), htt _ k_2675, htt _ k_126⟩ ⟨hp.1, S_recv hK hP 0 rfl rfl, hp.2⟩ rfl rfl hl.1 rfl (lv_room (Nat.le_of_ble_eq_true rfl)) d_Mod_feed_34 ⟨(by decide +kernel), (by decide +kernel)⟩) (fun Sn_4 H locs hw9 hP hD hS => ?_)
  obtain rfl := hw9
  refine W.widen (k := 0) (n := 0) (by decide +kernel) (by decide +kernel) ?_
  refine lv_aload_n hx hb d_Mod_feed_37 rfl (lv_at hl 0 rfl) ?_
  refine lv_iload hx hb d_Mod_feed_38 (lv_at hl 5 rfl) ?_
  refine go_vS (As := [.ref (ad 0), .int v5]) (g := g) (A := A) (h := shM) hP hK hD hS hA hN (fun hp => va_runV (As := [.int v5]) (rest := []) ⟨hx, hb, hml, hown, htt⟩ (m_lay l g _ ad (layF 0 (layF 0 (layF 0 (layF 0 S n0 (v1)) (n0 + 4) (v2)) ((n0 + 4) + 4) (v3)) (((n0 + 4) + 4) + 4) (v4)) ((((n0 + 4) + 4) + 4) + 4) (v5) rfl (by omega)) ⟨(cb_L htt k_2676 k_276 k_2673 hd_Mod_feedInt ⟨(by decide +kernel), (by decide +kernel)⟩), htt _ k_2675, htt _ k_126⟩ ⟨hp.1, S_recv hK hP 0 rfl rfl, hp.2⟩ rfl rfl hl.1 rfl (lv_room (Nat.le_of_ble_eq_true rfl)) d_Mod_feed_40 ⟨(by decide +kernel), (by decide +kernel)⟩) (fun Sn_5 H locs hw9 hP hD hS => ?_)
  obtain rfl := hw9
  refine W.widen (k := 0) (n := 0) (by decide +kernel) (by decide +kernel) ?_
  refine lv_aload_n hx hb d_Mod_feed_43 rfl (lv_at hl 0 rfl) ?_
  refine lv_iconst (v := 1) hx hb d_Mod_feed_44 (by decide) ?_
  show W _ _ _ _ _ _ _ _ _ _ _ _ _ _ _ (F0 _ 45 _ _)
  refine S_put (h := shM) (C := "MacroMillModel") (T := F_Mod) (v := 1) hx hb htt in_Mod t_Mod t_Mod_ok n_Mod hown hK hP hD hS 0 2 rfl rfl rfl (by decide) (htt _ k_2238) (fun _ h9 => h9) rfl rfl rfl d_Mod_feed_45 (fun H locs hP hD hS => ?_)
  refine lv_aload_n hx hb d_Mod_feed_48 rfl (lv_at hl 0 rfl) ?_
  refine S_getI (h := shM) (C := "MacroMillModel") (T := F_Mod) hx hb htt in_Mod hown hK hP 0 1 rfl rfl rfl (by decide) (htt _ k_2237) (fun _ h9 => h9) d_Mod_feed_49 ?_
  refine toI (y := nI (((((n0 + 4) + 4) + 4) + 4) + 4)) rfl ?_
  exact fin_i (g := g) (ws := Sw shM g ad (putI (layF 0 (layF 0 (layF 0 (layF 0 (layF 0 S n0 (v1)) (n0 + 4) (v2)) ((n0 + 4) + 4) (v3)) (((n0 + 4) + 4) + 4) (v4)) ((((n0 + 4) + 4) + 4) + 4) (v5)) 0 2 1)) (v := nI (((((n0 + 4) + 4) + 4) + 4) + 4)) hx hb hr hlocks (by decide +kernel) (by decide +kernel) hP hD hS ⟨_, rfl, rfl, rfl⟩ d_Mod_feed_52
abbrev rm_m_feedFull : Room := { frames := 0, cells := 0, slots := 0, locals := 0 }
set_option maxHeartbeats 4000000 in
set_option maxRecDepth 100000 in
theorem m_feedFull (l : Launch) (g : gG) (sz : Nat) (ad : Nat → Nat) (S : sS) (n0 : Nat) (v1 : Int32) (v2 : Int32) (v3 : Int32) (v4 : Int32) (v5 : Int32) (hs : S.1 0 1 = nI n0) (hn : 16384 < n0 + 20) (hm : n0 ≤ 16384) : Ci l y_Mod_feed b_Mod_feed 6 rm_m_feedFull g [.ref (ad 0), .int v1, .int v2, .int v3, .int v4, .int v5] (Sw shM g ad S) sz (fun r w => ∃ S' : sS, w = Sw shM g ad S' ∧ r = (-4) ∧ S' = S) := by
  refine startI (by decide) (Nat.le_of_ble_eq_true rfl) ?_
  intro p e s m below meth c A ls hx hb hr hml hlocks hmn hown htt hN hA hP hK hD hS hl
  have hown : s.vm.findClass "MacroMillModel" = some m.cls := hown
  have hl : lv_has ls 6 [(0, .ref (ad 0)), (1, .int v1), (2, .int v2), (3, .int v3), (4, .int v4), (5, .int v5)] := hl
  refine lv_aload_n hx hb d_Mod_feed_0 rfl (lv_at hl 0 rfl) ?_
  refine S_getI (h := shM) (C := "MacroMillModel") (T := F_Mod) hx hb htt in_Mod hown hK hP 0 1 rfl rfl rfl (by decide) (htt _ k_2237) (fun _ h9 => h9) d_Mod_feed_1 ?_
  refine toI (y := nI n0) hs ?_
  refine lv_bipush (v := 20) hx hb d_Mod_feed_4 (by decide) ?_
  refine lv_iadd hx hb d_Mod_feed_6 ?_
  refine toI (y := nI (n0 + 20)) (nI_add n0 20) ?_
  refine lv_sipush (v := 16384) hx hb d_Mod_feed_7 (by decide) ?_
  refine lv_icmp_le (tgt := 16) hx hb d_Mod_feed_10 (by decide) (fun h9 => absurd h9 (nI_ge (a := 16384) hn (by omega))) (fun _ => ?_)
  refine lv_bipush (v := (-4)) hx hb d_Mod_feed_13 (by decide) ?_
  exact fin_i (g := g) (ws := Sw shM g ad S) (v := (-4)) hx hb hr hlocks (by decide +kernel) (by decide +kernel) hP hD hS ⟨_, rfl, rfl, rfl⟩ d_Mod_feed_15
abbrev rm_m_clear : Room := { frames := 0, cells := 0, slots := 0, locals := 0 }
set_option maxHeartbeats 4000000 in
set_option maxRecDepth 100000 in
theorem m_clear (l : Launch) (g : gG) (sz : Nat) (ad : Nat → Nat) (S : sS) : Ci l y_Mod_clear b_Mod_clear 2 rm_m_clear g [.ref (ad 0)] (Sw shM g ad S) sz (fun r w => ∃ S' : sS, w = Sw shM g ad S' ∧ r = S.1 0 3 ∧ S' = (putI (putI S 0 3 0) 0 9 0)) := by
  refine startI (by decide) (Nat.le_of_ble_eq_true rfl) ?_
  intro p e s m below meth c A ls hx hb hr hml hlocks hmn hown htt hN hA hP hK hD hS hl
  have hown : s.vm.findClass "MacroMillModel" = some m.cls := hown
  have hl : lv_has ls 2 [(0, .ref (ad 0))] := hl
  refine lv_aload_n hx hb d_Mod_clear_0 rfl (lv_at hl 0 rfl) ?_
  refine S_getI (h := shM) (C := "MacroMillModel") (T := F_Mod) hx hb htt in_Mod hown hK hP 0 3 rfl rfl rfl (by decide) (htt _ k_2239) (fun _ h9 => h9) d_Mod_clear_1 ?_
  refine lv_istore_n (lv' := [(1, .int (S.1 0 3)), (0, .ref (ad 0))]) hx hb d_Mod_clear_4 rfl hl (by decide) rfl (fun ls hl => ?_)
  refine lv_aload_n hx hb d_Mod_clear_5 rfl (lv_at hl 1 rfl) ?_
  refine lv_iconst (v := 0) hx hb d_Mod_clear_6 (by decide) ?_
  refine S_put (h := shM) (C := "MacroMillModel") (T := F_Mod) (v := 0) hx hb htt in_Mod t_Mod t_Mod_ok n_Mod hown hK hP hD hS 0 3 rfl rfl rfl (by decide) (htt _ k_2239) (fun _ h9 => h9) rfl rfl rfl d_Mod_clear_7 (fun H locs hP hD hS => ?_)
  refine lv_aload_n hx hb d_Mod_clear_10 rfl (lv_at hl 1 rfl) ?_
  refine lv_iconst (v := 0) hx hb d_Mod_clear_11 (by decide) ?_
  refine S_put (h := shM) (C := "MacroMillModel") (T := F_Mod) (v := 0) hx hb htt in_Mod t_Mod t_Mod_ok n_Mod hown hK hP hD hS 0 9 rfl rfl rfl (by decide) (htt _ k_2245) (fun _ h9 => h9) rfl rfl rfl d_Mod_clear_12 (fun H locs hP hD hS => ?_)
  refine lv_iload_n hx hb d_Mod_clear_15 rfl (lv_at hl 0 rfl) ?_
  exact fin_i (g := g) (ws := Sw shM g ad (putI (putI S 0 3 0) 0 9 0)) (v := S.1 0 3) hx hb hr hlocks (by decide +kernel) (by decide +kernel) hP hD hS ⟨_, rfl, rfl, rfl⟩ d_Mod_clear_16
abbrev rm_m_size : Room := { frames := 0, cells := 0, slots := 0, locals := 0 }
set_option maxHeartbeats 4000000 in
set_option maxRecDepth 100000 in
theorem m_size (l : Launch) (g : gG) (sz : Nat) (ad : Nat → Nat) (S : sS) : Ci l y_Mod_size b_Mod_size 1 rm_m_size g [.ref (ad 0)] (Sw shM g ad S) sz (fun r w => ∃ S' : sS, w = Sw shM g ad S' ∧ r = S.1 0 18 ∧ S' = S) := by
  refine startI (by decide) (Nat.le_of_ble_eq_true rfl) ?_
  intro p e s m below meth c A ls hx hb hr hml hlocks hmn hown htt hN hA hP hK hD hS hl
  have hown : s.vm.findClass "MacroMillModel" = some m.cls := hown
  have hl : lv_has ls 1 [(0, .ref (ad 0))] := hl
  refine lv_aload_n hx hb d_Mod_size_0 rfl (lv_at hl 0 rfl) ?_
  refine S_getI (h := shM) (C := "MacroMillModel") (T := F_Mod) hx hb htt in_Mod hown hK hP 0 18 rfl rfl rfl (by decide) (htt _ k_2254) (fun _ h9 => h9) d_Mod_size_1 ?_
  exact fin_i (g := g) (ws := Sw shM g ad S) (v := S.1 0 18) hx hb hr hlocks (by decide +kernel) (by decide +kernel) hP hD hS ⟨_, rfl, rfl, rfl⟩ d_Mod_size_4
abbrev rm_m_astray : Room := { frames := 0, cells := 0, slots := 0, locals := 0 }
set_option maxHeartbeats 4000000 in
set_option maxRecDepth 100000 in
theorem m_astray (l : Launch) (g : gG) (sz : Nat) (ad : Nat → Nat) (S : sS) : Ci l y_Mod_astray b_Mod_astray 1 rm_m_astray g [.ref (ad 0)] (Sw shM g ad S) sz (fun r w => ∃ S' : sS, w = Sw shM g ad S' ∧ r = S.1 0 16 ∧ S' = S) := by
  refine startI (by decide) (Nat.le_of_ble_eq_true rfl) ?_
  intro p e s m below meth c A ls hx hb hr hml hlocks hmn hown htt hN hA hP hK hD hS hl
  have hown : s.vm.findClass "MacroMillModel" = some m.cls := hown
  have hl : lv_has ls 1 [(0, .ref (ad 0))] := hl
  refine lv_aload_n hx hb d_Mod_astray_0 rfl (lv_at hl 0 rfl) ?_
  refine S_getI (h := shM) (C := "MacroMillModel") (T := F_Mod) hx hb htt in_Mod hown hK hP 0 16 rfl rfl rfl (by decide) (htt _ k_2252) (fun _ h9 => h9) d_Mod_astray_1 ?_
  exact fin_i (g := g) (ws := Sw shM g ad S) (v := S.1 0 16) hx hb hr hlocks (by decide +kernel) (by decide +kernel) hP hD hS ⟨_, rfl, rfl, rfl⟩ d_Mod_astray_4
abbrev rm_m_end : Room := { frames := 0, cells := 0, slots := 0, locals := 0 }
set_option maxHeartbeats 4000000 in
set_option maxRecDepth 100000 in
theorem m_end (l : Launch) (g : gG) (sz : Nat) (ad : Nat → Nat) (S : sS) (v1 : Int32) : Ci l y_Mod_end b_Mod_end 2 rm_m_end g [.ref (ad 0), .int v1] (Sw shM g ad S) sz (fun r w => ∃ S' : sS, w = Sw shM g ad S' ∧ (((S.1 0 2 = 0 ∨ v1 < 0 ∨ 20 < v1) ∧ r = (-1) ∧ S' = S) ∨ (¬ S.1 0 2 = 0 ∧ ¬ v1 < 0 ∧ ¬ 20 < v1 ∧ r = S.1 0 1 - 20 + v1 ∧ S' = putI (putI S 0 1 (S.1 0 1 - 20 + v1)) 0 2 0))) := by
  refine startI (by decide) (Nat.le_of_ble_eq_true rfl) ?_
  intro p e s m below meth c A ls hx hb hr hml hlocks hmn hown htt hN hA hP hK hD hS hl
  have hown : s.vm.findClass "MacroMillModel" = some m.cls := hown
  have hl : lv_has ls 2 [(0, .ref (ad 0)), (1, .int v1)] := hl
  refine lv_aload_n hx hb d_Mod_end_0 rfl (lv_at hl 0 rfl) ?_
  refine S_getI (h := shM) (C := "MacroMillModel") (T := F_Mod) hx hb htt in_Mod hown hK hP 0 2 rfl rfl rfl (by decide) (htt _ k_2238) (fun _ h9 => h9) d_Mod_end_1 ?_
  refine lv_if_eq (tgt := 17) hx hb d_Mod_end_4 (by decide) (fun h3 => ?_) (fun h3 => ?_)
  · refine lv_iconst (v := (-1)) hx hb d_Mod_end_17 (by decide) ?_
    exact fin_i (g := g) (ws := Sw shM g ad S) (v := (-1)) hx hb hr hlocks (by decide +kernel) (by decide +kernel) hP hD hS ⟨S, rfl, Or.inl ⟨by first | exact Or.inl h3 | exact Or.inr (Or.inl h1) | exact Or.inr (Or.inr h2), rfl, rfl⟩⟩ d_Mod_end_18
  · refine lv_iload_n hx hb d_Mod_end_7 rfl (lv_at hl 1 rfl) ?_
    refine lv_if_lt (tgt := 17) hx hb d_Mod_end_8 (by decide) (fun h1 => ?_) (fun h1 => ?_)
    · refine lv_iconst (v := (-1)) hx hb d_Mod_end_17 (by decide) ?_
      exact fin_i (g := g) (ws := Sw shM g ad S) (v := (-1)) hx hb hr hlocks (by decide +kernel) (by decide +kernel) hP hD hS ⟨S, rfl, Or.inl ⟨by first | exact Or.inl h3 | exact Or.inr (Or.inl h1) | exact Or.inr (Or.inr h2), rfl, rfl⟩⟩ d_Mod_end_18
    · refine lv_iload_n hx hb d_Mod_end_11 rfl (lv_at hl 1 rfl) ?_
      refine lv_bipush (v := 20) hx hb d_Mod_end_12 (by decide) ?_
      refine lv_icmp_le (tgt := 19) hx hb d_Mod_end_14 (by decide) (fun h2 => ?_) (fun h2 => ?_)
      · have h2 := Int32.not_lt.mpr h2
        refine lv_aload_n hx hb d_Mod_end_19 rfl (lv_at hl 0 rfl) ?_
        refine lv_aload_n hx hb d_Mod_end_20 rfl (lv_at hl 0 rfl) ?_
        refine S_getI (h := shM) (C := "MacroMillModel") (T := F_Mod) hx hb htt in_Mod hown hK hP 0 1 rfl rfl rfl (by decide) (htt _ k_2237) (fun _ h9 => h9) d_Mod_end_21 ?_
        show W _ _ _ _ _ _ _ _ _ _ _ _ _ _ _ (F0 _ 24 _ _)
        refine lv_bipush (v := 20) hx hb d_Mod_end_24 (by decide) ?_
        refine lv_isub hx hb d_Mod_end_26 ?_
        refine lv_iload_n hx hb d_Mod_end_27 rfl (lv_at hl 1 rfl) ?_
        refine lv_iadd hx hb d_Mod_end_28 ?_
        refine S_put (h := shM) (C := "MacroMillModel") (T := F_Mod) (v := ((S.1 0 1) - 20) + v1) hx hb htt in_Mod t_Mod t_Mod_ok n_Mod hown hK hP hD hS 0 1 rfl rfl rfl (by decide) (htt _ k_2237) (fun _ h9 => h9) rfl rfl rfl d_Mod_end_29 (fun H locs hP hD hS => ?_)
        refine lv_aload_n hx hb d_Mod_end_32 rfl (lv_at hl 0 rfl) ?_
        refine lv_iconst (v := 0) hx hb d_Mod_end_33 (by decide) ?_
        refine S_put (h := shM) (C := "MacroMillModel") (T := F_Mod) (v := 0) hx hb htt in_Mod t_Mod t_Mod_ok n_Mod hown hK hP hD hS 0 2 rfl rfl rfl (by decide) (htt _ k_2238) (fun _ h9 => h9) rfl rfl rfl d_Mod_end_34 (fun H locs hP hD hS => ?_)
        refine lv_aload_n hx hb d_Mod_end_37 rfl (lv_at hl 0 rfl) ?_
        refine S_getI (h := shM) (C := "MacroMillModel") (T := F_Mod) hx hb htt in_Mod hown hK hP 0 1 rfl rfl rfl (by decide) (htt _ k_2237) (fun _ h9 => h9) d_Mod_end_38 ?_
        refine toI (y := ((S.1 0 1) - 20) + v1) rfl ?_
        exact fin_i (g := g) (ws := Sw shM g ad (putI (putI S 0 1 (((S.1 0 1) - 20) + v1)) 0 2 0)) (v := ((S.1 0 1) - 20) + v1) hx hb hr hlocks (by decide +kernel) (by decide +kernel) hP hD hS ⟨_, rfl, Or.inr ⟨h3, h1, h2, rfl, rfl⟩⟩ d_Mod_end_41
      · have h2 := Int32.not_le.mp h2
        refine lv_iconst (v := (-1)) hx hb d_Mod_end_17 (by decide) ?_
        exact fin_i (g := g) (ws := Sw shM g ad S) (v := (-1)) hx hb hr hlocks (by decide +kernel) (by decide +kernel) hP hD hS ⟨S, rfl, Or.inl ⟨by first | exact Or.inl h3 | exact Or.inr (Or.inl h1) | exact Or.inr (Or.inr h2), rfl, rfl⟩⟩ d_Mod_end_18
