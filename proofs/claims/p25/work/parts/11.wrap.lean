/-! the law's own two ways of calling -/
theorem A_value {a b c n : Int} {M : qa_Mem} (h : zz M) : qa_E 45 0 [(0, qr (0)), (1, qi (0)), (2, qi (a)), (3, qi (b)), (4, qi (c))] [] (th M n) (.inl (some (qi (-3000)))) (th M (n + 1)) := by
  have k : qa_E 21 0 [(0, qr 0), (1, qi (a)), (2, qi (b)), (3, qi (c))] [] (th M n) (.inr 1) (th (th M n) 1) := Z_value (th_zz h)
  rw [th_th] at k
  refine R_iload cd_45_0 rfl ?_
  refine R_if_ne 15 cd_45_1 rfl (fun h => absurd h (by decide)) (fun _ => ?_)
  refine R_aload cd_45_4 rfl ?_
  refine R_iload cd_45_5 rfl ?_
  refine R_iload cd_45_6 rfl ?_
  refine R_iload cd_45_7 rfl ?_
  refine R_callc4 cd_45_9 rfl rfl rfl k ?_
  refine R_astore cd_45_132 rfl ?_
  refine R_push cd_45_134 ?_
  exact R_iret cd_45_137 (by first | rfl | omega) rfl
theorem A_keyAt {a b c n : Int} {M : qa_Mem} (h : zz M) : qa_E 45 0 [(0, qr (0)), (1, qi (2)), (2, qi (a)), (3, qi (b)), (4, qi (c))] [] (th M n) (.inl (some (qi (-3000)))) (th M (n + 1)) := by
  have k : qa_E 22 0 [(0, qr 0), (1, qi (a))] [] (th M n) (.inr 1) (th (th M n) 1) := Z_keyAt (th_zz h)
  rw [th_th] at k
  refine R_iload cd_45_0 rfl ?_
  refine R_if_ne 15 cd_45_1 rfl (fun _ => ?_) (fun h => absurd h (by decide))
  refine R_iload cd_45_15 rfl ?_
  refine R_push cd_45_16 ?_
  refine R_icmp_ne 31 cd_45_17 rfl (fun _ => ?_) (fun h => absurd h (by decide))
  refine R_iload cd_45_31 rfl ?_
  refine R_push cd_45_32 ?_
  refine R_icmp_ne 44 cd_45_33 rfl (fun h => absurd h (by decide)) (fun _ => ?_)
  refine R_aload cd_45_36 rfl ?_
  refine R_iload cd_45_37 rfl ?_
  refine R_callc2 cd_45_38 rfl rfl rfl k ?_
  refine R_astore cd_45_132 rfl ?_
  refine R_push cd_45_134 ?_
  exact R_iret cd_45_137 (by first | rfl | omega) rfl
theorem A_place {a b c n : Int} {M : qa_Mem} (h : zz M) : qa_E 45 0 [(0, qr (0)), (1, qi (3)), (2, qi (a)), (3, qi (b)), (4, qi (c))] [] (th M n) (.inl (some (qi (-3000)))) (th M (n + 1)) := by
  have k : qa_E 23 0 [(0, qr 0), (1, qi (a)), (2, qi (b))] [] (th M n) (.inr 1) (th (th M n) 1) := Z_place (th_zz h)
  rw [th_th] at k
  refine R_iload cd_45_0 rfl ?_
  refine R_if_ne 15 cd_45_1 rfl (fun _ => ?_) (fun h => absurd h (by decide))
  refine R_iload cd_45_15 rfl ?_
  refine R_push cd_45_16 ?_
  refine R_icmp_ne 31 cd_45_17 rfl (fun _ => ?_) (fun h => absurd h (by decide))
  refine R_iload cd_45_31 rfl ?_
  refine R_push cd_45_32 ?_
  refine R_icmp_ne 44 cd_45_33 rfl (fun _ => ?_) (fun h => absurd h (by decide))
  refine R_iload cd_45_44 rfl ?_
  refine R_push cd_45_45 ?_
  refine R_icmp_ne 58 cd_45_46 rfl (fun h => absurd h (by decide)) (fun _ => ?_)
  refine R_aload cd_45_49 rfl ?_
  refine R_iload cd_45_50 rfl ?_
  refine R_iload cd_45_51 rfl ?_
  refine R_callc3 cd_45_52 rfl rfl rfl k ?_
  refine R_astore cd_45_132 rfl ?_
  refine R_push cd_45_134 ?_
  exact R_iret cd_45_137 (by first | rfl | omega) rfl
theorem A_artists {a b c n : Int} {M : qa_Mem} (h : zz M) (hx : ¬ (0 ≤ a ∧ a ≤ 119)) : qa_E 45 0 [(0, qr (0)), (1, qi (4)), (2, qi (a)), (3, qi (b)), (4, qi (c))] [] (th M n) (.inl (some (qi (-3000)))) (th M (n + 1)) := by
  have k : qa_E 24 0 [(0, qr 0), (1, qi (a))] [] (th M n) (.inr 1) (th (th M n) 1) := K_Court_artists1 hx
  rw [th_th] at k
  refine R_iload cd_45_0 rfl ?_
  refine R_if_ne 15 cd_45_1 rfl (fun _ => ?_) (fun h => absurd h (by decide))
  refine R_iload cd_45_15 rfl ?_
  refine R_push cd_45_16 ?_
  refine R_icmp_ne 31 cd_45_17 rfl (fun _ => ?_) (fun h => absurd h (by decide))
  refine R_iload cd_45_31 rfl ?_
  refine R_push cd_45_32 ?_
  refine R_icmp_ne 44 cd_45_33 rfl (fun _ => ?_) (fun h => absurd h (by decide))
  refine R_iload cd_45_44 rfl ?_
  refine R_push cd_45_45 ?_
  refine R_icmp_ne 58 cd_45_46 rfl (fun _ => ?_) (fun h => absurd h (by decide))
  refine R_iload cd_45_58 rfl ?_
  refine R_push cd_45_59 ?_
  refine R_icmp_ne 71 cd_45_60 rfl (fun h => absurd h (by decide)) (fun _ => ?_)
  refine R_aload cd_45_63 rfl ?_
  refine R_iload cd_45_64 rfl ?_
  refine R_callc2 cd_45_65 rfl rfl rfl k ?_
  refine R_astore cd_45_132 rfl ?_
  refine R_push cd_45_134 ?_
  exact R_iret cd_45_137 (by first | rfl | omega) rfl
theorem A_shown {a b c n : Int} {M : qa_Mem} (h : zz M) : qa_E 45 0 [(0, qr (0)), (1, qi (5)), (2, qi (a)), (3, qi (b)), (4, qi (c))] [] (th M n) (.inl (some (qi (-3000)))) (th M (n + 1)) := by
  have k : qa_E 27 0 [(0, qr 0), (1, qi (a))] [] (th M n) (.inr 1) (th (th M n) 1) := Z_shown (th_zz h)
  rw [th_th] at k
  refine R_iload cd_45_0 rfl ?_
  refine R_if_ne 15 cd_45_1 rfl (fun _ => ?_) (fun h => absurd h (by decide))
  refine R_iload cd_45_15 rfl ?_
  refine R_push cd_45_16 ?_
  refine R_icmp_ne 31 cd_45_17 rfl (fun _ => ?_) (fun h => absurd h (by decide))
  refine R_iload cd_45_31 rfl ?_
  refine R_push cd_45_32 ?_
  refine R_icmp_ne 44 cd_45_33 rfl (fun _ => ?_) (fun h => absurd h (by decide))
  refine R_iload cd_45_44 rfl ?_
  refine R_push cd_45_45 ?_
  refine R_icmp_ne 58 cd_45_46 rfl (fun _ => ?_) (fun h => absurd h (by decide))
  refine R_iload cd_45_58 rfl ?_
  refine R_push cd_45_59 ?_
  refine R_icmp_ne 71 cd_45_60 rfl (fun _ => ?_) (fun h => absurd h (by decide))
  refine R_iload cd_45_71 rfl ?_
  refine R_push cd_45_72 ?_
  refine R_icmp_ne 84 cd_45_73 rfl (fun h => absurd h (by decide)) (fun _ => ?_)
  refine R_aload cd_45_76 rfl ?_
  refine R_iload cd_45_77 rfl ?_
  refine R_callc2 cd_45_78 rfl rfl rfl k ?_
  refine R_astore cd_45_132 rfl ?_
  refine R_push cd_45_134 ?_
  exact R_iret cd_45_137 (by first | rfl | omega) rfl
theorem A_state {a b c n : Int} {M : qa_Mem} (h : zz M) (hx : ¬ (0 ≤ a ∧ a ≤ 119)) : qa_E 45 0 [(0, qr (0)), (1, qi (6)), (2, qi (a)), (3, qi (b)), (4, qi (c))] [] (th M n) (.inl (some (qi (-3000)))) (th M (n + 1)) := by
  have k : qa_E 28 0 [(0, qr 0), (1, qi (a))] [] (th M n) (.inr 1) (th (th M n) 1) := K_Court_state1 hx
  rw [th_th] at k
  refine R_iload cd_45_0 rfl ?_
  refine R_if_ne 15 cd_45_1 rfl (fun _ => ?_) (fun h => absurd h (by decide))
  refine R_iload cd_45_15 rfl ?_
  refine R_push cd_45_16 ?_
  refine R_icmp_ne 31 cd_45_17 rfl (fun _ => ?_) (fun h => absurd h (by decide))
  refine R_iload cd_45_31 rfl ?_
  refine R_push cd_45_32 ?_
  refine R_icmp_ne 44 cd_45_33 rfl (fun _ => ?_) (fun h => absurd h (by decide))
  refine R_iload cd_45_44 rfl ?_
  refine R_push cd_45_45 ?_
  refine R_icmp_ne 58 cd_45_46 rfl (fun _ => ?_) (fun h => absurd h (by decide))
  refine R_iload cd_45_58 rfl ?_
  refine R_push cd_45_59 ?_
  refine R_icmp_ne 71 cd_45_60 rfl (fun _ => ?_) (fun h => absurd h (by decide))
  refine R_iload cd_45_71 rfl ?_
  refine R_push cd_45_72 ?_
  refine R_icmp_ne 84 cd_45_73 rfl (fun _ => ?_) (fun h => absurd h (by decide))
  refine R_iload cd_45_84 rfl ?_
  refine R_push cd_45_85 ?_
  refine R_icmp_ne 98 cd_45_87 rfl (fun h => absurd h (by decide)) (fun _ => ?_)
  refine R_aload cd_45_90 rfl ?_
  refine R_iload cd_45_91 rfl ?_
  refine R_callc2 cd_45_92 rfl rfl rfl k ?_
  refine R_astore cd_45_132 rfl ?_
  refine R_push cd_45_134 ?_
  exact R_iret cd_45_137 (by first | rfl | omega) rfl
theorem A_heat {a b c n : Int} {M : qa_Mem} (h : zz M) : qa_E 45 0 [(0, qr (0)), (1, qi (7)), (2, qi (a)), (3, qi (b)), (4, qi (c))] [] (th M n) (.inl (some (qi (-3000)))) (th M (n + 1)) := by
  have k : qa_E 34 0 [(0, qr 0), (1, qi (a))] [] (th M n) (.inr 1) (th (th M n) 1) := Z_heat (th_zz h)
  rw [th_th] at k
  refine R_iload cd_45_0 rfl ?_
  refine R_if_ne 15 cd_45_1 rfl (fun _ => ?_) (fun h => absurd h (by decide))
  refine R_iload cd_45_15 rfl ?_
  refine R_push cd_45_16 ?_
  refine R_icmp_ne 31 cd_45_17 rfl (fun _ => ?_) (fun h => absurd h (by decide))
  refine R_iload cd_45_31 rfl ?_
  refine R_push cd_45_32 ?_
  refine R_icmp_ne 44 cd_45_33 rfl (fun _ => ?_) (fun h => absurd h (by decide))
  refine R_iload cd_45_44 rfl ?_
  refine R_push cd_45_45 ?_
  refine R_icmp_ne 58 cd_45_46 rfl (fun _ => ?_) (fun h => absurd h (by decide))
  refine R_iload cd_45_58 rfl ?_
  refine R_push cd_45_59 ?_
  refine R_icmp_ne 71 cd_45_60 rfl (fun _ => ?_) (fun h => absurd h (by decide))
  refine R_iload cd_45_71 rfl ?_
  refine R_push cd_45_72 ?_
  refine R_icmp_ne 84 cd_45_73 rfl (fun _ => ?_) (fun h => absurd h (by decide))
  refine R_iload cd_45_84 rfl ?_
  refine R_push cd_45_85 ?_
  refine R_icmp_ne 98 cd_45_87 rfl (fun _ => ?_) (fun h => absurd h (by decide))
  refine R_iload cd_45_98 rfl ?_
  refine R_push cd_45_99 ?_
  refine R_icmp_ne 112 cd_45_101 rfl (fun h => absurd h (by decide)) (fun _ => ?_)
  refine R_aload cd_45_104 rfl ?_
  refine R_iload cd_45_105 rfl ?_
  refine R_callc2 cd_45_106 rfl rfl rfl k ?_
  refine R_astore cd_45_132 rfl ?_
  refine R_push cd_45_134 ?_
  exact R_iret cd_45_137 (by first | rfl | omega) rfl
theorem A_seconds {a b c n : Int} {M : qa_Mem} (h : zz M) (hx : ¬ (0 ≤ a ∧ a ≤ 5)) : qa_E 45 0 [(0, qr (0)), (1, qi (8)), (2, qi (a)), (3, qi (b)), (4, qi (c))] [] (th M n) (.inl (some (qi (-3000)))) (th M (n + 1)) := by
  have k : qa_E 36 0 [(0, qr 0), (1, qi (a))] [] (th M n) (.inr 1) (th (th M n) 1) := K_Court_seconds1 hx
  rw [th_th] at k
  refine R_iload cd_45_0 rfl ?_
  refine R_if_ne 15 cd_45_1 rfl (fun _ => ?_) (fun h => absurd h (by decide))
  refine R_iload cd_45_15 rfl ?_
  refine R_push cd_45_16 ?_
  refine R_icmp_ne 31 cd_45_17 rfl (fun _ => ?_) (fun h => absurd h (by decide))
  refine R_iload cd_45_31 rfl ?_
  refine R_push cd_45_32 ?_
  refine R_icmp_ne 44 cd_45_33 rfl (fun _ => ?_) (fun h => absurd h (by decide))
  refine R_iload cd_45_44 rfl ?_
  refine R_push cd_45_45 ?_
  refine R_icmp_ne 58 cd_45_46 rfl (fun _ => ?_) (fun h => absurd h (by decide))
  refine R_iload cd_45_58 rfl ?_
  refine R_push cd_45_59 ?_
  refine R_icmp_ne 71 cd_45_60 rfl (fun _ => ?_) (fun h => absurd h (by decide))
  refine R_iload cd_45_71 rfl ?_
  refine R_push cd_45_72 ?_
  refine R_icmp_ne 84 cd_45_73 rfl (fun _ => ?_) (fun h => absurd h (by decide))
  refine R_iload cd_45_84 rfl ?_
  refine R_push cd_45_85 ?_
  refine R_icmp_ne 98 cd_45_87 rfl (fun _ => ?_) (fun h => absurd h (by decide))
  refine R_iload cd_45_98 rfl ?_
  refine R_push cd_45_99 ?_
  refine R_icmp_ne 112 cd_45_101 rfl (fun _ => ?_) (fun h => absurd h (by decide))
  refine R_iload cd_45_112 rfl ?_
  refine R_push cd_45_113 ?_
  refine R_icmp_ne 126 cd_45_115 rfl (fun h => absurd h (by decide)) (fun _ => ?_)
  refine R_aload cd_45_118 rfl ?_
  refine R_iload cd_45_119 rfl ?_
  refine R_callc2 cd_45_120 rfl rfl rfl k ?_
  refine R_astore cd_45_132 rfl ?_
  refine R_push cd_45_134 ?_
  exact R_iret cd_45_137 (by first | rfl | omega) rfl
theorem A_money {a b c n : Int} {M : qa_Mem} (h : zz M) (hx : ¬ (0 ≤ a ∧ a ≤ 6)) : qa_E 45 0 [(0, qr (0)), (1, qi (9)), (2, qi (a)), (3, qi (b)), (4, qi (c))] [] (th M n) (.inl (some (qi (-3000)))) (th M (n + 1)) := by
  have k : qa_E 37 0 [(0, qr 0), (1, qi (a))] [] (th M n) (.inr 1) (th (th M n) 1) := K_Court_money1 hx
  rw [th_th] at k
  refine R_iload cd_45_0 rfl ?_
  refine R_if_ne 15 cd_45_1 rfl (fun _ => ?_) (fun h => absurd h (by decide))
  refine R_iload cd_45_15 rfl ?_
  refine R_push cd_45_16 ?_
  refine R_icmp_ne 31 cd_45_17 rfl (fun _ => ?_) (fun h => absurd h (by decide))
  refine R_iload cd_45_31 rfl ?_
  refine R_push cd_45_32 ?_
  refine R_icmp_ne 44 cd_45_33 rfl (fun _ => ?_) (fun h => absurd h (by decide))
  refine R_iload cd_45_44 rfl ?_
  refine R_push cd_45_45 ?_
  refine R_icmp_ne 58 cd_45_46 rfl (fun _ => ?_) (fun h => absurd h (by decide))
  refine R_iload cd_45_58 rfl ?_
  refine R_push cd_45_59 ?_
  refine R_icmp_ne 71 cd_45_60 rfl (fun _ => ?_) (fun h => absurd h (by decide))
  refine R_iload cd_45_71 rfl ?_
  refine R_push cd_45_72 ?_
  refine R_icmp_ne 84 cd_45_73 rfl (fun _ => ?_) (fun h => absurd h (by decide))
  refine R_iload cd_45_84 rfl ?_
  refine R_push cd_45_85 ?_
  refine R_icmp_ne 98 cd_45_87 rfl (fun _ => ?_) (fun h => absurd h (by decide))
  refine R_iload cd_45_98 rfl ?_
  refine R_push cd_45_99 ?_
  refine R_icmp_ne 112 cd_45_101 rfl (fun _ => ?_) (fun h => absurd h (by decide))
  refine R_iload cd_45_112 rfl ?_
  refine R_push cd_45_113 ?_
  refine R_icmp_ne 126 cd_45_115 rfl (fun _ => ?_) (fun h => absurd h (by decide))
  refine R_aload cd_45_126 rfl ?_
  refine R_iload cd_45_127 rfl ?_
  refine R_callc2 cd_45_128 rfl rfl rfl k ?_
  refine R_astore cd_45_132 rfl ?_
  refine R_push cd_45_134 ?_
  exact R_iret cd_45_137 (by first | rfl | omega) rfl
theorem D_bone {a b c d e f n : Int} {M : qa_Mem} (h : zz M) (hx : a ≠ -1) : qa_E 44 0 [(0, qr (0)), (1, qi (0)), (2, qi (a)), (3, qi (b)), (4, qi (c)), (5, qi (d)), (6, qi (e)), (7, qi (f))] [] (th M n) (.inl (some (qi (-3000)))) (th M (n + 1)) := by
  have k : qa_E 18 0 [(0, qr 0), (1, qi (a)), (2, qi (b)), (3, qi (c))] [] (th M n) (.inr 1) (th (th M n) 1) := Z_bone (th_zz h) hx
  rw [th_th] at k
  refine R_iload cd_44_0 rfl ?_
  refine R_if_ne 15 cd_44_1 rfl (fun h => absurd h (by decide)) (fun _ => ?_)
  refine R_aload cd_44_4 rfl ?_
  refine R_iload cd_44_5 rfl ?_
  refine R_iload cd_44_6 rfl ?_
  refine R_iload cd_44_7 rfl ?_
  refine R_callc4 cd_44_9 rfl rfl rfl k ?_
  refine R_astore cd_44_143 rfl ?_
  refine R_push cd_44_145 ?_
  exact R_iret cd_44_148 (by first | rfl | omega) rfl
theorem D_key {a b c d e f n : Int} {M : qa_Mem} (h : zz M)  : qa_E 44 0 [(0, qr (0)), (1, qi (1)), (2, qi (a)), (3, qi (b)), (4, qi (c)), (5, qi (d)), (6, qi (e)), (7, qi (f))] [] (th M n) (.inl (some (qi (-3000)))) (th M (n + 1)) := by
  have k : qa_E 19 0 [(0, qr 0), (1, qi (a)), (2, qi (b)), (3, qi (c)), (4, qi (d)), (5, qi (e)), (6, qi (f))] [] (th M n) (.inr 1) (th (th M n) 1) := Z_key (th_zz h)
  rw [th_th] at k
  refine R_iload cd_44_0 rfl ?_
  refine R_if_ne 15 cd_44_1 rfl (fun _ => ?_) (fun h => absurd h (by decide))
  refine R_iload cd_44_15 rfl ?_
  refine R_push cd_44_16 ?_
  refine R_icmp_ne 37 cd_44_17 rfl (fun h => absurd h (by decide)) (fun _ => ?_)
  refine R_aload cd_44_20 rfl ?_
  refine R_iload cd_44_21 rfl ?_
  refine R_iload cd_44_22 rfl ?_
  refine R_iload cd_44_23 rfl ?_
  refine R_iload cd_44_25 rfl ?_
  refine R_iload cd_44_27 rfl ?_
  refine R_iload cd_44_29 rfl ?_
  refine R_callc7 cd_44_31 rfl rfl rfl k ?_
  refine R_astore cd_44_143 rfl ?_
  refine R_push cd_44_145 ?_
  exact R_iret cd_44_148 (by first | rfl | omega) rfl
theorem D_unkey {a b c d e f n : Int} {M : qa_Mem} (h : zz M)  : qa_E 44 0 [(0, qr (0)), (1, qi (2)), (2, qi (a)), (3, qi (b)), (4, qi (c)), (5, qi (d)), (6, qi (e)), (7, qi (f))] [] (th M n) (.inl (some (qi (-3000)))) (th M (n + 1)) := by
  have k : qa_E 20 0 [(0, qr 0), (1, qi (a)), (2, qi (b)), (3, qi (c))] [] (th M n) (.inr 1) (th (th M n) 1) := Z_unkey (th_zz h)
  rw [th_th] at k
  refine R_iload cd_44_0 rfl ?_
  refine R_if_ne 15 cd_44_1 rfl (fun _ => ?_) (fun h => absurd h (by decide))
  refine R_iload cd_44_15 rfl ?_
  refine R_push cd_44_16 ?_
  refine R_icmp_ne 37 cd_44_17 rfl (fun _ => ?_) (fun h => absurd h (by decide))
  refine R_iload cd_44_37 rfl ?_
  refine R_push cd_44_38 ?_
  refine R_icmp_ne 53 cd_44_39 rfl (fun h => absurd h (by decide)) (fun _ => ?_)
  refine R_aload cd_44_42 rfl ?_
  refine R_iload cd_44_43 rfl ?_
  refine R_iload cd_44_44 rfl ?_
  refine R_iload cd_44_45 rfl ?_
  refine R_callc4 cd_44_47 rfl rfl rfl k ?_
  refine R_astore cd_44_143 rfl ?_
  refine R_push cd_44_145 ?_
  exact R_iret cd_44_148 (by first | rfl | omega) rfl
theorem D_cut {a b c d e f n : Int} {M : qa_Mem} (h : zz M) (hx : ¬ ((0 ≤ a ∧ a ≤ 0) ∧ (0 ≤ b ∧ b ≤ 119) ∧ 0 ≤ c ∧ c ≤ 119)) : qa_E 44 0 [(0, qr (0)), (1, qi (3)), (2, qi (a)), (3, qi (b)), (4, qi (c)), (5, qi (d)), (6, qi (e)), (7, qi (f))] [] (th M n) (.inl (some (qi (-3000)))) (th M (n + 1)) := by
  have k : qa_E 25 0 [(0, qr 0), (1, qi (a)), (2, qi (b)), (3, qi (c))] [] (th M n) (.inr 1) (th (th M n) 1) := K_Court_cut1 (by rw [th_e h (by decide)]; exact hx)
  rw [th_th] at k
  refine R_iload cd_44_0 rfl ?_
  refine R_if_ne 15 cd_44_1 rfl (fun _ => ?_) (fun h => absurd h (by decide))
  refine R_iload cd_44_15 rfl ?_
  refine R_push cd_44_16 ?_
  refine R_icmp_ne 37 cd_44_17 rfl (fun _ => ?_) (fun h => absurd h (by decide))
  refine R_iload cd_44_37 rfl ?_
  refine R_push cd_44_38 ?_
  refine R_icmp_ne 53 cd_44_39 rfl (fun _ => ?_) (fun h => absurd h (by decide))
  refine R_iload cd_44_53 rfl ?_
  refine R_push cd_44_54 ?_
  refine R_icmp_ne 69 cd_44_55 rfl (fun h => absurd h (by decide)) (fun _ => ?_)
  refine R_aload cd_44_58 rfl ?_
  refine R_iload cd_44_59 rfl ?_
  refine R_iload cd_44_60 rfl ?_
  refine R_iload cd_44_61 rfl ?_
  refine R_callc4 cd_44_63 rfl rfl rfl k ?_
  refine R_astore cd_44_143 rfl ?_
  refine R_push cd_44_145 ?_
  exact R_iret cd_44_148 (by first | rfl | omega) rfl
theorem D_uncut {a b c d e f n : Int} {M : qa_Mem} (h : zz M)  : qa_E 44 0 [(0, qr (0)), (1, qi (4)), (2, qi (a)), (3, qi (b)), (4, qi (c)), (5, qi (d)), (6, qi (e)), (7, qi (f))] [] (th M n) (.inl (some (qi (-3000)))) (th M (n + 1)) := by
  have k : qa_E 26 0 [(0, qr 0), (1, qi (a))] [] (th M n) (.inr 1) (th (th M n) 1) := Z_uncut (th_zz h)
  rw [th_th] at k
  refine R_iload cd_44_0 rfl ?_
  refine R_if_ne 15 cd_44_1 rfl (fun _ => ?_) (fun h => absurd h (by decide))
  refine R_iload cd_44_15 rfl ?_
  refine R_push cd_44_16 ?_
  refine R_icmp_ne 37 cd_44_17 rfl (fun _ => ?_) (fun h => absurd h (by decide))
  refine R_iload cd_44_37 rfl ?_
  refine R_push cd_44_38 ?_
  refine R_icmp_ne 53 cd_44_39 rfl (fun _ => ?_) (fun h => absurd h (by decide))
  refine R_iload cd_44_53 rfl ?_
  refine R_push cd_44_54 ?_
  refine R_icmp_ne 69 cd_44_55 rfl (fun _ => ?_) (fun h => absurd h (by decide))
  refine R_iload cd_44_69 rfl ?_
  refine R_push cd_44_70 ?_
  refine R_icmp_ne 82 cd_44_71 rfl (fun h => absurd h (by decide)) (fun _ => ?_)
  refine R_aload cd_44_74 rfl ?_
  refine R_iload cd_44_75 rfl ?_
  refine R_callc2 cd_44_76 rfl rfl rfl k ?_
  refine R_astore cd_44_143 rfl ?_
  refine R_push cd_44_145 ?_
  exact R_iret cd_44_148 (by first | rfl | omega) rfl
theorem D_machine {a b c d e f n : Int} {M : qa_Mem} (h : zz M) (hx : ¬ (1 ≤ a ∧ a ≤ 5)) : qa_E 44 0 [(0, qr (0)), (1, qi (5)), (2, qi (a)), (3, qi (b)), (4, qi (c)), (5, qi (d)), (6, qi (e)), (7, qi (f))] [] (th M n) (.inl (some (qi (-2000)))) (th M (n + 1)) := by
  have k : qa_E 31 0 [(0, qr 0), (1, qi (a))] [] (th M n) (.inr 2) (th (th M n) 1) := K_Court_machine1 hx
  rw [th_th] at k
  refine R_iload cd_44_0 rfl ?_
  refine R_if_ne 15 cd_44_1 rfl (fun _ => ?_) (fun h => absurd h (by decide))
  refine R_iload cd_44_15 rfl ?_
  refine R_push cd_44_16 ?_
  refine R_icmp_ne 37 cd_44_17 rfl (fun _ => ?_) (fun h => absurd h (by decide))
  refine R_iload cd_44_37 rfl ?_
  refine R_push cd_44_38 ?_
  refine R_icmp_ne 53 cd_44_39 rfl (fun _ => ?_) (fun h => absurd h (by decide))
  refine R_iload cd_44_53 rfl ?_
  refine R_push cd_44_54 ?_
  refine R_icmp_ne 69 cd_44_55 rfl (fun _ => ?_) (fun h => absurd h (by decide))
  refine R_iload cd_44_69 rfl ?_
  refine R_push cd_44_70 ?_
  refine R_icmp_ne 82 cd_44_71 rfl (fun _ => ?_) (fun h => absurd h (by decide))
  refine R_iload cd_44_82 rfl ?_
  refine R_push cd_44_83 ?_
  refine R_icmp_ne 95 cd_44_84 rfl (fun h => absurd h (by decide)) (fun _ => ?_)
  refine R_aload cd_44_87 rfl ?_
  refine R_iload cd_44_88 rfl ?_
  refine R_callc2 cd_44_89 rfl rfl rfl k ?_
  refine R_astore cd_44_149 rfl ?_
  refine R_push cd_44_151 ?_
  exact R_iret cd_44_154 (by first | rfl | omega) rfl
theorem D_offer {a b c d e f n : Int} {M : qa_Mem} (h : zz M) (hx : ¬ ((1 ≤ a ∧ a ≤ 100) ∧ 1 ≤ b ∧ b ≤ 50)) : qa_E 44 0 [(0, qr (0)), (1, qi (6)), (2, qi (a)), (3, qi (b)), (4, qi (c)), (5, qi (d)), (6, qi (e)), (7, qi (f))] [] (th M n) (.inl (some (qi (-2000)))) (th M (n + 1)) := by
  have k : qa_E 32 0 [(0, qr 0), (1, qi (a)), (2, qi (b))] [] (th M n) (.inr 2) (th (th M n) 1) := K_Court_offer1 hx
  rw [th_th] at k
  refine R_iload cd_44_0 rfl ?_
  refine R_if_ne 15 cd_44_1 rfl (fun _ => ?_) (fun h => absurd h (by decide))
  refine R_iload cd_44_15 rfl ?_
  refine R_push cd_44_16 ?_
  refine R_icmp_ne 37 cd_44_17 rfl (fun _ => ?_) (fun h => absurd h (by decide))
  refine R_iload cd_44_37 rfl ?_
  refine R_push cd_44_38 ?_
  refine R_icmp_ne 53 cd_44_39 rfl (fun _ => ?_) (fun h => absurd h (by decide))
  refine R_iload cd_44_53 rfl ?_
  refine R_push cd_44_54 ?_
  refine R_icmp_ne 69 cd_44_55 rfl (fun _ => ?_) (fun h => absurd h (by decide))
  refine R_iload cd_44_69 rfl ?_
  refine R_push cd_44_70 ?_
  refine R_icmp_ne 82 cd_44_71 rfl (fun _ => ?_) (fun h => absurd h (by decide))
  refine R_iload cd_44_82 rfl ?_
  refine R_push cd_44_83 ?_
  refine R_icmp_ne 95 cd_44_84 rfl (fun _ => ?_) (fun h => absurd h (by decide))
  refine R_iload cd_44_95 rfl ?_
  refine R_push cd_44_96 ?_
  refine R_icmp_ne 110 cd_44_98 rfl (fun h => absurd h (by decide)) (fun _ => ?_)
  refine R_aload cd_44_101 rfl ?_
  refine R_iload cd_44_102 rfl ?_
  refine R_iload cd_44_103 rfl ?_
  refine R_callc3 cd_44_104 rfl rfl rfl k ?_
  refine R_astore cd_44_149 rfl ?_
  refine R_push cd_44_151 ?_
  exact R_iret cd_44_154 (by first | rfl | omega) rfl
theorem D_night {a b c d e f n : Int} {M : qa_Mem} (h : zz M) (hx : ¬ (1 ≤ a ∧ a ≤ 24)) : qa_E 44 0 [(0, qr (0)), (1, qi (7)), (2, qi (a)), (3, qi (b)), (4, qi (c)), (5, qi (d)), (6, qi (e)), (7, qi (f))] [] (th M n) (.inl (some (qi (-2000)))) (th M (n + 1)) := by
  have k : qa_E 33 0 [(0, qr 0), (1, qi (a))] [] (th M n) (.inr 2) (th (th M n) 1) := K_Court_night1 hx
  rw [th_th] at k
  refine R_iload cd_44_0 rfl ?_
  refine R_if_ne 15 cd_44_1 rfl (fun _ => ?_) (fun h => absurd h (by decide))
  refine R_iload cd_44_15 rfl ?_
  refine R_push cd_44_16 ?_
  refine R_icmp_ne 37 cd_44_17 rfl (fun _ => ?_) (fun h => absurd h (by decide))
  refine R_iload cd_44_37 rfl ?_
  refine R_push cd_44_38 ?_
  refine R_icmp_ne 53 cd_44_39 rfl (fun _ => ?_) (fun h => absurd h (by decide))
  refine R_iload cd_44_53 rfl ?_
  refine R_push cd_44_54 ?_
  refine R_icmp_ne 69 cd_44_55 rfl (fun _ => ?_) (fun h => absurd h (by decide))
  refine R_iload cd_44_69 rfl ?_
  refine R_push cd_44_70 ?_
  refine R_icmp_ne 82 cd_44_71 rfl (fun _ => ?_) (fun h => absurd h (by decide))
  refine R_iload cd_44_82 rfl ?_
  refine R_push cd_44_83 ?_
  refine R_icmp_ne 95 cd_44_84 rfl (fun _ => ?_) (fun h => absurd h (by decide))
  refine R_iload cd_44_95 rfl ?_
  refine R_push cd_44_96 ?_
  refine R_icmp_ne 110 cd_44_98 rfl (fun _ => ?_) (fun h => absurd h (by decide))
  refine R_iload cd_44_110 rfl ?_
  refine R_push cd_44_111 ?_
  refine R_icmp_ne 124 cd_44_113 rfl (fun h => absurd h (by decide)) (fun _ => ?_)
  refine R_aload cd_44_116 rfl ?_
  refine R_iload cd_44_117 rfl ?_
  refine R_callc2 cd_44_118 rfl rfl rfl k ?_
  refine R_astore cd_44_149 rfl ?_
  refine R_push cd_44_151 ?_
  exact R_iret cd_44_154 (by first | rfl | omega) rfl
theorem D_setRate {a b c d e f n : Int} {M : qa_Mem} (h : zz M) (hx : ¬ (0 ≤ a ∧ a ≤ 1000)) : qa_E 44 0 [(0, qr (0)), (1, qi (8)), (2, qi (a)), (3, qi (b)), (4, qi (c)), (5, qi (d)), (6, qi (e)), (7, qi (f))] [] (th M n) (.inl (some (qi (-2000)))) (th M (n + 1)) := by
  have k : qa_E 35 0 [(0, qr 0), (1, qi (a))] [] (th M n) (.inr 2) (th (th M n) 1) := K_Court_setRate1 hx
  rw [th_th] at k
  refine R_iload cd_44_0 rfl ?_
  refine R_if_ne 15 cd_44_1 rfl (fun _ => ?_) (fun h => absurd h (by decide))
  refine R_iload cd_44_15 rfl ?_
  refine R_push cd_44_16 ?_
  refine R_icmp_ne 37 cd_44_17 rfl (fun _ => ?_) (fun h => absurd h (by decide))
  refine R_iload cd_44_37 rfl ?_
  refine R_push cd_44_38 ?_
  refine R_icmp_ne 53 cd_44_39 rfl (fun _ => ?_) (fun h => absurd h (by decide))
  refine R_iload cd_44_53 rfl ?_
  refine R_push cd_44_54 ?_
  refine R_icmp_ne 69 cd_44_55 rfl (fun _ => ?_) (fun h => absurd h (by decide))
  refine R_iload cd_44_69 rfl ?_
  refine R_push cd_44_70 ?_
  refine R_icmp_ne 82 cd_44_71 rfl (fun _ => ?_) (fun h => absurd h (by decide))
  refine R_iload cd_44_82 rfl ?_
  refine R_push cd_44_83 ?_
  refine R_icmp_ne 95 cd_44_84 rfl (fun _ => ?_) (fun h => absurd h (by decide))
  refine R_iload cd_44_95 rfl ?_
  refine R_push cd_44_96 ?_
  refine R_icmp_ne 110 cd_44_98 rfl (fun _ => ?_) (fun h => absurd h (by decide))
  refine R_iload cd_44_110 rfl ?_
  refine R_push cd_44_111 ?_
  refine R_icmp_ne 124 cd_44_113 rfl (fun _ => ?_) (fun h => absurd h (by decide))
  refine R_iload cd_44_124 rfl ?_
  refine R_push cd_44_125 ?_
  refine R_icmp_ne 138 cd_44_127 rfl (fun h => absurd h (by decide)) (fun _ => ?_)
  refine R_aload cd_44_130 rfl ?_
  refine R_iload cd_44_131 rfl ?_
  refine R_callc2 cd_44_132 rfl rfl rfl k ?_
  refine R_astore cd_44_149 rfl ?_
  refine R_push cd_44_151 ?_
  exact R_iret cd_44_154 (by first | rfl | omega) rfl
