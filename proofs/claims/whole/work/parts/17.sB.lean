section S
variable {d o o2 p0 p1 p2 p3 p4 q0 q1 q2 q3 q4 q5 : Nat} {L S : List Value} {h : abH} {Q : Option Value → abH → Prop} {l0 l1 l2 l3 l4 l5 l6 l7 l8 l9 l10 l11 l12 l13 l14 l15 l16 l17 l18 l19 : Value} {a b x0 x1 x2 x3 x4 x5 y0 y1 y2 y3 y4 y5 : Int32} {u w u0 w0 w1 w2 w3 w4 : Int64}
-- method 42: BufferRoom$Program.<init>()V
theorem dX6_init_0 : decode cX6_init 0 = .ok (.aload_n 0, 1) := by decide +kernel
theorem dX6_init_1 : decode cX6_init 1 = .ok (.invokespecial 3, 3) := by decide +kernel
theorem dX6_init_4 : decode cX6_init 4 = .ok (.aload_n 0, 1) := by decide +kernel
theorem dX6_init_5 : decode cX6_init 5 = .ok (.bipush 12, 2) := by decide +kernel
theorem dX6_init_7 : decode cX6_init 7 = .ok (.newarray .int, 2) := by decide +kernel
theorem dX6_init_9 : decode cX6_init 9 = .ok (.putfield 9, 3) := by decide +kernel
theorem dX6_init_12 : decode cX6_init 12 = .ok (.aload_n 0, 1) := by decide +kernel
theorem dX6_init_13 : decode cX6_init 13 = .ok (.bipush 48, 2) := by decide +kernel
theorem dX6_init_15 : decode cX6_init 15 = .ok (.newarray .int, 2) := by decide +kernel
theorem dX6_init_17 : decode cX6_init 17 = .ok (.putfield 15, 3) := by decide +kernel
theorem dX6_init_20 : decode cX6_init 20 = .ok (.aload_n 0, 1) := by decide +kernel
theorem dX6_init_21 : decode cX6_init 21 = .ok (.bipush 48, 2) := by decide +kernel
theorem dX6_init_23 : decode cX6_init 23 = .ok (.newarray .int, 2) := by decide +kernel
theorem dX6_init_25 : decode cX6_init 25 = .ok (.putfield 18, 3) := by decide +kernel
theorem dX6_init_28 : decode cX6_init 28 = .ok (.aload_n 0, 1) := by decide +kernel
theorem dX6_init_29 : decode cX6_init 29 = .ok (.bipush 12, 2) := by decide +kernel
theorem dX6_init_31 : decode cX6_init 31 = .ok (.newarray .boolean, 2) := by decide +kernel
theorem dX6_init_33 : decode cX6_init 33 = .ok (.putfield 21, 3) := by decide +kernel
theorem dX6_init_36 : decode cX6_init 36 = .ok (.aload_n 0, 1) := by decide +kernel
theorem dX6_init_37 : decode cX6_init 37 = .ok (.bipush 12, 2) := by decide +kernel
theorem dX6_init_39 : decode cX6_init 39 = .ok (.newarray .int, 2) := by decide +kernel
theorem dX6_init_41 : decode cX6_init 41 = .ok (.putfield 25, 3) := by decide +kernel
theorem dX6_init_44 : decode cX6_init 44 = .ok (.aload_n 0, 1) := by decide +kernel
theorem dX6_init_45 : decode cX6_init 45 = .ok (.bipush 12, 2) := by decide +kernel
theorem dX6_init_47 : decode cX6_init 47 = .ok (.newarray .int, 2) := by decide +kernel
theorem dX6_init_49 : decode cX6_init 49 = .ok (.putfield 28, 3) := by decide +kernel
theorem dX6_init_52 : decode cX6_init 52 = .ok (.aload_n 0, 1) := by decide +kernel
theorem dX6_init_53 : decode cX6_init 53 = .ok (.bipush 10, 2) := by decide +kernel
theorem dX6_init_55 : decode cX6_init 55 = .ok (.newarray .int, 2) := by decide +kernel
theorem dX6_init_57 : decode cX6_init 57 = .ok (.putfield 31, 3) := by decide +kernel
theorem dX6_init_60 : decode cX6_init 60 = .ok (.aload_n 0, 1) := by decide +kernel
theorem dX6_init_61 : decode cX6_init 61 = .ok (.bipush 10, 2) := by decide +kernel
theorem dX6_init_63 : decode cX6_init 63 = .ok (.newarray .int, 2) := by decide +kernel
theorem dX6_init_65 : decode cX6_init 65 = .ok (.putfield 34, 3) := by decide +kernel
theorem dX6_init_68 : decode cX6_init 68 = .ok (.aload_n 0, 1) := by decide +kernel
theorem dX6_init_69 : decode cX6_init 69 = .ok (.bipush 10, 2) := by decide +kernel
theorem dX6_init_71 : decode cX6_init 71 = .ok (.newarray .int, 2) := by decide +kernel
theorem dX6_init_73 : decode cX6_init 73 = .ok (.putfield 37, 3) := by decide +kernel
theorem dX6_init_76 : decode cX6_init 76 = .ok (.aload_n 0, 1) := by decide +kernel
theorem dX6_init_77 : decode cX6_init 77 = .ok (.bipush 10, 2) := by decide +kernel
theorem dX6_init_79 : decode cX6_init 79 = .ok (.newarray .int, 2) := by decide +kernel
theorem dX6_init_81 : decode cX6_init 81 = .ok (.putfield 40, 3) := by decide +kernel
theorem dX6_init_84 : decode cX6_init 84 = .ok (.aload_n 0, 1) := by decide +kernel
theorem dX6_init_85 : decode cX6_init 85 = .ok (.bipush 40, 2) := by decide +kernel
theorem dX6_init_87 : decode cX6_init 87 = .ok (.newarray .int, 2) := by decide +kernel
theorem dX6_init_89 : decode cX6_init 89 = .ok (.putfield 43, 3) := by decide +kernel
theorem dX6_init_92 : decode cX6_init 92 = .ok (.return_, 1) := by decide +kernel
theorem s42_0 : aW d 42 0 [.ref o] S h Q = aW d 42 1 [.ref o] (.ref o :: S) h Q := ax_aload_n mt42 dX6_init_0 rfl
theorem s42_1 : aW (d + 1) 42 1 L (.ref o :: []) h Q = aW (d + 1) 42 4 L [] h Q := ax_obj mt42 dX6_init_1 (by decide) ct_24579 (Nat.le_of_ble_eq_true rfl)
theorem s42_4 : aW d 42 4 [.ref o] S h Q = aW d 42 5 [.ref o] (.ref o :: S) h Q := ax_aload_n mt42 dX6_init_4 rfl
theorem s42_5 : aW d 42 5 L S h Q = aW d 42 7 L (.int (nI 12) :: S) h Q := ax_bipush mt42 dX6_init_5 bp_12
theorem s42_7 (hn : ¬ a < 0 ∧ a.toNatClampNeg ≤ 100000) : aW d 42 7 L (.int a :: S) h Q = aW d 42 9 L (.ref h.1.length :: S) (nO h 0 a.toNatClampNeg) Q := ax_newi mt42 dX6_init_7 hn
theorem s42_9 (hT : gT h o = some (8, 12)) : aW d 42 9 L (.ref o2 :: .ref o :: S) h Q = aW d 42 12 L S (pR h o 0 (.ref o2)) Q := ax_puta mt42 dX6_init_9 (by decide) ft_24585 (fun q => q.2 ⟨rfl, rfl, rfl⟩) fp_24585 hT
theorem s42_12 : aW d 42 12 [.ref o] S h Q = aW d 42 13 [.ref o] (.ref o :: S) h Q := ax_aload_n mt42 dX6_init_12 rfl
theorem s42_13 : aW d 42 13 L S h Q = aW d 42 15 L (.int (nI 48) :: S) h Q := ax_bipush mt42 dX6_init_13 bp_48
theorem s42_15 (hn : ¬ a < 0 ∧ a.toNatClampNeg ≤ 100000) : aW d 42 15 L (.int a :: S) h Q = aW d 42 17 L (.ref h.1.length :: S) (nO h 0 a.toNatClampNeg) Q := ax_newi mt42 dX6_init_15 hn
theorem s42_17 (hT : gT h o = some (8, 12)) : aW d 42 17 L (.ref o2 :: .ref o :: S) h Q = aW d 42 20 L S (pR h o 1 (.ref o2)) Q := ax_puta mt42 dX6_init_17 (by decide) ft_24591 (fun q => q.2 ⟨rfl, rfl, rfl⟩) fp_24591 hT
theorem s42_20 : aW d 42 20 [.ref o] S h Q = aW d 42 21 [.ref o] (.ref o :: S) h Q := ax_aload_n mt42 dX6_init_20 rfl
theorem s42_21 : aW d 42 21 L S h Q = aW d 42 23 L (.int (nI 48) :: S) h Q := ax_bipush mt42 dX6_init_21 bp_48
theorem s42_23 (hn : ¬ a < 0 ∧ a.toNatClampNeg ≤ 100000) : aW d 42 23 L (.int a :: S) h Q = aW d 42 25 L (.ref h.1.length :: S) (nO h 0 a.toNatClampNeg) Q := ax_newi mt42 dX6_init_23 hn
theorem s42_25 (hT : gT h o = some (8, 12)) : aW d 42 25 L (.ref o2 :: .ref o :: S) h Q = aW d 42 28 L S (pR h o 2 (.ref o2)) Q := ax_puta mt42 dX6_init_25 (by decide) ft_24594 (fun q => q.2 ⟨rfl, rfl, rfl⟩) fp_24594 hT
theorem s42_28 : aW d 42 28 [.ref o] S h Q = aW d 42 29 [.ref o] (.ref o :: S) h Q := ax_aload_n mt42 dX6_init_28 rfl
theorem s42_29 : aW d 42 29 L S h Q = aW d 42 31 L (.int (nI 12) :: S) h Q := ax_bipush mt42 dX6_init_29 bp_12
theorem s42_31 (hn : ¬ a < 0 ∧ a.toNatClampNeg ≤ 100000) : aW d 42 31 L (.int a :: S) h Q = aW d 42 33 L (.ref h.1.length :: S) (nO h 1 a.toNatClampNeg) Q := ax_newz mt42 dX6_init_31 hn
theorem s42_33 (hT : gT h o = some (8, 12)) : aW d 42 33 L (.ref o2 :: .ref o :: S) h Q = aW d 42 36 L S (pR h o 3 (.ref o2)) Q := ax_puta mt42 dX6_init_33 (by decide) ft_24597 (fun q => q.2 ⟨rfl, rfl, rfl⟩) fp_24597 hT
theorem s42_36 : aW d 42 36 [.ref o] S h Q = aW d 42 37 [.ref o] (.ref o :: S) h Q := ax_aload_n mt42 dX6_init_36 rfl
theorem s42_37 : aW d 42 37 L S h Q = aW d 42 39 L (.int (nI 12) :: S) h Q := ax_bipush mt42 dX6_init_37 bp_12
theorem s42_39 (hn : ¬ a < 0 ∧ a.toNatClampNeg ≤ 100000) : aW d 42 39 L (.int a :: S) h Q = aW d 42 41 L (.ref h.1.length :: S) (nO h 0 a.toNatClampNeg) Q := ax_newi mt42 dX6_init_39 hn
theorem s42_41 (hT : gT h o = some (8, 12)) : aW d 42 41 L (.ref o2 :: .ref o :: S) h Q = aW d 42 44 L S (pR h o 4 (.ref o2)) Q := ax_puta mt42 dX6_init_41 (by decide) ft_24601 (fun q => q.2 ⟨rfl, rfl, rfl⟩) fp_24601 hT
theorem s42_44 : aW d 42 44 [.ref o] S h Q = aW d 42 45 [.ref o] (.ref o :: S) h Q := ax_aload_n mt42 dX6_init_44 rfl
theorem s42_45 : aW d 42 45 L S h Q = aW d 42 47 L (.int (nI 12) :: S) h Q := ax_bipush mt42 dX6_init_45 bp_12
theorem s42_47 (hn : ¬ a < 0 ∧ a.toNatClampNeg ≤ 100000) : aW d 42 47 L (.int a :: S) h Q = aW d 42 49 L (.ref h.1.length :: S) (nO h 0 a.toNatClampNeg) Q := ax_newi mt42 dX6_init_47 hn
theorem s42_49 (hT : gT h o = some (8, 12)) : aW d 42 49 L (.ref o2 :: .ref o :: S) h Q = aW d 42 52 L S (pR h o 5 (.ref o2)) Q := ax_puta mt42 dX6_init_49 (by decide) ft_24604 (fun q => q.2 ⟨rfl, rfl, rfl⟩) fp_24604 hT
theorem s42_52 : aW d 42 52 [.ref o] S h Q = aW d 42 53 [.ref o] (.ref o :: S) h Q := ax_aload_n mt42 dX6_init_52 rfl
theorem s42_53 : aW d 42 53 L S h Q = aW d 42 55 L (.int (nI 10) :: S) h Q := ax_bipush mt42 dX6_init_53 bp_10
theorem s42_55 (hn : ¬ a < 0 ∧ a.toNatClampNeg ≤ 100000) : aW d 42 55 L (.int a :: S) h Q = aW d 42 57 L (.ref h.1.length :: S) (nO h 0 a.toNatClampNeg) Q := ax_newi mt42 dX6_init_55 hn
theorem s42_57 (hT : gT h o = some (8, 12)) : aW d 42 57 L (.ref o2 :: .ref o :: S) h Q = aW d 42 60 L S (pR h o 7 (.ref o2)) Q := ax_puta mt42 dX6_init_57 (by decide) ft_24607 (fun q => q.2 ⟨rfl, rfl, rfl⟩) fp_24607 hT
theorem s42_60 : aW d 42 60 [.ref o] S h Q = aW d 42 61 [.ref o] (.ref o :: S) h Q := ax_aload_n mt42 dX6_init_60 rfl
theorem s42_61 : aW d 42 61 L S h Q = aW d 42 63 L (.int (nI 10) :: S) h Q := ax_bipush mt42 dX6_init_61 bp_10
theorem s42_63 (hn : ¬ a < 0 ∧ a.toNatClampNeg ≤ 100000) : aW d 42 63 L (.int a :: S) h Q = aW d 42 65 L (.ref h.1.length :: S) (nO h 0 a.toNatClampNeg) Q := ax_newi mt42 dX6_init_63 hn
theorem s42_65 (hT : gT h o = some (8, 12)) : aW d 42 65 L (.ref o2 :: .ref o :: S) h Q = aW d 42 68 L S (pR h o 8 (.ref o2)) Q := ax_puta mt42 dX6_init_65 (by decide) ft_24610 (fun q => q.2 ⟨rfl, rfl, rfl⟩) fp_24610 hT
theorem s42_68 : aW d 42 68 [.ref o] S h Q = aW d 42 69 [.ref o] (.ref o :: S) h Q := ax_aload_n mt42 dX6_init_68 rfl
theorem s42_69 : aW d 42 69 L S h Q = aW d 42 71 L (.int (nI 10) :: S) h Q := ax_bipush mt42 dX6_init_69 bp_10
theorem s42_71 (hn : ¬ a < 0 ∧ a.toNatClampNeg ≤ 100000) : aW d 42 71 L (.int a :: S) h Q = aW d 42 73 L (.ref h.1.length :: S) (nO h 0 a.toNatClampNeg) Q := ax_newi mt42 dX6_init_71 hn
theorem s42_73 (hT : gT h o = some (8, 12)) : aW d 42 73 L (.ref o2 :: .ref o :: S) h Q = aW d 42 76 L S (pR h o 9 (.ref o2)) Q := ax_puta mt42 dX6_init_73 (by decide) ft_24613 (fun q => q.2 ⟨rfl, rfl, rfl⟩) fp_24613 hT
theorem s42_76 : aW d 42 76 [.ref o] S h Q = aW d 42 77 [.ref o] (.ref o :: S) h Q := ax_aload_n mt42 dX6_init_76 rfl
theorem s42_77 : aW d 42 77 L S h Q = aW d 42 79 L (.int (nI 10) :: S) h Q := ax_bipush mt42 dX6_init_77 bp_10
theorem s42_79 (hn : ¬ a < 0 ∧ a.toNatClampNeg ≤ 100000) : aW d 42 79 L (.int a :: S) h Q = aW d 42 81 L (.ref h.1.length :: S) (nO h 0 a.toNatClampNeg) Q := ax_newi mt42 dX6_init_79 hn
theorem s42_81 (hT : gT h o = some (8, 12)) : aW d 42 81 L (.ref o2 :: .ref o :: S) h Q = aW d 42 84 L S (pR h o 10 (.ref o2)) Q := ax_puta mt42 dX6_init_81 (by decide) ft_24616 (fun q => q.2 ⟨rfl, rfl, rfl⟩) fp_24616 hT
theorem s42_84 : aW d 42 84 [.ref o] S h Q = aW d 42 85 [.ref o] (.ref o :: S) h Q := ax_aload_n mt42 dX6_init_84 rfl
theorem s42_85 : aW d 42 85 L S h Q = aW d 42 87 L (.int (nI 40) :: S) h Q := ax_bipush mt42 dX6_init_85 bp_40
theorem s42_87 (hn : ¬ a < 0 ∧ a.toNatClampNeg ≤ 100000) : aW d 42 87 L (.int a :: S) h Q = aW d 42 89 L (.ref h.1.length :: S) (nO h 0 a.toNatClampNeg) Q := ax_newi mt42 dX6_init_87 hn
theorem s42_89 (hT : gT h o = some (8, 12)) : aW d 42 89 L (.ref o2 :: .ref o :: S) h Q = aW d 42 92 L S (pR h o 11 (.ref o2)) Q := ax_puta mt42 dX6_init_89 (by decide) ft_24619 (fun q => q.2 ⟨rfl, rfl, rfl⟩) fp_24619 hT
theorem s42_92 : aW d 42 92 L [] h Q = Q none h := ax_retv mt42 dX6_init_92 rfl
-- method 43: BufferRoom$Program.clear()V
theorem dX6_clear_0 : decode cX6_clear 0 = .ok (.aload_n 0, 1) := by decide +kernel
theorem dX6_clear_1 : decode cX6_clear 1 = .ok (.iconst 0, 1) := by decide +kernel
theorem dX6_clear_2 : decode cX6_clear 2 = .ok (.putfield 46, 3) := by decide +kernel
theorem dX6_clear_5 : decode cX6_clear 5 = .ok (.iconst 0, 1) := by decide +kernel
theorem dX6_clear_6 : decode cX6_clear 6 = .ok (.istore_n 1, 1) := by decide +kernel
theorem dX6_clear_7 : decode cX6_clear 7 = .ok (.iload_n 1, 1) := by decide +kernel
theorem dX6_clear_8 : decode cX6_clear 8 = .ok (.bipush 12, 2) := by decide +kernel
theorem dX6_clear_10 : decode cX6_clear 10 = .ok (.if_icmp .ge 37, 3) := by decide +kernel
theorem dX6_clear_13 : decode cX6_clear 13 = .ok (.aload_n 0, 1) := by decide +kernel
theorem dX6_clear_14 : decode cX6_clear 14 = .ok (.getfield 9, 3) := by decide +kernel
theorem dX6_clear_17 : decode cX6_clear 17 = .ok (.iload_n 1, 1) := by decide +kernel
theorem dX6_clear_18 : decode cX6_clear 18 = .ok (.iconst 0, 1) := by decide +kernel
theorem dX6_clear_19 : decode cX6_clear 19 = .ok (.iastore, 1) := by decide +kernel
theorem dX6_clear_20 : decode cX6_clear 20 = .ok (.aload_n 0, 1) := by decide +kernel
theorem dX6_clear_21 : decode cX6_clear 21 = .ok (.getfield 21, 3) := by decide +kernel
theorem dX6_clear_24 : decode cX6_clear 24 = .ok (.iload_n 1, 1) := by decide +kernel
theorem dX6_clear_25 : decode cX6_clear 25 = .ok (.iconst 0, 1) := by decide +kernel
theorem dX6_clear_26 : decode cX6_clear 26 = .ok (.bastore, 1) := by decide +kernel
theorem dX6_clear_27 : decode cX6_clear 27 = .ok (.aload_n 0, 1) := by decide +kernel
theorem dX6_clear_28 : decode cX6_clear 28 = .ok (.getfield 25, 3) := by decide +kernel
theorem dX6_clear_31 : decode cX6_clear 31 = .ok (.iload_n 1, 1) := by decide +kernel
theorem dX6_clear_32 : decode cX6_clear 32 = .ok (.iconst (-1), 1) := by decide +kernel
theorem dX6_clear_33 : decode cX6_clear 33 = .ok (.iastore, 1) := by decide +kernel
theorem dX6_clear_34 : decode cX6_clear 34 = .ok (.aload_n 0, 1) := by decide +kernel
theorem dX6_clear_35 : decode cX6_clear 35 = .ok (.getfield 28, 3) := by decide +kernel
theorem dX6_clear_38 : decode cX6_clear 38 = .ok (.iload_n 1, 1) := by decide +kernel
theorem dX6_clear_39 : decode cX6_clear 39 = .ok (.iconst 0, 1) := by decide +kernel
theorem dX6_clear_40 : decode cX6_clear 40 = .ok (.iastore, 1) := by decide +kernel
theorem dX6_clear_41 : decode cX6_clear 41 = .ok (.iinc 1 1, 3) := by decide +kernel
theorem dX6_clear_44 : decode cX6_clear 44 = .ok (.goto (-37), 3) := by decide +kernel
theorem dX6_clear_47 : decode cX6_clear 47 = .ok (.return_, 1) := by decide +kernel
theorem s43_0 : aW d 43 0 [.ref o, l1] S h Q = aW d 43 1 [.ref o, l1] (.ref o :: S) h Q := ax_aload_n mt43 dX6_clear_0 rfl
theorem s43_1 : aW d 43 1 L S h Q = aW d 43 2 L (.int (nI 0) :: S) h Q := ax_iconst mt43 dX6_clear_1 ic_0
theorem s43_2 (hT : gT h o = some (8, 12)) : aW d 43 2 L (.int a :: .ref o :: S) h Q = aW d 43 5 L S (pI h o 6 a) Q := ax_puti mt43 dX6_clear_2 (by decide) ft_24622 (fun q => fn_24622 q.1) fp_24622 hT
theorem s43_5 : aW d 43 5 L S h Q = aW d 43 6 L (.int (nI 0) :: S) h Q := ax_iconst mt43 dX6_clear_5 ic_0
theorem s43_6 : aW d 43 6 [l0, l1] (.int a :: S) h Q = aW d 43 7 [l0, .int a] S h Q := ax_istore_n mt43 dX6_clear_6 (Nat.le_of_ble_eq_true rfl) rfl
theorem s43_7 : aW d 43 7 [l0, .int a] S h Q = aW d 43 8 [l0, .int a] (.int a :: S) h Q := ax_iload_n mt43 dX6_clear_7 rfl
theorem s43_8 : aW d 43 8 L S h Q = aW d 43 10 L (.int (nI 12) :: S) h Q := ax_bipush mt43 dX6_clear_8 bp_12
theorem s43_10 : aW d 43 10 L (.int b :: .int a :: S) h Q = (if a < b then aW d 43 13 L S h Q else aW d 43 47 L S h Q) := ax_icmp_ge mt43 dX6_clear_10 (by decide)
theorem s43_13 : aW d 43 13 [.ref o, l1] S h Q = aW d 43 14 [.ref o, l1] (.ref o :: S) h Q := ax_aload_n mt43 dX6_clear_13 rfl
theorem s43_14 (hT : gT h o = some (8, 12)) : aW d 43 14 L (.ref o :: S) h Q = (isRf (gR h o 0) = true ∧ aW d 43 17 L (gR h o 0 :: S) h Q) := ax_geta mt43 dX6_clear_14 (by decide) ft_24585 fk_24585 hT
theorem s43_17 : aW d 43 17 [l0, .int a] S h Q = aW d 43 18 [l0, .int a] (.int a :: S) h Q := ax_iload_n mt43 dX6_clear_17 rfl
theorem s43_18 : aW d 43 18 L S h Q = aW d 43 19 L (.int (nI 0) :: S) h Q := ax_iconst mt43 dX6_clear_18 ic_0
theorem s43_19 : aW d 43 19 L (.int b :: .int a :: .ref o :: S) h Q = (inb a (aJ h o) ∧ aW d 43 20 L S (pI h o a.toNatClampNeg b) Q) := ax_iast mt43 dX6_clear_19
theorem s43_20 : aW d 43 20 [.ref o, l1] S h Q = aW d 43 21 [.ref o, l1] (.ref o :: S) h Q := ax_aload_n mt43 dX6_clear_20 rfl
theorem s43_21 (hT : gT h o = some (8, 12)) : aW d 43 21 L (.ref o :: S) h Q = (isRf (gR h o 3) = true ∧ aW d 43 24 L (gR h o 3 :: S) h Q) := ax_geta mt43 dX6_clear_21 (by decide) ft_24597 fk_24597 hT
theorem s43_24 : aW d 43 24 [l0, .int a] S h Q = aW d 43 25 [l0, .int a] (.int a :: S) h Q := ax_iload_n mt43 dX6_clear_24 rfl
theorem s43_25 : aW d 43 25 L S h Q = aW d 43 26 L (.int (nI 0) :: S) h Q := ax_iconst mt43 dX6_clear_25 ic_0
theorem s43_26 : aW d 43 26 L (.int b :: .int a :: .ref o :: S) h Q = ((inb a (aZ h o) ∧ b01 b) ∧ aW d 43 27 L S (pI h o a.toNatClampNeg b) Q) := ax_zast mt43 dX6_clear_26
theorem s43_27 : aW d 43 27 [.ref o, l1] S h Q = aW d 43 28 [.ref o, l1] (.ref o :: S) h Q := ax_aload_n mt43 dX6_clear_27 rfl
theorem s43_28 (hT : gT h o = some (8, 12)) : aW d 43 28 L (.ref o :: S) h Q = (isRf (gR h o 4) = true ∧ aW d 43 31 L (gR h o 4 :: S) h Q) := ax_geta mt43 dX6_clear_28 (by decide) ft_24601 fk_24601 hT
theorem s43_31 : aW d 43 31 [l0, .int a] S h Q = aW d 43 32 [l0, .int a] (.int a :: S) h Q := ax_iload_n mt43 dX6_clear_31 rfl
theorem s43_32 : aW d 43 32 L S h Q = aW d 43 33 L (.int ((-1)) :: S) h Q := ax_iconst mt43 dX6_clear_32 ic_m1
theorem s43_33 : aW d 43 33 L (.int b :: .int a :: .ref o :: S) h Q = (inb a (aJ h o) ∧ aW d 43 34 L S (pI h o a.toNatClampNeg b) Q) := ax_iast mt43 dX6_clear_33
theorem s43_34 : aW d 43 34 [.ref o, l1] S h Q = aW d 43 35 [.ref o, l1] (.ref o :: S) h Q := ax_aload_n mt43 dX6_clear_34 rfl
theorem s43_35 (hT : gT h o = some (8, 12)) : aW d 43 35 L (.ref o :: S) h Q = (isRf (gR h o 5) = true ∧ aW d 43 38 L (gR h o 5 :: S) h Q) := ax_geta mt43 dX6_clear_35 (by decide) ft_24604 fk_24604 hT
theorem s43_38 : aW d 43 38 [l0, .int a] S h Q = aW d 43 39 [l0, .int a] (.int a :: S) h Q := ax_iload_n mt43 dX6_clear_38 rfl
theorem s43_39 : aW d 43 39 L S h Q = aW d 43 40 L (.int (nI 0) :: S) h Q := ax_iconst mt43 dX6_clear_39 ic_0
theorem s43_40 : aW d 43 40 L (.int b :: .int a :: .ref o :: S) h Q = (inb a (aJ h o) ∧ aW d 43 41 L S (pI h o a.toNatClampNeg b) Q) := ax_iast mt43 dX6_clear_40
theorem s43_41 : aW d 43 41 [l0, .int a] S h Q = aW d 43 44 [l0, .int (a + nI 1)] S h Q := ax_iinc mt43 dX6_clear_41 rfl ic_1 rfl
theorem s43_44 : aW d 43 44 L S h Q = aW d 43 7 L S h Q := ax_goto mt43 dX6_clear_44 (by decide)
theorem s43_47 : aW d 43 47 L [] h Q = Q none h := ax_retv mt43 dX6_clear_47 rfl
-- method 44: BufferRoom$Program.has(I)Z
theorem dX6_has_0 : decode cX6_has 0 = .ok (.iload_n 1, 1) := by decide +kernel
theorem dX6_has_1 : decode cX6_has 1 = .ok (.ifCond .lt 22, 3) := by decide +kernel
theorem dX6_has_4 : decode cX6_has 4 = .ok (.iload_n 1, 1) := by decide +kernel
theorem dX6_has_5 : decode cX6_has 5 = .ok (.bipush 12, 2) := by decide +kernel
theorem dX6_has_7 : decode cX6_has 7 = .ok (.if_icmp .ge 16, 3) := by decide +kernel
theorem dX6_has_10 : decode cX6_has 10 = .ok (.aload_n 0, 1) := by decide +kernel
theorem dX6_has_11 : decode cX6_has 11 = .ok (.getfield 9, 3) := by decide +kernel
theorem dX6_has_14 : decode cX6_has 14 = .ok (.iload_n 1, 1) := by decide +kernel
theorem dX6_has_15 : decode cX6_has 15 = .ok (.iaload, 1) := by decide +kernel
theorem dX6_has_16 : decode cX6_has 16 = .ok (.ifCond .le 7, 3) := by decide +kernel
theorem dX6_has_19 : decode cX6_has 19 = .ok (.iconst 1, 1) := by decide +kernel
theorem dX6_has_20 : decode cX6_has 20 = .ok (.goto 4, 3) := by decide +kernel
theorem dX6_has_23 : decode cX6_has 23 = .ok (.iconst 0, 1) := by decide +kernel
theorem dX6_has_24 : decode cX6_has 24 = .ok (.ireturn, 1) := by decide +kernel
theorem s44_0 : aW d 44 0 [l0, .int a] S h Q = aW d 44 1 [l0, .int a] (.int a :: S) h Q := ax_iload_n mt44 dX6_has_0 rfl
theorem s44_1 : aW d 44 1 L (.int a :: S) h Q = (if a < 0 then aW d 44 23 L S h Q else aW d 44 4 L S h Q) := ax_if_lt mt44 dX6_has_1 (by decide)
theorem s44_4 : aW d 44 4 [l0, .int a] S h Q = aW d 44 5 [l0, .int a] (.int a :: S) h Q := ax_iload_n mt44 dX6_has_4 rfl
theorem s44_5 : aW d 44 5 L S h Q = aW d 44 7 L (.int (nI 12) :: S) h Q := ax_bipush mt44 dX6_has_5 bp_12
theorem s44_7 : aW d 44 7 L (.int b :: .int a :: S) h Q = (if a < b then aW d 44 10 L S h Q else aW d 44 23 L S h Q) := ax_icmp_ge mt44 dX6_has_7 (by decide)
theorem s44_10 : aW d 44 10 [.ref o, l1] S h Q = aW d 44 11 [.ref o, l1] (.ref o :: S) h Q := ax_aload_n mt44 dX6_has_10 rfl
theorem s44_11 (hT : gT h o = some (8, 12)) : aW d 44 11 L (.ref o :: S) h Q = (isRf (gR h o 0) = true ∧ aW d 44 14 L (gR h o 0 :: S) h Q) := ax_geta mt44 dX6_has_11 (by decide) ft_24585 fk_24585 hT
theorem s44_14 : aW d 44 14 [l0, .int a] S h Q = aW d 44 15 [l0, .int a] (.int a :: S) h Q := ax_iload_n mt44 dX6_has_14 rfl
theorem s44_15 : aW d 44 15 L (.int a :: .ref o :: S) h Q = (inb a (aI h o) ∧ aW d 44 16 L (.int (gI h o a.toNatClampNeg) :: S) h Q) := ax_iald mt44 dX6_has_15
theorem s44_16 : aW d 44 16 L (.int a :: S) h Q = (if 0 < a then aW d 44 19 L S h Q else aW d 44 23 L S h Q) := ax_if_le mt44 dX6_has_16 (by decide)
theorem s44_19 : aW d 44 19 L S h Q = aW d 44 20 L (.int (nI 1) :: S) h Q := ax_iconst mt44 dX6_has_19 ic_1
theorem s44_20 : aW d 44 20 L S h Q = aW d 44 24 L S h Q := ax_goto mt44 dX6_has_20 (by decide)
theorem s44_24 : aW d 44 24 L [.int a] h Q = (b01 a ∧ Q (some (.int a)) h) := ax_retz mt44 dX6_has_24 rfl
theorem s44_23 : aW d 44 23 L S h Q = aW d 44 24 L (.int (nI 0) :: S) h Q := ax_iconst mt44 dX6_has_23 ic_0
-- method 45: BufferRoom$Program.hasStep(I)Z
theorem dX6_hasStep_0 : decode cX6_hasStep 0 = .ok (.iload_n 1, 1) := by decide +kernel
theorem dX6_hasStep_1 : decode cX6_hasStep 1 = .ok (.ifCond .lt 15, 3) := by decide +kernel
theorem dX6_hasStep_4 : decode cX6_hasStep 4 = .ok (.iload_n 1, 1) := by decide +kernel
theorem dX6_hasStep_5 : decode cX6_hasStep 5 = .ok (.aload_n 0, 1) := by decide +kernel
theorem dX6_hasStep_6 : decode cX6_hasStep 6 = .ok (.getfield 46, 3) := by decide +kernel
theorem dX6_hasStep_9 : decode cX6_hasStep 9 = .ok (.if_icmp .ge 7, 3) := by decide +kernel
theorem dX6_hasStep_12 : decode cX6_hasStep 12 = .ok (.iconst 1, 1) := by decide +kernel
theorem dX6_hasStep_13 : decode cX6_hasStep 13 = .ok (.goto 4, 3) := by decide +kernel
theorem dX6_hasStep_16 : decode cX6_hasStep 16 = .ok (.iconst 0, 1) := by decide +kernel
theorem dX6_hasStep_17 : decode cX6_hasStep 17 = .ok (.ireturn, 1) := by decide +kernel
theorem s45_0 : aW d 45 0 [l0, .int a] S h Q = aW d 45 1 [l0, .int a] (.int a :: S) h Q := ax_iload_n mt45 dX6_hasStep_0 rfl
theorem s45_1 : aW d 45 1 L (.int a :: S) h Q = (if a < 0 then aW d 45 16 L S h Q else aW d 45 4 L S h Q) := ax_if_lt mt45 dX6_hasStep_1 (by decide)
theorem s45_4 : aW d 45 4 [l0, .int a] S h Q = aW d 45 5 [l0, .int a] (.int a :: S) h Q := ax_iload_n mt45 dX6_hasStep_4 rfl
theorem s45_5 : aW d 45 5 [.ref o, l1] S h Q = aW d 45 6 [.ref o, l1] (.ref o :: S) h Q := ax_aload_n mt45 dX6_hasStep_5 rfl
theorem s45_6 (hT : gT h o = some (8, 12)) : aW d 45 6 L (.ref o :: S) h Q = aW d 45 9 L (.int (gI h o 6) :: S) h Q := ax_geti mt45 dX6_hasStep_6 (by decide) ft_24622 fk_24622 hT
theorem s45_9 : aW d 45 9 L (.int b :: .int a :: S) h Q = (if a < b then aW d 45 12 L S h Q else aW d 45 16 L S h Q) := ax_icmp_ge mt45 dX6_hasStep_9 (by decide)
theorem s45_12 : aW d 45 12 L S h Q = aW d 45 13 L (.int (nI 1) :: S) h Q := ax_iconst mt45 dX6_hasStep_12 ic_1
theorem s45_13 : aW d 45 13 L S h Q = aW d 45 17 L S h Q := ax_goto mt45 dX6_hasStep_13 (by decide)
theorem s45_17 : aW d 45 17 L [.int a] h Q = (b01 a ∧ Q (some (.int a)) h) := ax_retz mt45 dX6_hasStep_17 rfl
theorem s45_16 : aW d 45 16 L S h Q = aW d 45 17 L (.int (nI 0) :: S) h Q := ax_iconst mt45 dX6_hasStep_16 ic_0
-- method 46: BufferRoom$Program.addTerm(III)V
theorem dX6_addTerm_0 : decode cX6_addTerm 0 = .ok (.aload_n 0, 1) := by decide +kernel
theorem dX6_addTerm_1 : decode cX6_addTerm 1 = .ok (.getfield 9, 3) := by decide +kernel
theorem dX6_addTerm_4 : decode cX6_addTerm 4 = .ok (.iload_n 1, 1) := by decide +kernel
theorem dX6_addTerm_5 : decode cX6_addTerm 5 = .ok (.iaload, 1) := by decide +kernel
theorem dX6_addTerm_6 : decode cX6_addTerm 6 = .ok (.iconst 4, 1) := by decide +kernel
theorem dX6_addTerm_7 : decode cX6_addTerm 7 = .ok (.if_icmp .ge 41, 3) := by decide +kernel
theorem dX6_addTerm_10 : decode cX6_addTerm 10 = .ok (.iload_n 1, 1) := by decide +kernel
theorem dX6_addTerm_11 : decode cX6_addTerm 11 = .ok (.iconst 4, 1) := by decide +kernel
theorem dX6_addTerm_12 : decode cX6_addTerm 12 = .ok (.imul, 1) := by decide +kernel
theorem dX6_addTerm_13 : decode cX6_addTerm 13 = .ok (.aload_n 0, 1) := by decide +kernel
theorem dX6_addTerm_14 : decode cX6_addTerm 14 = .ok (.getfield 9, 3) := by decide +kernel
theorem dX6_addTerm_17 : decode cX6_addTerm 17 = .ok (.iload_n 1, 1) := by decide +kernel
theorem dX6_addTerm_18 : decode cX6_addTerm 18 = .ok (.iaload, 1) := by decide +kernel
theorem dX6_addTerm_19 : decode cX6_addTerm 19 = .ok (.iadd, 1) := by decide +kernel
theorem dX6_addTerm_20 : decode cX6_addTerm 20 = .ok (.istore 4, 2) := by decide +kernel
theorem dX6_addTerm_22 : decode cX6_addTerm 22 = .ok (.aload_n 0, 1) := by decide +kernel
theorem dX6_addTerm_23 : decode cX6_addTerm 23 = .ok (.getfield 15, 3) := by decide +kernel
theorem dX6_addTerm_26 : decode cX6_addTerm 26 = .ok (.iload 4, 2) := by decide +kernel
theorem dX6_addTerm_28 : decode cX6_addTerm 28 = .ok (.iload_n 2, 1) := by decide +kernel
theorem dX6_addTerm_29 : decode cX6_addTerm 29 = .ok (.iastore, 1) := by decide +kernel
theorem dX6_addTerm_30 : decode cX6_addTerm 30 = .ok (.aload_n 0, 1) := by decide +kernel
theorem dX6_addTerm_31 : decode cX6_addTerm 31 = .ok (.getfield 18, 3) := by decide +kernel
theorem dX6_addTerm_34 : decode cX6_addTerm 34 = .ok (.iload 4, 2) := by decide +kernel
theorem dX6_addTerm_36 : decode cX6_addTerm 36 = .ok (.iload_n 3, 1) := by decide +kernel
theorem dX6_addTerm_37 : decode cX6_addTerm 37 = .ok (.iastore, 1) := by decide +kernel
theorem dX6_addTerm_38 : decode cX6_addTerm 38 = .ok (.aload_n 0, 1) := by decide +kernel
theorem dX6_addTerm_39 : decode cX6_addTerm 39 = .ok (.getfield 9, 3) := by decide +kernel
theorem dX6_addTerm_42 : decode cX6_addTerm 42 = .ok (.iload_n 1, 1) := by decide +kernel
theorem dX6_addTerm_43 : decode cX6_addTerm 43 = .ok (.dup2, 1) := by decide +kernel
theorem dX6_addTerm_44 : decode cX6_addTerm 44 = .ok (.iaload, 1) := by decide +kernel
theorem dX6_addTerm_45 : decode cX6_addTerm 45 = .ok (.iconst 1, 1) := by decide +kernel
theorem dX6_addTerm_46 : decode cX6_addTerm 46 = .ok (.iadd, 1) := by decide +kernel
theorem dX6_addTerm_47 : decode cX6_addTerm 47 = .ok (.iastore, 1) := by decide +kernel
theorem dX6_addTerm_48 : decode cX6_addTerm 48 = .ok (.return_, 1) := by decide +kernel
theorem s46_0 : aW d 46 0 [.ref o, l1, l2, l3, l4] S h Q = aW d 46 1 [.ref o, l1, l2, l3, l4] (.ref o :: S) h Q := ax_aload_n mt46 dX6_addTerm_0 rfl
theorem s46_1 (hT : gT h o = some (8, 12)) : aW d 46 1 L (.ref o :: S) h Q = (isRf (gR h o 0) = true ∧ aW d 46 4 L (gR h o 0 :: S) h Q) := ax_geta mt46 dX6_addTerm_1 (by decide) ft_24585 fk_24585 hT
theorem s46_4 : aW d 46 4 [l0, .int a, l2, l3, l4] S h Q = aW d 46 5 [l0, .int a, l2, l3, l4] (.int a :: S) h Q := ax_iload_n mt46 dX6_addTerm_4 rfl
theorem s46_5 : aW d 46 5 L (.int a :: .ref o :: S) h Q = (inb a (aI h o) ∧ aW d 46 6 L (.int (gI h o a.toNatClampNeg) :: S) h Q) := ax_iald mt46 dX6_addTerm_5
theorem s46_6 : aW d 46 6 L S h Q = aW d 46 7 L (.int (nI 4) :: S) h Q := ax_iconst mt46 dX6_addTerm_6 ic_4
theorem s46_7 : aW d 46 7 L (.int b :: .int a :: S) h Q = (if a < b then aW d 46 10 L S h Q else aW d 46 48 L S h Q) := ax_icmp_ge mt46 dX6_addTerm_7 (by decide)
theorem s46_10 : aW d 46 10 [l0, .int a, l2, l3, l4] S h Q = aW d 46 11 [l0, .int a, l2, l3, l4] (.int a :: S) h Q := ax_iload_n mt46 dX6_addTerm_10 rfl
theorem s46_11 : aW d 46 11 L S h Q = aW d 46 12 L (.int (nI 4) :: S) h Q := ax_iconst mt46 dX6_addTerm_11 ic_4
theorem s46_12 : aW d 46 12 L (.int b :: .int a :: S) h Q = aW d 46 13 L (.int (a * b) :: S) h Q := ax_imul mt46 dX6_addTerm_12
theorem s46_13 : aW d 46 13 [.ref o, l1, l2, l3, l4] S h Q = aW d 46 14 [.ref o, l1, l2, l3, l4] (.ref o :: S) h Q := ax_aload_n mt46 dX6_addTerm_13 rfl
theorem s46_14 (hT : gT h o = some (8, 12)) : aW d 46 14 L (.ref o :: S) h Q = (isRf (gR h o 0) = true ∧ aW d 46 17 L (gR h o 0 :: S) h Q) := ax_geta mt46 dX6_addTerm_14 (by decide) ft_24585 fk_24585 hT
theorem s46_17 : aW d 46 17 [l0, .int a, l2, l3, l4] S h Q = aW d 46 18 [l0, .int a, l2, l3, l4] (.int a :: S) h Q := ax_iload_n mt46 dX6_addTerm_17 rfl
theorem s46_18 : aW d 46 18 L (.int a :: .ref o :: S) h Q = (inb a (aI h o) ∧ aW d 46 19 L (.int (gI h o a.toNatClampNeg) :: S) h Q) := ax_iald mt46 dX6_addTerm_18
theorem s46_19 : aW d 46 19 L (.int b :: .int a :: S) h Q = aW d 46 20 L (.int (a + b) :: S) h Q := ax_iadd mt46 dX6_addTerm_19
theorem s46_20 : aW d 46 20 [l0, l1, l2, l3, l4] (.int a :: S) h Q = aW d 46 22 [l0, l1, l2, l3, .int a] S h Q := ax_istore mt46 dX6_addTerm_20 (Nat.le_of_ble_eq_true rfl) rfl
theorem s46_22 : aW d 46 22 [.ref o, l1, l2, l3, l4] S h Q = aW d 46 23 [.ref o, l1, l2, l3, l4] (.ref o :: S) h Q := ax_aload_n mt46 dX6_addTerm_22 rfl
theorem s46_23 (hT : gT h o = some (8, 12)) : aW d 46 23 L (.ref o :: S) h Q = (isRf (gR h o 1) = true ∧ aW d 46 26 L (gR h o 1 :: S) h Q) := ax_geta mt46 dX6_addTerm_23 (by decide) ft_24591 fk_24591 hT
theorem s46_26 : aW d 46 26 [l0, l1, l2, l3, .int a] S h Q = aW d 46 28 [l0, l1, l2, l3, .int a] (.int a :: S) h Q := ax_iload mt46 dX6_addTerm_26 rfl
theorem s46_28 : aW d 46 28 [l0, l1, .int a, l3, l4] S h Q = aW d 46 29 [l0, l1, .int a, l3, l4] (.int a :: S) h Q := ax_iload_n mt46 dX6_addTerm_28 rfl
theorem s46_29 : aW d 46 29 L (.int b :: .int a :: .ref o :: S) h Q = (inb a (aJ h o) ∧ aW d 46 30 L S (pI h o a.toNatClampNeg b) Q) := ax_iast mt46 dX6_addTerm_29
theorem s46_30 : aW d 46 30 [.ref o, l1, l2, l3, l4] S h Q = aW d 46 31 [.ref o, l1, l2, l3, l4] (.ref o :: S) h Q := ax_aload_n mt46 dX6_addTerm_30 rfl
theorem s46_31 (hT : gT h o = some (8, 12)) : aW d 46 31 L (.ref o :: S) h Q = (isRf (gR h o 2) = true ∧ aW d 46 34 L (gR h o 2 :: S) h Q) := ax_geta mt46 dX6_addTerm_31 (by decide) ft_24594 fk_24594 hT
theorem s46_34 : aW d 46 34 [l0, l1, l2, l3, .int a] S h Q = aW d 46 36 [l0, l1, l2, l3, .int a] (.int a :: S) h Q := ax_iload mt46 dX6_addTerm_34 rfl
theorem s46_36 : aW d 46 36 [l0, l1, l2, .int a, l4] S h Q = aW d 46 37 [l0, l1, l2, .int a, l4] (.int a :: S) h Q := ax_iload_n mt46 dX6_addTerm_36 rfl
theorem s46_37 : aW d 46 37 L (.int b :: .int a :: .ref o :: S) h Q = (inb a (aJ h o) ∧ aW d 46 38 L S (pI h o a.toNatClampNeg b) Q) := ax_iast mt46 dX6_addTerm_37
theorem s46_38 : aW d 46 38 [.ref o, l1, l2, l3, l4] S h Q = aW d 46 39 [.ref o, l1, l2, l3, l4] (.ref o :: S) h Q := ax_aload_n mt46 dX6_addTerm_38 rfl
theorem s46_39 (hT : gT h o = some (8, 12)) : aW d 46 39 L (.ref o :: S) h Q = (isRf (gR h o 0) = true ∧ aW d 46 42 L (gR h o 0 :: S) h Q) := ax_geta mt46 dX6_addTerm_39 (by decide) ft_24585 fk_24585 hT
theorem s46_42 : aW d 46 42 [l0, .int a, l2, l3, l4] S h Q = aW d 46 43 [l0, .int a, l2, l3, l4] (.int a :: S) h Q := ax_iload_n mt46 dX6_addTerm_42 rfl
theorem s46_43 : aW d 46 43 L (.int a :: .ref o :: S) h Q = aW d 46 44 L (.int a :: .ref o :: .int a :: .ref o :: S) h Q := ax_dup2 mt46 dX6_addTerm_43
theorem s46_44 : aW d 46 44 L (.int a :: .ref o :: S) h Q = (inb a (aI h o) ∧ aW d 46 45 L (.int (gI h o a.toNatClampNeg) :: S) h Q) := ax_iald mt46 dX6_addTerm_44
theorem s46_45 : aW d 46 45 L S h Q = aW d 46 46 L (.int (nI 1) :: S) h Q := ax_iconst mt46 dX6_addTerm_45 ic_1
theorem s46_46 : aW d 46 46 L (.int b :: .int a :: S) h Q = aW d 46 47 L (.int (a + b) :: S) h Q := ax_iadd mt46 dX6_addTerm_46
theorem s46_47 : aW d 46 47 L (.int b :: .int a :: .ref o :: S) h Q = (inb a (aJ h o) ∧ aW d 46 48 L S (pI h o a.toNatClampNeg b) Q) := ax_iast mt46 dX6_addTerm_47
theorem s46_48 : aW d 46 48 L [] h Q = Q none h := ax_retv mt46 dX6_addTerm_48 rfl
-- method 47: BufferRoom$Program.addStep(I)I
theorem dX6_addStep_0 : decode cX6_addStep 0 = .ok (.aload_n 0, 1) := by decide +kernel
theorem dX6_addStep_1 : decode cX6_addStep 1 = .ok (.getfield 46, 3) := by decide +kernel
theorem dX6_addStep_4 : decode cX6_addStep 4 = .ok (.istore_n 2, 1) := by decide +kernel
theorem dX6_addStep_5 : decode cX6_addStep 5 = .ok (.aload_n 0, 1) := by decide +kernel
theorem dX6_addStep_6 : decode cX6_addStep 6 = .ok (.getfield 31, 3) := by decide +kernel
theorem dX6_addStep_9 : decode cX6_addStep 9 = .ok (.iload_n 2, 1) := by decide +kernel
theorem dX6_addStep_10 : decode cX6_addStep 10 = .ok (.iload_n 1, 1) := by decide +kernel
theorem dX6_addStep_11 : decode cX6_addStep 11 = .ok (.iastore, 1) := by decide +kernel
theorem dX6_addStep_12 : decode cX6_addStep 12 = .ok (.aload_n 0, 1) := by decide +kernel
theorem dX6_addStep_13 : decode cX6_addStep 13 = .ok (.getfield 40, 3) := by decide +kernel
theorem dX6_addStep_16 : decode cX6_addStep 16 = .ok (.iload_n 2, 1) := by decide +kernel
theorem dX6_addStep_17 : decode cX6_addStep 17 = .ok (.iconst 0, 1) := by decide +kernel
theorem dX6_addStep_18 : decode cX6_addStep 18 = .ok (.iastore, 1) := by decide +kernel
theorem dX6_addStep_19 : decode cX6_addStep 19 = .ok (.aload_n 0, 1) := by decide +kernel
theorem dX6_addStep_20 : decode cX6_addStep 20 = .ok (.dup, 1) := by decide +kernel
theorem dX6_addStep_21 : decode cX6_addStep 21 = .ok (.getfield 46, 3) := by decide +kernel
theorem dX6_addStep_24 : decode cX6_addStep 24 = .ok (.iconst 1, 1) := by decide +kernel
theorem dX6_addStep_25 : decode cX6_addStep 25 = .ok (.iadd, 1) := by decide +kernel
theorem dX6_addStep_26 : decode cX6_addStep 26 = .ok (.putfield 46, 3) := by decide +kernel
theorem dX6_addStep_29 : decode cX6_addStep 29 = .ok (.iload_n 2, 1) := by decide +kernel
theorem dX6_addStep_30 : decode cX6_addStep 30 = .ok (.ireturn, 1) := by decide +kernel
theorem s47_0 : aW d 47 0 [.ref o, l1, l2] S h Q = aW d 47 1 [.ref o, l1, l2] (.ref o :: S) h Q := ax_aload_n mt47 dX6_addStep_0 rfl
theorem s47_1 (hT : gT h o = some (8, 12)) : aW d 47 1 L (.ref o :: S) h Q = aW d 47 4 L (.int (gI h o 6) :: S) h Q := ax_geti mt47 dX6_addStep_1 (by decide) ft_24622 fk_24622 hT
theorem s47_4 : aW d 47 4 [l0, l1, l2] (.int a :: S) h Q = aW d 47 5 [l0, l1, .int a] S h Q := ax_istore_n mt47 dX6_addStep_4 (Nat.le_of_ble_eq_true rfl) rfl
theorem s47_5 : aW d 47 5 [.ref o, l1, l2] S h Q = aW d 47 6 [.ref o, l1, l2] (.ref o :: S) h Q := ax_aload_n mt47 dX6_addStep_5 rfl
theorem s47_6 (hT : gT h o = some (8, 12)) : aW d 47 6 L (.ref o :: S) h Q = (isRf (gR h o 7) = true ∧ aW d 47 9 L (gR h o 7 :: S) h Q) := ax_geta mt47 dX6_addStep_6 (by decide) ft_24607 fk_24607 hT
theorem s47_9 : aW d 47 9 [l0, l1, .int a] S h Q = aW d 47 10 [l0, l1, .int a] (.int a :: S) h Q := ax_iload_n mt47 dX6_addStep_9 rfl
theorem s47_10 : aW d 47 10 [l0, .int a, l2] S h Q = aW d 47 11 [l0, .int a, l2] (.int a :: S) h Q := ax_iload_n mt47 dX6_addStep_10 rfl
theorem s47_11 : aW d 47 11 L (.int b :: .int a :: .ref o :: S) h Q = (inb a (aJ h o) ∧ aW d 47 12 L S (pI h o a.toNatClampNeg b) Q) := ax_iast mt47 dX6_addStep_11
theorem s47_12 : aW d 47 12 [.ref o, l1, l2] S h Q = aW d 47 13 [.ref o, l1, l2] (.ref o :: S) h Q := ax_aload_n mt47 dX6_addStep_12 rfl
theorem s47_13 (hT : gT h o = some (8, 12)) : aW d 47 13 L (.ref o :: S) h Q = (isRf (gR h o 10) = true ∧ aW d 47 16 L (gR h o 10 :: S) h Q) := ax_geta mt47 dX6_addStep_13 (by decide) ft_24616 fk_24616 hT
theorem s47_16 : aW d 47 16 [l0, l1, .int a] S h Q = aW d 47 17 [l0, l1, .int a] (.int a :: S) h Q := ax_iload_n mt47 dX6_addStep_16 rfl
theorem s47_17 : aW d 47 17 L S h Q = aW d 47 18 L (.int (nI 0) :: S) h Q := ax_iconst mt47 dX6_addStep_17 ic_0
theorem s47_18 : aW d 47 18 L (.int b :: .int a :: .ref o :: S) h Q = (inb a (aJ h o) ∧ aW d 47 19 L S (pI h o a.toNatClampNeg b) Q) := ax_iast mt47 dX6_addStep_18
theorem s47_19 : aW d 47 19 [.ref o, l1, l2] S h Q = aW d 47 20 [.ref o, l1, l2] (.ref o :: S) h Q := ax_aload_n mt47 dX6_addStep_19 rfl
theorem s47_20 : aW d 47 20 L (.ref o :: S) h Q = aW d 47 21 L (.ref o :: .ref o :: S) h Q := ax_dupa mt47 dX6_addStep_20
theorem s47_21 (hT : gT h o = some (8, 12)) : aW d 47 21 L (.ref o :: S) h Q = aW d 47 24 L (.int (gI h o 6) :: S) h Q := ax_geti mt47 dX6_addStep_21 (by decide) ft_24622 fk_24622 hT
theorem s47_24 : aW d 47 24 L S h Q = aW d 47 25 L (.int (nI 1) :: S) h Q := ax_iconst mt47 dX6_addStep_24 ic_1
theorem s47_25 : aW d 47 25 L (.int b :: .int a :: S) h Q = aW d 47 26 L (.int (a + b) :: S) h Q := ax_iadd mt47 dX6_addStep_25
theorem s47_26 (hT : gT h o = some (8, 12)) : aW d 47 26 L (.int a :: .ref o :: S) h Q = aW d 47 29 L S (pI h o 6 a) Q := ax_puti mt47 dX6_addStep_26 (by decide) ft_24622 (fun q => fn_24622 q.1) fp_24622 hT
theorem s47_29 : aW d 47 29 [l0, l1, .int a] S h Q = aW d 47 30 [l0, l1, .int a] (.int a :: S) h Q := ax_iload_n mt47 dX6_addStep_29 rfl
theorem s47_30 : aW d 47 30 L [.int a] h Q = Q (some (.int a)) h := ax_reti mt47 dX6_addStep_30 rfl
-- method 48: BufferRoom$Program.addRead(II)V
theorem dX6_addRead_0 : decode cX6_addRead 0 = .ok (.aload_n 0, 1) := by decide +kernel
theorem dX6_addRead_1 : decode cX6_addRead 1 = .ok (.getfield 40, 3) := by decide +kernel
theorem dX6_addRead_4 : decode cX6_addRead 4 = .ok (.iload_n 1, 1) := by decide +kernel
theorem dX6_addRead_5 : decode cX6_addRead 5 = .ok (.iaload, 1) := by decide +kernel
theorem dX6_addRead_6 : decode cX6_addRead 6 = .ok (.iconst 4, 1) := by decide +kernel
theorem dX6_addRead_7 : decode cX6_addRead 7 = .ok (.if_icmp .ge 41, 3) := by decide +kernel
theorem dX6_addRead_10 : decode cX6_addRead 10 = .ok (.aload_n 0, 1) := by decide +kernel
theorem dX6_addRead_11 : decode cX6_addRead 11 = .ok (.getfield 43, 3) := by decide +kernel
theorem dX6_addRead_14 : decode cX6_addRead 14 = .ok (.iload_n 1, 1) := by decide +kernel
theorem dX6_addRead_15 : decode cX6_addRead 15 = .ok (.iconst 4, 1) := by decide +kernel
theorem dX6_addRead_16 : decode cX6_addRead 16 = .ok (.imul, 1) := by decide +kernel
theorem dX6_addRead_17 : decode cX6_addRead 17 = .ok (.aload_n 0, 1) := by decide +kernel
theorem dX6_addRead_18 : decode cX6_addRead 18 = .ok (.getfield 40, 3) := by decide +kernel
theorem dX6_addRead_21 : decode cX6_addRead 21 = .ok (.iload_n 1, 1) := by decide +kernel
theorem dX6_addRead_22 : decode cX6_addRead 22 = .ok (.iaload, 1) := by decide +kernel
theorem dX6_addRead_23 : decode cX6_addRead 23 = .ok (.iadd, 1) := by decide +kernel
theorem dX6_addRead_24 : decode cX6_addRead 24 = .ok (.iload_n 2, 1) := by decide +kernel
theorem dX6_addRead_25 : decode cX6_addRead 25 = .ok (.iastore, 1) := by decide +kernel
theorem dX6_addRead_26 : decode cX6_addRead 26 = .ok (.aload_n 0, 1) := by decide +kernel
theorem dX6_addRead_27 : decode cX6_addRead 27 = .ok (.getfield 40, 3) := by decide +kernel
theorem dX6_addRead_30 : decode cX6_addRead 30 = .ok (.iload_n 1, 1) := by decide +kernel
theorem dX6_addRead_31 : decode cX6_addRead 31 = .ok (.dup2, 1) := by decide +kernel
theorem dX6_addRead_32 : decode cX6_addRead 32 = .ok (.iaload, 1) := by decide +kernel
theorem dX6_addRead_33 : decode cX6_addRead 33 = .ok (.iconst 1, 1) := by decide +kernel
theorem dX6_addRead_34 : decode cX6_addRead 34 = .ok (.iadd, 1) := by decide +kernel
theorem dX6_addRead_35 : decode cX6_addRead 35 = .ok (.iastore, 1) := by decide +kernel
theorem dX6_addRead_36 : decode cX6_addRead 36 = .ok (.aload_n 0, 1) := by decide +kernel
theorem dX6_addRead_37 : decode cX6_addRead 37 = .ok (.getfield 28, 3) := by decide +kernel
theorem dX6_addRead_40 : decode cX6_addRead 40 = .ok (.iload_n 2, 1) := by decide +kernel
theorem dX6_addRead_41 : decode cX6_addRead 41 = .ok (.dup2, 1) := by decide +kernel
theorem dX6_addRead_42 : decode cX6_addRead 42 = .ok (.iaload, 1) := by decide +kernel
theorem dX6_addRead_43 : decode cX6_addRead 43 = .ok (.iconst 1, 1) := by decide +kernel
theorem dX6_addRead_44 : decode cX6_addRead 44 = .ok (.iload_n 1, 1) := by decide +kernel
theorem dX6_addRead_45 : decode cX6_addRead 45 = .ok (.ishl, 1) := by decide +kernel
theorem dX6_addRead_46 : decode cX6_addRead 46 = .ok (.ior, 1) := by decide +kernel
theorem dX6_addRead_47 : decode cX6_addRead 47 = .ok (.iastore, 1) := by decide +kernel
theorem dX6_addRead_48 : decode cX6_addRead 48 = .ok (.return_, 1) := by decide +kernel
theorem s48_0 : aW d 48 0 [.ref o, l1, l2] S h Q = aW d 48 1 [.ref o, l1, l2] (.ref o :: S) h Q := ax_aload_n mt48 dX6_addRead_0 rfl
theorem s48_1 (hT : gT h o = some (8, 12)) : aW d 48 1 L (.ref o :: S) h Q = (isRf (gR h o 10) = true ∧ aW d 48 4 L (gR h o 10 :: S) h Q) := ax_geta mt48 dX6_addRead_1 (by decide) ft_24616 fk_24616 hT
theorem s48_4 : aW d 48 4 [l0, .int a, l2] S h Q = aW d 48 5 [l0, .int a, l2] (.int a :: S) h Q := ax_iload_n mt48 dX6_addRead_4 rfl
theorem s48_5 : aW d 48 5 L (.int a :: .ref o :: S) h Q = (inb a (aI h o) ∧ aW d 48 6 L (.int (gI h o a.toNatClampNeg) :: S) h Q) := ax_iald mt48 dX6_addRead_5
theorem s48_6 : aW d 48 6 L S h Q = aW d 48 7 L (.int (nI 4) :: S) h Q := ax_iconst mt48 dX6_addRead_6 ic_4
theorem s48_7 : aW d 48 7 L (.int b :: .int a :: S) h Q = (if a < b then aW d 48 10 L S h Q else aW d 48 48 L S h Q) := ax_icmp_ge mt48 dX6_addRead_7 (by decide)
theorem s48_10 : aW d 48 10 [.ref o, l1, l2] S h Q = aW d 48 11 [.ref o, l1, l2] (.ref o :: S) h Q := ax_aload_n mt48 dX6_addRead_10 rfl
theorem s48_11 (hT : gT h o = some (8, 12)) : aW d 48 11 L (.ref o :: S) h Q = (isRf (gR h o 11) = true ∧ aW d 48 14 L (gR h o 11 :: S) h Q) := ax_geta mt48 dX6_addRead_11 (by decide) ft_24619 fk_24619 hT
theorem s48_14 : aW d 48 14 [l0, .int a, l2] S h Q = aW d 48 15 [l0, .int a, l2] (.int a :: S) h Q := ax_iload_n mt48 dX6_addRead_14 rfl
theorem s48_15 : aW d 48 15 L S h Q = aW d 48 16 L (.int (nI 4) :: S) h Q := ax_iconst mt48 dX6_addRead_15 ic_4
theorem s48_16 : aW d 48 16 L (.int b :: .int a :: S) h Q = aW d 48 17 L (.int (a * b) :: S) h Q := ax_imul mt48 dX6_addRead_16
theorem s48_17 : aW d 48 17 [.ref o, l1, l2] S h Q = aW d 48 18 [.ref o, l1, l2] (.ref o :: S) h Q := ax_aload_n mt48 dX6_addRead_17 rfl
theorem s48_18 (hT : gT h o = some (8, 12)) : aW d 48 18 L (.ref o :: S) h Q = (isRf (gR h o 10) = true ∧ aW d 48 21 L (gR h o 10 :: S) h Q) := ax_geta mt48 dX6_addRead_18 (by decide) ft_24616 fk_24616 hT
theorem s48_21 : aW d 48 21 [l0, .int a, l2] S h Q = aW d 48 22 [l0, .int a, l2] (.int a :: S) h Q := ax_iload_n mt48 dX6_addRead_21 rfl
theorem s48_22 : aW d 48 22 L (.int a :: .ref o :: S) h Q = (inb a (aI h o) ∧ aW d 48 23 L (.int (gI h o a.toNatClampNeg) :: S) h Q) := ax_iald mt48 dX6_addRead_22
theorem s48_23 : aW d 48 23 L (.int b :: .int a :: S) h Q = aW d 48 24 L (.int (a + b) :: S) h Q := ax_iadd mt48 dX6_addRead_23
theorem s48_24 : aW d 48 24 [l0, l1, .int a] S h Q = aW d 48 25 [l0, l1, .int a] (.int a :: S) h Q := ax_iload_n mt48 dX6_addRead_24 rfl
theorem s48_25 : aW d 48 25 L (.int b :: .int a :: .ref o :: S) h Q = (inb a (aJ h o) ∧ aW d 48 26 L S (pI h o a.toNatClampNeg b) Q) := ax_iast mt48 dX6_addRead_25
theorem s48_26 : aW d 48 26 [.ref o, l1, l2] S h Q = aW d 48 27 [.ref o, l1, l2] (.ref o :: S) h Q := ax_aload_n mt48 dX6_addRead_26 rfl
theorem s48_27 (hT : gT h o = some (8, 12)) : aW d 48 27 L (.ref o :: S) h Q = (isRf (gR h o 10) = true ∧ aW d 48 30 L (gR h o 10 :: S) h Q) := ax_geta mt48 dX6_addRead_27 (by decide) ft_24616 fk_24616 hT
theorem s48_30 : aW d 48 30 [l0, .int a, l2] S h Q = aW d 48 31 [l0, .int a, l2] (.int a :: S) h Q := ax_iload_n mt48 dX6_addRead_30 rfl
theorem s48_31 : aW d 48 31 L (.int a :: .ref o :: S) h Q = aW d 48 32 L (.int a :: .ref o :: .int a :: .ref o :: S) h Q := ax_dup2 mt48 dX6_addRead_31
theorem s48_32 : aW d 48 32 L (.int a :: .ref o :: S) h Q = (inb a (aI h o) ∧ aW d 48 33 L (.int (gI h o a.toNatClampNeg) :: S) h Q) := ax_iald mt48 dX6_addRead_32
theorem s48_33 : aW d 48 33 L S h Q = aW d 48 34 L (.int (nI 1) :: S) h Q := ax_iconst mt48 dX6_addRead_33 ic_1
theorem s48_34 : aW d 48 34 L (.int b :: .int a :: S) h Q = aW d 48 35 L (.int (a + b) :: S) h Q := ax_iadd mt48 dX6_addRead_34
theorem s48_35 : aW d 48 35 L (.int b :: .int a :: .ref o :: S) h Q = (inb a (aJ h o) ∧ aW d 48 36 L S (pI h o a.toNatClampNeg b) Q) := ax_iast mt48 dX6_addRead_35
theorem s48_36 : aW d 48 36 [.ref o, l1, l2] S h Q = aW d 48 37 [.ref o, l1, l2] (.ref o :: S) h Q := ax_aload_n mt48 dX6_addRead_36 rfl
theorem s48_37 (hT : gT h o = some (8, 12)) : aW d 48 37 L (.ref o :: S) h Q = (isRf (gR h o 5) = true ∧ aW d 48 40 L (gR h o 5 :: S) h Q) := ax_geta mt48 dX6_addRead_37 (by decide) ft_24604 fk_24604 hT
theorem s48_40 : aW d 48 40 [l0, l1, .int a] S h Q = aW d 48 41 [l0, l1, .int a] (.int a :: S) h Q := ax_iload_n mt48 dX6_addRead_40 rfl
theorem s48_41 : aW d 48 41 L (.int a :: .ref o :: S) h Q = aW d 48 42 L (.int a :: .ref o :: .int a :: .ref o :: S) h Q := ax_dup2 mt48 dX6_addRead_41
theorem s48_42 : aW d 48 42 L (.int a :: .ref o :: S) h Q = (inb a (aI h o) ∧ aW d 48 43 L (.int (gI h o a.toNatClampNeg) :: S) h Q) := ax_iald mt48 dX6_addRead_42
theorem s48_43 : aW d 48 43 L S h Q = aW d 48 44 L (.int (nI 1) :: S) h Q := ax_iconst mt48 dX6_addRead_43 ic_1
theorem s48_44 : aW d 48 44 [l0, .int a, l2] S h Q = aW d 48 45 [l0, .int a, l2] (.int a :: S) h Q := ax_iload_n mt48 dX6_addRead_44 rfl
theorem s48_45 : aW d 48 45 L (.int b :: .int a :: S) h Q = aW d 48 46 L (.int (a <<< (b &&& 31)) :: S) h Q := ax_ishl mt48 dX6_addRead_45
theorem s48_46 : aW d 48 46 L (.int b :: .int a :: S) h Q = aW d 48 47 L (.int (a ||| b) :: S) h Q := ax_ior mt48 dX6_addRead_46
theorem s48_47 : aW d 48 47 L (.int b :: .int a :: .ref o :: S) h Q = (inb a (aJ h o) ∧ aW d 48 48 L S (pI h o a.toNatClampNeg b) Q) := ax_iast mt48 dX6_addRead_47
theorem s48_48 : aW d 48 48 L [] h Q = Q none h := ax_retv mt48 dX6_addRead_48 rfl
-- method 49: BufferRoom$Program.addWrite(II)V
theorem dX6_addWrite_0 : decode cX6_addWrite 0 = .ok (.aload_n 0, 1) := by decide +kernel
theorem dX6_addWrite_1 : decode cX6_addWrite 1 = .ok (.getfield 37, 3) := by decide +kernel
theorem dX6_addWrite_4 : decode cX6_addWrite 4 = .ok (.iload_n 1, 1) := by decide +kernel
theorem dX6_addWrite_5 : decode cX6_addWrite 5 = .ok (.iload_n 2, 1) := by decide +kernel
theorem dX6_addWrite_6 : decode cX6_addWrite 6 = .ok (.iastore, 1) := by decide +kernel
theorem dX6_addWrite_7 : decode cX6_addWrite 7 = .ok (.aload_n 0, 1) := by decide +kernel
theorem dX6_addWrite_8 : decode cX6_addWrite 8 = .ok (.getfield 25, 3) := by decide +kernel
theorem dX6_addWrite_11 : decode cX6_addWrite 11 = .ok (.iload_n 2, 1) := by decide +kernel
theorem dX6_addWrite_12 : decode cX6_addWrite 12 = .ok (.iload_n 1, 1) := by decide +kernel
theorem dX6_addWrite_13 : decode cX6_addWrite 13 = .ok (.iastore, 1) := by decide +kernel
theorem dX6_addWrite_14 : decode cX6_addWrite 14 = .ok (.return_, 1) := by decide +kernel
theorem s49_0 : aW d 49 0 [.ref o, l1, l2] S h Q = aW d 49 1 [.ref o, l1, l2] (.ref o :: S) h Q := ax_aload_n mt49 dX6_addWrite_0 rfl
theorem s49_1 (hT : gT h o = some (8, 12)) : aW d 49 1 L (.ref o :: S) h Q = (isRf (gR h o 9) = true ∧ aW d 49 4 L (gR h o 9 :: S) h Q) := ax_geta mt49 dX6_addWrite_1 (by decide) ft_24613 fk_24613 hT
theorem s49_4 : aW d 49 4 [l0, .int a, l2] S h Q = aW d 49 5 [l0, .int a, l2] (.int a :: S) h Q := ax_iload_n mt49 dX6_addWrite_4 rfl
theorem s49_5 : aW d 49 5 [l0, l1, .int a] S h Q = aW d 49 6 [l0, l1, .int a] (.int a :: S) h Q := ax_iload_n mt49 dX6_addWrite_5 rfl
theorem s49_6 : aW d 49 6 L (.int b :: .int a :: .ref o :: S) h Q = (inb a (aJ h o) ∧ aW d 49 7 L S (pI h o a.toNatClampNeg b) Q) := ax_iast mt49 dX6_addWrite_6
theorem s49_7 : aW d 49 7 [.ref o, l1, l2] S h Q = aW d 49 8 [.ref o, l1, l2] (.ref o :: S) h Q := ax_aload_n mt49 dX6_addWrite_7 rfl
theorem s49_8 (hT : gT h o = some (8, 12)) : aW d 49 8 L (.ref o :: S) h Q = (isRf (gR h o 4) = true ∧ aW d 49 11 L (gR h o 4 :: S) h Q) := ax_geta mt49 dX6_addWrite_8 (by decide) ft_24601 fk_24601 hT
theorem s49_11 : aW d 49 11 [l0, l1, .int a] S h Q = aW d 49 12 [l0, l1, .int a] (.int a :: S) h Q := ax_iload_n mt49 dX6_addWrite_11 rfl
theorem s49_12 : aW d 49 12 [l0, .int a, l2] S h Q = aW d 49 13 [l0, .int a, l2] (.int a :: S) h Q := ax_iload_n mt49 dX6_addWrite_12 rfl
theorem s49_13 : aW d 49 13 L (.int b :: .int a :: .ref o :: S) h Q = (inb a (aJ h o) ∧ aW d 49 14 L S (pI h o a.toNatClampNeg b) Q) := ax_iast mt49 dX6_addWrite_13
theorem s49_14 : aW d 49 14 L [] h Q = Q none h := ax_retv mt49 dX6_addWrite_14 rfl
-- method 50: BufferRoom$Program.isRead(II)Z
theorem dX6_isRead_0 : decode cX6_isRead 0 = .ok (.aload_n 0, 1) := by decide +kernel
theorem dX6_isRead_1 : decode cX6_isRead 1 = .ok (.getfield 28, 3) := by decide +kernel
theorem dX6_isRead_4 : decode cX6_isRead 4 = .ok (.iload_n 1, 1) := by decide +kernel
theorem dX6_isRead_5 : decode cX6_isRead 5 = .ok (.iaload, 1) := by decide +kernel
theorem dX6_isRead_6 : decode cX6_isRead 6 = .ok (.iload_n 2, 1) := by decide +kernel
theorem dX6_isRead_7 : decode cX6_isRead 7 = .ok (.ishr, 1) := by decide +kernel
theorem dX6_isRead_8 : decode cX6_isRead 8 = .ok (.iconst 1, 1) := by decide +kernel
theorem dX6_isRead_9 : decode cX6_isRead 9 = .ok (.iand, 1) := by decide +kernel
theorem dX6_isRead_10 : decode cX6_isRead 10 = .ok (.ifCond .eq 7, 3) := by decide +kernel
theorem dX6_isRead_13 : decode cX6_isRead 13 = .ok (.iconst 1, 1) := by decide +kernel
theorem dX6_isRead_14 : decode cX6_isRead 14 = .ok (.goto 4, 3) := by decide +kernel
theorem dX6_isRead_17 : decode cX6_isRead 17 = .ok (.iconst 0, 1) := by decide +kernel
theorem dX6_isRead_18 : decode cX6_isRead 18 = .ok (.ireturn, 1) := by decide +kernel
theorem s50_0 : aW d 50 0 [.ref o, l1, l2] S h Q = aW d 50 1 [.ref o, l1, l2] (.ref o :: S) h Q := ax_aload_n mt50 dX6_isRead_0 rfl
theorem s50_1 (hT : gT h o = some (8, 12)) : aW d 50 1 L (.ref o :: S) h Q = (isRf (gR h o 5) = true ∧ aW d 50 4 L (gR h o 5 :: S) h Q) := ax_geta mt50 dX6_isRead_1 (by decide) ft_24604 fk_24604 hT
theorem s50_4 : aW d 50 4 [l0, .int a, l2] S h Q = aW d 50 5 [l0, .int a, l2] (.int a :: S) h Q := ax_iload_n mt50 dX6_isRead_4 rfl
theorem s50_5 : aW d 50 5 L (.int a :: .ref o :: S) h Q = (inb a (aI h o) ∧ aW d 50 6 L (.int (gI h o a.toNatClampNeg) :: S) h Q) := ax_iald mt50 dX6_isRead_5
theorem s50_6 : aW d 50 6 [l0, l1, .int a] S h Q = aW d 50 7 [l0, l1, .int a] (.int a :: S) h Q := ax_iload_n mt50 dX6_isRead_6 rfl
theorem s50_7 : aW d 50 7 L (.int b :: .int a :: S) h Q = aW d 50 8 L (.int (a >>> (b &&& 31)) :: S) h Q := ax_ishr mt50 dX6_isRead_7
theorem s50_8 : aW d 50 8 L S h Q = aW d 50 9 L (.int (nI 1) :: S) h Q := ax_iconst mt50 dX6_isRead_8 ic_1
theorem s50_9 : aW d 50 9 L (.int b :: .int a :: S) h Q = aW d 50 10 L (.int (a &&& b) :: S) h Q := ax_iand mt50 dX6_isRead_9
theorem s50_10 : aW d 50 10 L (.int a :: S) h Q = (if a = 0 then aW d 50 17 L S h Q else aW d 50 13 L S h Q) := ax_if_eq mt50 dX6_isRead_10 (by decide)
theorem s50_13 : aW d 50 13 L S h Q = aW d 50 14 L (.int (nI 1) :: S) h Q := ax_iconst mt50 dX6_isRead_13 ic_1
theorem s50_14 : aW d 50 14 L S h Q = aW d 50 18 L S h Q := ax_goto mt50 dX6_isRead_14 (by decide)
theorem s50_18 : aW d 50 18 L [.int a] h Q = (b01 a ∧ Q (some (.int a)) h) := ax_retz mt50 dX6_isRead_18 rfl
theorem s50_17 : aW d 50 17 L S h Q = aW d 50 18 L (.int (nI 0) :: S) h Q := ax_iconst mt50 dX6_isRead_17 ic_0
-- method 51: BufferRoom$Program.sizeOf(I[I)I
theorem dX6_sizeOf_0 : decode cX6_sizeOf 0 = .ok (.iconst 0, 1) := by decide +kernel
theorem dX6_sizeOf_1 : decode cX6_sizeOf 1 = .ok (.istore_n 3, 1) := by decide +kernel
theorem dX6_sizeOf_2 : decode cX6_sizeOf 2 = .ok (.iload_n 1, 1) := by decide +kernel
theorem dX6_sizeOf_3 : decode cX6_sizeOf 3 = .ok (.iconst 4, 1) := by decide +kernel
theorem dX6_sizeOf_4 : decode cX6_sizeOf 4 = .ok (.imul, 1) := by decide +kernel
theorem dX6_sizeOf_5 : decode cX6_sizeOf 5 = .ok (.istore 4, 2) := by decide +kernel
theorem dX6_sizeOf_7 : decode cX6_sizeOf 7 = .ok (.iload 4, 2) := by decide +kernel
theorem dX6_sizeOf_9 : decode cX6_sizeOf 9 = .ok (.iload_n 1, 1) := by decide +kernel
theorem dX6_sizeOf_10 : decode cX6_sizeOf 10 = .ok (.iconst 4, 1) := by decide +kernel
theorem dX6_sizeOf_11 : decode cX6_sizeOf 11 = .ok (.imul, 1) := by decide +kernel
theorem dX6_sizeOf_12 : decode cX6_sizeOf 12 = .ok (.aload_n 0, 1) := by decide +kernel
theorem dX6_sizeOf_13 : decode cX6_sizeOf 13 = .ok (.getfield 9, 3) := by decide +kernel
theorem dX6_sizeOf_16 : decode cX6_sizeOf 16 = .ok (.iload_n 1, 1) := by decide +kernel
theorem dX6_sizeOf_17 : decode cX6_sizeOf 17 = .ok (.iaload, 1) := by decide +kernel
theorem dX6_sizeOf_18 : decode cX6_sizeOf 18 = .ok (.iadd, 1) := by decide +kernel
theorem dX6_sizeOf_19 : decode cX6_sizeOf 19 = .ok (.if_icmp .ge 49, 3) := by decide +kernel
theorem dX6_sizeOf_22 : decode cX6_sizeOf 22 = .ok (.iload_n 3, 1) := by decide +kernel
theorem dX6_sizeOf_23 : decode cX6_sizeOf 23 = .ok (.aload_n 0, 1) := by decide +kernel
theorem dX6_sizeOf_24 : decode cX6_sizeOf 24 = .ok (.getfield 18, 3) := by decide +kernel
theorem dX6_sizeOf_27 : decode cX6_sizeOf 27 = .ok (.iload 4, 2) := by decide +kernel
theorem dX6_sizeOf_29 : decode cX6_sizeOf 29 = .ok (.iaload, 1) := by decide +kernel
theorem dX6_sizeOf_30 : decode cX6_sizeOf 30 = .ok (.ifCond .ge 13, 3) := by decide +kernel
theorem dX6_sizeOf_33 : decode cX6_sizeOf 33 = .ok (.aload_n 0, 1) := by decide +kernel
theorem dX6_sizeOf_34 : decode cX6_sizeOf 34 = .ok (.getfield 15, 3) := by decide +kernel
theorem dX6_sizeOf_37 : decode cX6_sizeOf 37 = .ok (.iload 4, 2) := by decide +kernel
theorem dX6_sizeOf_39 : decode cX6_sizeOf 39 = .ok (.iaload, 1) := by decide +kernel
theorem dX6_sizeOf_40 : decode cX6_sizeOf 40 = .ok (.goto 20, 3) := by decide +kernel
theorem dX6_sizeOf_43 : decode cX6_sizeOf 43 = .ok (.aload_n 0, 1) := by decide +kernel
theorem dX6_sizeOf_44 : decode cX6_sizeOf 44 = .ok (.getfield 15, 3) := by decide +kernel
theorem dX6_sizeOf_47 : decode cX6_sizeOf 47 = .ok (.iload 4, 2) := by decide +kernel
theorem dX6_sizeOf_49 : decode cX6_sizeOf 49 = .ok (.iaload, 1) := by decide +kernel
theorem dX6_sizeOf_50 : decode cX6_sizeOf 50 = .ok (.aload_n 2, 1) := by decide +kernel
theorem dX6_sizeOf_51 : decode cX6_sizeOf 51 = .ok (.aload_n 0, 1) := by decide +kernel
theorem dX6_sizeOf_52 : decode cX6_sizeOf 52 = .ok (.getfield 18, 3) := by decide +kernel
theorem dX6_sizeOf_55 : decode cX6_sizeOf 55 = .ok (.iload 4, 2) := by decide +kernel
theorem dX6_sizeOf_57 : decode cX6_sizeOf 57 = .ok (.iaload, 1) := by decide +kernel
theorem dX6_sizeOf_58 : decode cX6_sizeOf 58 = .ok (.iaload, 1) := by decide +kernel
theorem dX6_sizeOf_59 : decode cX6_sizeOf 59 = .ok (.imul, 1) := by decide +kernel
theorem dX6_sizeOf_60 : decode cX6_sizeOf 60 = .ok (.iadd, 1) := by decide +kernel
theorem dX6_sizeOf_61 : decode cX6_sizeOf 61 = .ok (.istore_n 3, 1) := by decide +kernel
theorem dX6_sizeOf_62 : decode cX6_sizeOf 62 = .ok (.iinc 4 1, 3) := by decide +kernel
theorem dX6_sizeOf_65 : decode cX6_sizeOf 65 = .ok (.goto (-58), 3) := by decide +kernel
theorem dX6_sizeOf_68 : decode cX6_sizeOf 68 = .ok (.iload_n 3, 1) := by decide +kernel
theorem dX6_sizeOf_69 : decode cX6_sizeOf 69 = .ok (.ireturn, 1) := by decide +kernel
theorem s51_0 : aW d 51 0 L S h Q = aW d 51 1 L (.int (nI 0) :: S) h Q := ax_iconst mt51 dX6_sizeOf_0 ic_0
theorem s51_1 : aW d 51 1 [l0, l1, l2, l3, l4] (.int a :: S) h Q = aW d 51 2 [l0, l1, l2, .int a, l4] S h Q := ax_istore_n mt51 dX6_sizeOf_1 (Nat.le_of_ble_eq_true rfl) rfl
theorem s51_2 : aW d 51 2 [l0, .int a, l2, l3, l4] S h Q = aW d 51 3 [l0, .int a, l2, l3, l4] (.int a :: S) h Q := ax_iload_n mt51 dX6_sizeOf_2 rfl
theorem s51_3 : aW d 51 3 L S h Q = aW d 51 4 L (.int (nI 4) :: S) h Q := ax_iconst mt51 dX6_sizeOf_3 ic_4
theorem s51_4 : aW d 51 4 L (.int b :: .int a :: S) h Q = aW d 51 5 L (.int (a * b) :: S) h Q := ax_imul mt51 dX6_sizeOf_4
theorem s51_5 : aW d 51 5 [l0, l1, l2, l3, l4] (.int a :: S) h Q = aW d 51 7 [l0, l1, l2, l3, .int a] S h Q := ax_istore mt51 dX6_sizeOf_5 (Nat.le_of_ble_eq_true rfl) rfl
theorem s51_7 : aW d 51 7 [l0, l1, l2, l3, .int a] S h Q = aW d 51 9 [l0, l1, l2, l3, .int a] (.int a :: S) h Q := ax_iload mt51 dX6_sizeOf_7 rfl
theorem s51_9 : aW d 51 9 [l0, .int a, l2, l3, l4] S h Q = aW d 51 10 [l0, .int a, l2, l3, l4] (.int a :: S) h Q := ax_iload_n mt51 dX6_sizeOf_9 rfl
theorem s51_10 : aW d 51 10 L S h Q = aW d 51 11 L (.int (nI 4) :: S) h Q := ax_iconst mt51 dX6_sizeOf_10 ic_4
theorem s51_11 : aW d 51 11 L (.int b :: .int a :: S) h Q = aW d 51 12 L (.int (a * b) :: S) h Q := ax_imul mt51 dX6_sizeOf_11
theorem s51_12 : aW d 51 12 [.ref o, l1, l2, l3, l4] S h Q = aW d 51 13 [.ref o, l1, l2, l3, l4] (.ref o :: S) h Q := ax_aload_n mt51 dX6_sizeOf_12 rfl
theorem s51_13 (hT : gT h o = some (8, 12)) : aW d 51 13 L (.ref o :: S) h Q = (isRf (gR h o 0) = true ∧ aW d 51 16 L (gR h o 0 :: S) h Q) := ax_geta mt51 dX6_sizeOf_13 (by decide) ft_24585 fk_24585 hT
theorem s51_16 : aW d 51 16 [l0, .int a, l2, l3, l4] S h Q = aW d 51 17 [l0, .int a, l2, l3, l4] (.int a :: S) h Q := ax_iload_n mt51 dX6_sizeOf_16 rfl
theorem s51_17 : aW d 51 17 L (.int a :: .ref o :: S) h Q = (inb a (aI h o) ∧ aW d 51 18 L (.int (gI h o a.toNatClampNeg) :: S) h Q) := ax_iald mt51 dX6_sizeOf_17
theorem s51_18 : aW d 51 18 L (.int b :: .int a :: S) h Q = aW d 51 19 L (.int (a + b) :: S) h Q := ax_iadd mt51 dX6_sizeOf_18
theorem s51_19 : aW d 51 19 L (.int b :: .int a :: S) h Q = (if a < b then aW d 51 22 L S h Q else aW d 51 68 L S h Q) := ax_icmp_ge mt51 dX6_sizeOf_19 (by decide)
theorem s51_22 : aW d 51 22 [l0, l1, l2, .int a, l4] S h Q = aW d 51 23 [l0, l1, l2, .int a, l4] (.int a :: S) h Q := ax_iload_n mt51 dX6_sizeOf_22 rfl
theorem s51_23 : aW d 51 23 [.ref o, l1, l2, l3, l4] S h Q = aW d 51 24 [.ref o, l1, l2, l3, l4] (.ref o :: S) h Q := ax_aload_n mt51 dX6_sizeOf_23 rfl
theorem s51_24 (hT : gT h o = some (8, 12)) : aW d 51 24 L (.ref o :: S) h Q = (isRf (gR h o 2) = true ∧ aW d 51 27 L (gR h o 2 :: S) h Q) := ax_geta mt51 dX6_sizeOf_24 (by decide) ft_24594 fk_24594 hT
theorem s51_27 : aW d 51 27 [l0, l1, l2, l3, .int a] S h Q = aW d 51 29 [l0, l1, l2, l3, .int a] (.int a :: S) h Q := ax_iload mt51 dX6_sizeOf_27 rfl
theorem s51_29 : aW d 51 29 L (.int a :: .ref o :: S) h Q = (inb a (aI h o) ∧ aW d 51 30 L (.int (gI h o a.toNatClampNeg) :: S) h Q) := ax_iald mt51 dX6_sizeOf_29
theorem s51_30 : aW d 51 30 L (.int a :: S) h Q = (if a < 0 then aW d 51 33 L S h Q else aW d 51 43 L S h Q) := ax_if_ge mt51 dX6_sizeOf_30 (by decide)
theorem s51_33 : aW d 51 33 [.ref o, l1, l2, l3, l4] S h Q = aW d 51 34 [.ref o, l1, l2, l3, l4] (.ref o :: S) h Q := ax_aload_n mt51 dX6_sizeOf_33 rfl
theorem s51_34 (hT : gT h o = some (8, 12)) : aW d 51 34 L (.ref o :: S) h Q = (isRf (gR h o 1) = true ∧ aW d 51 37 L (gR h o 1 :: S) h Q) := ax_geta mt51 dX6_sizeOf_34 (by decide) ft_24591 fk_24591 hT
theorem s51_37 : aW d 51 37 [l0, l1, l2, l3, .int a] S h Q = aW d 51 39 [l0, l1, l2, l3, .int a] (.int a :: S) h Q := ax_iload mt51 dX6_sizeOf_37 rfl
theorem s51_39 : aW d 51 39 L (.int a :: .ref o :: S) h Q = (inb a (aI h o) ∧ aW d 51 40 L (.int (gI h o a.toNatClampNeg) :: S) h Q) := ax_iald mt51 dX6_sizeOf_39
theorem s51_40 : aW d 51 40 L S h Q = aW d 51 60 L S h Q := ax_goto mt51 dX6_sizeOf_40 (by decide)
theorem s51_60 : aW d 51 60 L (.int b :: .int a :: S) h Q = aW d 51 61 L (.int (a + b) :: S) h Q := ax_iadd mt51 dX6_sizeOf_60
theorem s51_61 : aW d 51 61 [l0, l1, l2, l3, l4] (.int a :: S) h Q = aW d 51 62 [l0, l1, l2, .int a, l4] S h Q := ax_istore_n mt51 dX6_sizeOf_61 (Nat.le_of_ble_eq_true rfl) rfl
theorem s51_62 : aW d 51 62 [l0, l1, l2, l3, .int a] S h Q = aW d 51 65 [l0, l1, l2, l3, .int (a + nI 1)] S h Q := ax_iinc mt51 dX6_sizeOf_62 rfl ic_1 rfl
theorem s51_65 : aW d 51 65 L S h Q = aW d 51 7 L S h Q := ax_goto mt51 dX6_sizeOf_65 (by decide)
theorem s51_43 : aW d 51 43 [.ref o, l1, l2, l3, l4] S h Q = aW d 51 44 [.ref o, l1, l2, l3, l4] (.ref o :: S) h Q := ax_aload_n mt51 dX6_sizeOf_43 rfl
theorem s51_44 (hT : gT h o = some (8, 12)) : aW d 51 44 L (.ref o :: S) h Q = (isRf (gR h o 1) = true ∧ aW d 51 47 L (gR h o 1 :: S) h Q) := ax_geta mt51 dX6_sizeOf_44 (by decide) ft_24591 fk_24591 hT
theorem s51_47 : aW d 51 47 [l0, l1, l2, l3, .int a] S h Q = aW d 51 49 [l0, l1, l2, l3, .int a] (.int a :: S) h Q := ax_iload mt51 dX6_sizeOf_47 rfl
theorem s51_49 : aW d 51 49 L (.int a :: .ref o :: S) h Q = (inb a (aI h o) ∧ aW d 51 50 L (.int (gI h o a.toNatClampNeg) :: S) h Q) := ax_iald mt51 dX6_sizeOf_49
theorem s51_50 : aW d 51 50 [l0, l1, .ref o, l3, l4] S h Q = aW d 51 51 [l0, l1, .ref o, l3, l4] (.ref o :: S) h Q := ax_aload_n mt51 dX6_sizeOf_50 rfl
theorem s51_51 : aW d 51 51 [.ref o, l1, l2, l3, l4] S h Q = aW d 51 52 [.ref o, l1, l2, l3, l4] (.ref o :: S) h Q := ax_aload_n mt51 dX6_sizeOf_51 rfl
theorem s51_52 (hT : gT h o = some (8, 12)) : aW d 51 52 L (.ref o :: S) h Q = (isRf (gR h o 2) = true ∧ aW d 51 55 L (gR h o 2 :: S) h Q) := ax_geta mt51 dX6_sizeOf_52 (by decide) ft_24594 fk_24594 hT
theorem s51_55 : aW d 51 55 [l0, l1, l2, l3, .int a] S h Q = aW d 51 57 [l0, l1, l2, l3, .int a] (.int a :: S) h Q := ax_iload mt51 dX6_sizeOf_55 rfl
theorem s51_57 : aW d 51 57 L (.int a :: .ref o :: S) h Q = (inb a (aI h o) ∧ aW d 51 58 L (.int (gI h o a.toNatClampNeg) :: S) h Q) := ax_iald mt51 dX6_sizeOf_57
theorem s51_58 : aW d 51 58 L (.int a :: .ref o :: S) h Q = (inb a (aI h o) ∧ aW d 51 59 L (.int (gI h o a.toNatClampNeg) :: S) h Q) := ax_iald mt51 dX6_sizeOf_58
theorem s51_59 : aW d 51 59 L (.int b :: .int a :: S) h Q = aW d 51 60 L (.int (a * b) :: S) h Q := ax_imul mt51 dX6_sizeOf_59
theorem s51_68 : aW d 51 68 [l0, l1, l2, .int a, l4] S h Q = aW d 51 69 [l0, l1, l2, .int a, l4] (.int a :: S) h Q := ax_iload_n mt51 dX6_sizeOf_68 rfl
theorem s51_69 : aW d 51 69 L [.int a] h Q = Q (some (.int a)) h := ax_reti mt51 dX6_sizeOf_69 rfl
-- method 52: BufferRoom$Program.ticksOf(I)I
theorem dX6_ticksOf_0 : decode cX6_ticksOf 0 = .ok (.aload_n 0, 1) := by decide +kernel
theorem dX6_ticksOf_1 : decode cX6_ticksOf 1 = .ok (.getfield 31, 3) := by decide +kernel
theorem dX6_ticksOf_4 : decode cX6_ticksOf 4 = .ok (.iload_n 1, 1) := by decide +kernel
theorem dX6_ticksOf_5 : decode cX6_ticksOf 5 = .ok (.iaload, 1) := by decide +kernel
theorem dX6_ticksOf_6 : decode cX6_ticksOf 6 = .ok (.aload_n 0, 1) := by decide +kernel
theorem dX6_ticksOf_7 : decode cX6_ticksOf 7 = .ok (.getfield 34, 3) := by decide +kernel
theorem dX6_ticksOf_10 : decode cX6_ticksOf 10 = .ok (.iload_n 1, 1) := by decide +kernel
theorem dX6_ticksOf_11 : decode cX6_ticksOf 11 = .ok (.iaload, 1) := by decide +kernel
theorem dX6_ticksOf_12 : decode cX6_ticksOf 12 = .ok (.invokestatic 50, 3) := by decide +kernel
theorem dX6_ticksOf_15 : decode cX6_ticksOf 15 = .ok (.ireturn, 1) := by decide +kernel
theorem s52_0 : aW d 52 0 [.ref o, l1] S h Q = aW d 52 1 [.ref o, l1] (.ref o :: S) h Q := ax_aload_n mt52 dX6_ticksOf_0 rfl
theorem s52_1 (hT : gT h o = some (8, 12)) : aW d 52 1 L (.ref o :: S) h Q = (isRf (gR h o 7) = true ∧ aW d 52 4 L (gR h o 7 :: S) h Q) := ax_geta mt52 dX6_ticksOf_1 (by decide) ft_24607 fk_24607 hT
theorem s52_4 : aW d 52 4 [l0, .int a] S h Q = aW d 52 5 [l0, .int a] (.int a :: S) h Q := ax_iload_n mt52 dX6_ticksOf_4 rfl
theorem s52_5 : aW d 52 5 L (.int a :: .ref o :: S) h Q = (inb a (aI h o) ∧ aW d 52 6 L (.int (gI h o a.toNatClampNeg) :: S) h Q) := ax_iald mt52 dX6_ticksOf_5
theorem s52_6 : aW d 52 6 [.ref o, l1] S h Q = aW d 52 7 [.ref o, l1] (.ref o :: S) h Q := ax_aload_n mt52 dX6_ticksOf_6 rfl
theorem s52_7 (hT : gT h o = some (8, 12)) : aW d 52 7 L (.ref o :: S) h Q = (isRf (gR h o 8) = true ∧ aW d 52 10 L (gR h o 8 :: S) h Q) := ax_geta mt52 dX6_ticksOf_7 (by decide) ft_24610 fk_24610 hT
theorem s52_10 : aW d 52 10 [l0, .int a] S h Q = aW d 52 11 [l0, .int a] (.int a :: S) h Q := ax_iload_n mt52 dX6_ticksOf_10 rfl
theorem s52_11 : aW d 52 11 L (.int a :: .ref o :: S) h Q = (inb a (aI h o) ∧ aW d 52 12 L (.int (gI h o a.toNatClampNeg) :: S) h Q) := ax_iald mt52 dX6_ticksOf_11
theorem s52_12 : aW (d + 1) 52 12 L (.int x1 :: .int x0 :: []) h Q = aM d 23 [.int x0, .int x1] h (fun v h1 => aW (d + 1) 52 15 L (ab_ps v []) h1 Q) := ax_invs mt52 dX6_ticksOf_12 (by decide) ct_24626 (.inl rfl) mt23 ⟨⟨Nat.le_of_ble_eq_true rfl, Nat.le_of_ble_eq_true rfl, Nat.le_of_ble_eq_true rfl⟩, rfl, rfl⟩
theorem s52_15 : aW d 52 15 L [.int a] h Q = Q (some (.int a)) h := ax_reti mt52 dX6_ticksOf_15 rfl
-- method 53: BufferRoom$Program.ticksOfAll()I
theorem dX6_ticksOfAll_0 : decode cX6_ticksOfAll 0 = .ok (.iconst 0, 1) := by decide +kernel
theorem dX6_ticksOfAll_1 : decode cX6_ticksOfAll 1 = .ok (.istore_n 1, 1) := by decide +kernel
theorem dX6_ticksOfAll_2 : decode cX6_ticksOfAll 2 = .ok (.iconst 0, 1) := by decide +kernel
theorem dX6_ticksOfAll_3 : decode cX6_ticksOfAll 3 = .ok (.istore_n 2, 1) := by decide +kernel
theorem dX6_ticksOfAll_4 : decode cX6_ticksOfAll 4 = .ok (.iload_n 2, 1) := by decide +kernel
theorem dX6_ticksOfAll_5 : decode cX6_ticksOfAll 5 = .ok (.aload_n 0, 1) := by decide +kernel
theorem dX6_ticksOfAll_6 : decode cX6_ticksOfAll 6 = .ok (.getfield 46, 3) := by decide +kernel
theorem dX6_ticksOfAll_9 : decode cX6_ticksOfAll 9 = .ok (.if_icmp .ge 17, 3) := by decide +kernel
theorem dX6_ticksOfAll_12 : decode cX6_ticksOfAll 12 = .ok (.iload_n 1, 1) := by decide +kernel
theorem dX6_ticksOfAll_13 : decode cX6_ticksOfAll 13 = .ok (.aload_n 0, 1) := by decide +kernel
theorem dX6_ticksOfAll_14 : decode cX6_ticksOfAll 14 = .ok (.iload_n 2, 1) := by decide +kernel
theorem dX6_ticksOfAll_15 : decode cX6_ticksOfAll 15 = .ok (.invokevirtual 56, 3) := by decide +kernel
theorem dX6_ticksOfAll_18 : decode cX6_ticksOfAll 18 = .ok (.iadd, 1) := by decide +kernel
theorem dX6_ticksOfAll_19 : decode cX6_ticksOfAll 19 = .ok (.istore_n 1, 1) := by decide +kernel
theorem dX6_ticksOfAll_20 : decode cX6_ticksOfAll 20 = .ok (.iinc 2 1, 3) := by decide +kernel
theorem dX6_ticksOfAll_23 : decode cX6_ticksOfAll 23 = .ok (.goto (-19), 3) := by decide +kernel
theorem dX6_ticksOfAll_26 : decode cX6_ticksOfAll 26 = .ok (.iload_n 1, 1) := by decide +kernel
theorem dX6_ticksOfAll_27 : decode cX6_ticksOfAll 27 = .ok (.ireturn, 1) := by decide +kernel
theorem s53_0 : aW d 53 0 L S h Q = aW d 53 1 L (.int (nI 0) :: S) h Q := ax_iconst mt53 dX6_ticksOfAll_0 ic_0
theorem s53_1 : aW d 53 1 [l0, l1, l2] (.int a :: S) h Q = aW d 53 2 [l0, .int a, l2] S h Q := ax_istore_n mt53 dX6_ticksOfAll_1 (Nat.le_of_ble_eq_true rfl) rfl
theorem s53_2 : aW d 53 2 L S h Q = aW d 53 3 L (.int (nI 0) :: S) h Q := ax_iconst mt53 dX6_ticksOfAll_2 ic_0
theorem s53_3 : aW d 53 3 [l0, l1, l2] (.int a :: S) h Q = aW d 53 4 [l0, l1, .int a] S h Q := ax_istore_n mt53 dX6_ticksOfAll_3 (Nat.le_of_ble_eq_true rfl) rfl
theorem s53_4 : aW d 53 4 [l0, l1, .int a] S h Q = aW d 53 5 [l0, l1, .int a] (.int a :: S) h Q := ax_iload_n mt53 dX6_ticksOfAll_4 rfl
theorem s53_5 : aW d 53 5 [.ref o, l1, l2] S h Q = aW d 53 6 [.ref o, l1, l2] (.ref o :: S) h Q := ax_aload_n mt53 dX6_ticksOfAll_5 rfl
theorem s53_6 (hT : gT h o = some (8, 12)) : aW d 53 6 L (.ref o :: S) h Q = aW d 53 9 L (.int (gI h o 6) :: S) h Q := ax_geti mt53 dX6_ticksOfAll_6 (by decide) ft_24622 fk_24622 hT
theorem s53_9 : aW d 53 9 L (.int b :: .int a :: S) h Q = (if a < b then aW d 53 12 L S h Q else aW d 53 26 L S h Q) := ax_icmp_ge mt53 dX6_ticksOfAll_9 (by decide)
theorem s53_12 : aW d 53 12 [l0, .int a, l2] S h Q = aW d 53 13 [l0, .int a, l2] (.int a :: S) h Q := ax_iload_n mt53 dX6_ticksOfAll_12 rfl
theorem s53_13 : aW d 53 13 [.ref o, l1, l2] S h Q = aW d 53 14 [.ref o, l1, l2] (.ref o :: S) h Q := ax_aload_n mt53 dX6_ticksOfAll_13 rfl
theorem s53_14 : aW d 53 14 [l0, l1, .int a] S h Q = aW d 53 15 [l0, l1, .int a] (.int a :: S) h Q := ax_iload_n mt53 dX6_ticksOfAll_14 rfl
theorem s53_15 (hT : gT h o = some (8, 12)) : aW (d + 1) 53 15 L (.int x0 :: .ref o :: [.int y0]) h Q = aM d 52 (.ref o :: [.int x0]) h (fun v h1 => aW (d + 1) 53 18 L (ab_ps v [.int y0]) h1 Q) := ax_invv mt53 dX6_ticksOfAll_15 (by decide) ct_24632 (.inl rfl) mt52 ⟨⟨Nat.le_of_ble_eq_true rfl, Nat.le_of_ble_eq_true rfl, Nat.le_of_ble_eq_true rfl⟩, rfl, rfl, rfl⟩ hT
theorem s53_18 : aW d 53 18 L (.int b :: .int a :: S) h Q = aW d 53 19 L (.int (a + b) :: S) h Q := ax_iadd mt53 dX6_ticksOfAll_18
theorem s53_19 : aW d 53 19 [l0, l1, l2] (.int a :: S) h Q = aW d 53 20 [l0, .int a, l2] S h Q := ax_istore_n mt53 dX6_ticksOfAll_19 (Nat.le_of_ble_eq_true rfl) rfl
theorem s53_20 : aW d 53 20 [l0, l1, .int a] S h Q = aW d 53 23 [l0, l1, .int (a + nI 1)] S h Q := ax_iinc mt53 dX6_ticksOfAll_20 rfl ic_1 rfl
theorem s53_23 : aW d 53 23 L S h Q = aW d 53 4 L S h Q := ax_goto mt53 dX6_ticksOfAll_23 (by decide)
theorem s53_26 : aW d 53 26 [l0, .int a, l2] S h Q = aW d 53 27 [l0, .int a, l2] (.int a :: S) h Q := ax_iload_n mt53 dX6_ticksOfAll_26 rfl
theorem s53_27 : aW d 53 27 L [.int a] h Q = Q (some (.int a)) h := ax_reti mt53 dX6_ticksOfAll_27 rfl
-- method 54: BufferRoom$Program.isReady(II)Z
theorem dX6_isReady_0 : decode cX6_isReady 0 = .ok (.iload_n 1, 1) := by decide +kernel
theorem dX6_isReady_1 : decode cX6_isReady 1 = .ok (.iconst 4, 1) := by decide +kernel
theorem dX6_isReady_2 : decode cX6_isReady 2 = .ok (.imul, 1) := by decide +kernel
theorem dX6_isReady_3 : decode cX6_isReady 3 = .ok (.istore_n 3, 1) := by decide +kernel
theorem dX6_isReady_4 : decode cX6_isReady 4 = .ok (.iload_n 3, 1) := by decide +kernel
theorem dX6_isReady_5 : decode cX6_isReady 5 = .ok (.iload_n 1, 1) := by decide +kernel
theorem dX6_isReady_6 : decode cX6_isReady 6 = .ok (.iconst 4, 1) := by decide +kernel
theorem dX6_isReady_7 : decode cX6_isReady 7 = .ok (.imul, 1) := by decide +kernel
theorem dX6_isReady_8 : decode cX6_isReady 8 = .ok (.aload_n 0, 1) := by decide +kernel
theorem dX6_isReady_9 : decode cX6_isReady 9 = .ok (.getfield 40, 3) := by decide +kernel
theorem dX6_isReady_12 : decode cX6_isReady 12 = .ok (.iload_n 1, 1) := by decide +kernel
theorem dX6_isReady_13 : decode cX6_isReady 13 = .ok (.iaload, 1) := by decide +kernel
theorem dX6_isReady_14 : decode cX6_isReady 14 = .ok (.iadd, 1) := by decide +kernel
theorem dX6_isReady_15 : decode cX6_isReady 15 = .ok (.if_icmp .ge 38, 3) := by decide +kernel
theorem dX6_isReady_18 : decode cX6_isReady 18 = .ok (.aload_n 0, 1) := by decide +kernel
theorem dX6_isReady_19 : decode cX6_isReady 19 = .ok (.getfield 25, 3) := by decide +kernel
theorem dX6_isReady_22 : decode cX6_isReady 22 = .ok (.aload_n 0, 1) := by decide +kernel
theorem dX6_isReady_23 : decode cX6_isReady 23 = .ok (.getfield 43, 3) := by decide +kernel
theorem dX6_isReady_26 : decode cX6_isReady 26 = .ok (.iload_n 3, 1) := by decide +kernel
theorem dX6_isReady_27 : decode cX6_isReady 27 = .ok (.iaload, 1) := by decide +kernel
theorem dX6_isReady_28 : decode cX6_isReady 28 = .ok (.iaload, 1) := by decide +kernel
theorem dX6_isReady_29 : decode cX6_isReady 29 = .ok (.istore 4, 2) := by decide +kernel
theorem dX6_isReady_31 : decode cX6_isReady 31 = .ok (.iload 4, 2) := by decide +kernel
theorem dX6_isReady_33 : decode cX6_isReady 33 = .ok (.ifCond .lt 14, 3) := by decide +kernel
theorem dX6_isReady_36 : decode cX6_isReady 36 = .ok (.iload_n 2, 1) := by decide +kernel
theorem dX6_isReady_37 : decode cX6_isReady 37 = .ok (.iload 4, 2) := by decide +kernel
theorem dX6_isReady_39 : decode cX6_isReady 39 = .ok (.ishr, 1) := by decide +kernel
theorem dX6_isReady_40 : decode cX6_isReady 40 = .ok (.iconst 1, 1) := by decide +kernel
theorem dX6_isReady_41 : decode cX6_isReady 41 = .ok (.iand, 1) := by decide +kernel
theorem dX6_isReady_42 : decode cX6_isReady 42 = .ok (.ifCond .ne 5, 3) := by decide +kernel
theorem dX6_isReady_45 : decode cX6_isReady 45 = .ok (.iconst 0, 1) := by decide +kernel
theorem dX6_isReady_46 : decode cX6_isReady 46 = .ok (.ireturn, 1) := by decide +kernel
theorem dX6_isReady_47 : decode cX6_isReady 47 = .ok (.iinc 3 1, 3) := by decide +kernel
theorem dX6_isReady_50 : decode cX6_isReady 50 = .ok (.goto (-46), 3) := by decide +kernel
theorem dX6_isReady_53 : decode cX6_isReady 53 = .ok (.iconst 1, 1) := by decide +kernel
theorem dX6_isReady_54 : decode cX6_isReady 54 = .ok (.ireturn, 1) := by decide +kernel
theorem s54_0 : aW d 54 0 [l0, .int a, l2, l3, l4] S h Q = aW d 54 1 [l0, .int a, l2, l3, l4] (.int a :: S) h Q := ax_iload_n mt54 dX6_isReady_0 rfl
theorem s54_1 : aW d 54 1 L S h Q = aW d 54 2 L (.int (nI 4) :: S) h Q := ax_iconst mt54 dX6_isReady_1 ic_4
theorem s54_2 : aW d 54 2 L (.int b :: .int a :: S) h Q = aW d 54 3 L (.int (a * b) :: S) h Q := ax_imul mt54 dX6_isReady_2
theorem s54_3 : aW d 54 3 [l0, l1, l2, l3, l4] (.int a :: S) h Q = aW d 54 4 [l0, l1, l2, .int a, l4] S h Q := ax_istore_n mt54 dX6_isReady_3 (Nat.le_of_ble_eq_true rfl) rfl
theorem s54_4 : aW d 54 4 [l0, l1, l2, .int a, l4] S h Q = aW d 54 5 [l0, l1, l2, .int a, l4] (.int a :: S) h Q := ax_iload_n mt54 dX6_isReady_4 rfl
theorem s54_5 : aW d 54 5 [l0, .int a, l2, l3, l4] S h Q = aW d 54 6 [l0, .int a, l2, l3, l4] (.int a :: S) h Q := ax_iload_n mt54 dX6_isReady_5 rfl
theorem s54_6 : aW d 54 6 L S h Q = aW d 54 7 L (.int (nI 4) :: S) h Q := ax_iconst mt54 dX6_isReady_6 ic_4
theorem s54_7 : aW d 54 7 L (.int b :: .int a :: S) h Q = aW d 54 8 L (.int (a * b) :: S) h Q := ax_imul mt54 dX6_isReady_7
theorem s54_8 : aW d 54 8 [.ref o, l1, l2, l3, l4] S h Q = aW d 54 9 [.ref o, l1, l2, l3, l4] (.ref o :: S) h Q := ax_aload_n mt54 dX6_isReady_8 rfl
theorem s54_9 (hT : gT h o = some (8, 12)) : aW d 54 9 L (.ref o :: S) h Q = (isRf (gR h o 10) = true ∧ aW d 54 12 L (gR h o 10 :: S) h Q) := ax_geta mt54 dX6_isReady_9 (by decide) ft_24616 fk_24616 hT
theorem s54_12 : aW d 54 12 [l0, .int a, l2, l3, l4] S h Q = aW d 54 13 [l0, .int a, l2, l3, l4] (.int a :: S) h Q := ax_iload_n mt54 dX6_isReady_12 rfl
theorem s54_13 : aW d 54 13 L (.int a :: .ref o :: S) h Q = (inb a (aI h o) ∧ aW d 54 14 L (.int (gI h o a.toNatClampNeg) :: S) h Q) := ax_iald mt54 dX6_isReady_13
theorem s54_14 : aW d 54 14 L (.int b :: .int a :: S) h Q = aW d 54 15 L (.int (a + b) :: S) h Q := ax_iadd mt54 dX6_isReady_14
theorem s54_15 : aW d 54 15 L (.int b :: .int a :: S) h Q = (if a < b then aW d 54 18 L S h Q else aW d 54 53 L S h Q) := ax_icmp_ge mt54 dX6_isReady_15 (by decide)
theorem s54_18 : aW d 54 18 [.ref o, l1, l2, l3, l4] S h Q = aW d 54 19 [.ref o, l1, l2, l3, l4] (.ref o :: S) h Q := ax_aload_n mt54 dX6_isReady_18 rfl
theorem s54_19 (hT : gT h o = some (8, 12)) : aW d 54 19 L (.ref o :: S) h Q = (isRf (gR h o 4) = true ∧ aW d 54 22 L (gR h o 4 :: S) h Q) := ax_geta mt54 dX6_isReady_19 (by decide) ft_24601 fk_24601 hT
theorem s54_22 : aW d 54 22 [.ref o, l1, l2, l3, l4] S h Q = aW d 54 23 [.ref o, l1, l2, l3, l4] (.ref o :: S) h Q := ax_aload_n mt54 dX6_isReady_22 rfl
theorem s54_23 (hT : gT h o = some (8, 12)) : aW d 54 23 L (.ref o :: S) h Q = (isRf (gR h o 11) = true ∧ aW d 54 26 L (gR h o 11 :: S) h Q) := ax_geta mt54 dX6_isReady_23 (by decide) ft_24619 fk_24619 hT
theorem s54_26 : aW d 54 26 [l0, l1, l2, .int a, l4] S h Q = aW d 54 27 [l0, l1, l2, .int a, l4] (.int a :: S) h Q := ax_iload_n mt54 dX6_isReady_26 rfl
theorem s54_27 : aW d 54 27 L (.int a :: .ref o :: S) h Q = (inb a (aI h o) ∧ aW d 54 28 L (.int (gI h o a.toNatClampNeg) :: S) h Q) := ax_iald mt54 dX6_isReady_27
theorem s54_28 : aW d 54 28 L (.int a :: .ref o :: S) h Q = (inb a (aI h o) ∧ aW d 54 29 L (.int (gI h o a.toNatClampNeg) :: S) h Q) := ax_iald mt54 dX6_isReady_28
theorem s54_29 : aW d 54 29 [l0, l1, l2, l3, l4] (.int a :: S) h Q = aW d 54 31 [l0, l1, l2, l3, .int a] S h Q := ax_istore mt54 dX6_isReady_29 (Nat.le_of_ble_eq_true rfl) rfl
theorem s54_31 : aW d 54 31 [l0, l1, l2, l3, .int a] S h Q = aW d 54 33 [l0, l1, l2, l3, .int a] (.int a :: S) h Q := ax_iload mt54 dX6_isReady_31 rfl
theorem s54_33 : aW d 54 33 L (.int a :: S) h Q = (if a < 0 then aW d 54 47 L S h Q else aW d 54 36 L S h Q) := ax_if_lt mt54 dX6_isReady_33 (by decide)
theorem s54_36 : aW d 54 36 [l0, l1, .int a, l3, l4] S h Q = aW d 54 37 [l0, l1, .int a, l3, l4] (.int a :: S) h Q := ax_iload_n mt54 dX6_isReady_36 rfl
theorem s54_37 : aW d 54 37 [l0, l1, l2, l3, .int a] S h Q = aW d 54 39 [l0, l1, l2, l3, .int a] (.int a :: S) h Q := ax_iload mt54 dX6_isReady_37 rfl
theorem s54_39 : aW d 54 39 L (.int b :: .int a :: S) h Q = aW d 54 40 L (.int (a >>> (b &&& 31)) :: S) h Q := ax_ishr mt54 dX6_isReady_39
theorem s54_40 : aW d 54 40 L S h Q = aW d 54 41 L (.int (nI 1) :: S) h Q := ax_iconst mt54 dX6_isReady_40 ic_1
theorem s54_41 : aW d 54 41 L (.int b :: .int a :: S) h Q = aW d 54 42 L (.int (a &&& b) :: S) h Q := ax_iand mt54 dX6_isReady_41
theorem s54_42 : aW d 54 42 L (.int a :: S) h Q = (if a = 0 then aW d 54 45 L S h Q else aW d 54 47 L S h Q) := ax_if_ne mt54 dX6_isReady_42 (by decide)
theorem s54_45 : aW d 54 45 L S h Q = aW d 54 46 L (.int (nI 0) :: S) h Q := ax_iconst mt54 dX6_isReady_45 ic_0
theorem s54_46 : aW d 54 46 L [.int a] h Q = (b01 a ∧ Q (some (.int a)) h) := ax_retz mt54 dX6_isReady_46 rfl
theorem s54_47 : aW d 54 47 [l0, l1, l2, .int a, l4] S h Q = aW d 54 50 [l0, l1, l2, .int (a + nI 1), l4] S h Q := ax_iinc mt54 dX6_isReady_47 rfl ic_1 rfl
theorem s54_50 : aW d 54 50 L S h Q = aW d 54 4 L S h Q := ax_goto mt54 dX6_isReady_50 (by decide)
theorem s54_53 : aW d 54 53 L S h Q = aW d 54 54 L (.int (nI 1) :: S) h Q := ax_iconst mt54 dX6_isReady_53 ic_1
theorem s54_54 : aW d 54 54 L [.int a] h Q = (b01 a ∧ Q (some (.int a)) h) := ax_retz mt54 dX6_isReady_54 rfl
-- method 55: BufferRoom$Reader.<init>()V
theorem dX7_init_0 : decode cX7_init 0 = .ok (.aload_n 0, 1) := by decide +kernel
theorem dX7_init_1 : decode cX7_init 1 = .ok (.invokespecial 3, 3) := by decide +kernel
theorem dX7_init_4 : decode cX7_init 4 = .ok (.aload_n 0, 1) := by decide +kernel
theorem dX7_init_5 : decode cX7_init 5 = .ok (.sipush 240, 3) := by decide +kernel
theorem dX7_init_8 : decode cX7_init 8 = .ok (.newarray .int, 2) := by decide +kernel
theorem dX7_init_10 : decode cX7_init 10 = .ok (.putfield 9, 3) := by decide +kernel
theorem dX7_init_13 : decode cX7_init 13 = .ok (.return_, 1) := by decide +kernel
theorem s55_0 : aW d 55 0 [.ref o] S h Q = aW d 55 1 [.ref o] (.ref o :: S) h Q := ax_aload_n mt55 dX7_init_0 rfl
theorem s55_1 : aW (d + 1) 55 1 L (.ref o :: []) h Q = aW (d + 1) 55 4 L [] h Q := ax_obj mt55 dX7_init_1 (by decide) ct_28675 (Nat.le_of_ble_eq_true rfl)
theorem s55_4 : aW d 55 4 [.ref o] S h Q = aW d 55 5 [.ref o] (.ref o :: S) h Q := ax_aload_n mt55 dX7_init_4 rfl
theorem s55_5 : aW d 55 5 L S h Q = aW d 55 8 L (.int (nI 240) :: S) h Q := ax_sipush mt55 dX7_init_5 sp_240
theorem s55_8 (hn : ¬ a < 0 ∧ a.toNatClampNeg ≤ 100000) : aW d 55 8 L (.int a :: S) h Q = aW d 55 10 L (.ref h.1.length :: S) (nO h 0 a.toNatClampNeg) Q := ax_newi mt55 dX7_init_8 hn
theorem s55_10 (hT : gT h o = some (9, 5)) : aW d 55 10 L (.ref o2 :: .ref o :: S) h Q = aW d 55 13 L S (pR h o 0 (.ref o2)) Q := ax_puta mt55 dX7_init_10 (by decide) ft_28681 (fun q => q.2 ⟨rfl, rfl, rfl⟩) fp_28681 hT
theorem s55_13 : aW d 55 13 L [] h Q = Q none h := ax_retv mt55 dX7_init_13 rfl
-- method 56: BufferRoom$Reader.append(JI)V
theorem dX7_append_0 : decode cX7_append 0 = .ok (.iload_n 3, 1) := by decide +kernel
theorem dX7_append_1 : decode cX7_append 1 = .ok (.iconst 1, 1) := by decide +kernel
theorem dX7_append_2 : decode cX7_append 2 = .ok (.isub, 1) := by decide +kernel
theorem dX7_append_3 : decode cX7_append 3 = .ok (.istore 4, 2) := by decide +kernel
theorem dX7_append_5 : decode cX7_append 5 = .ok (.iload 4, 2) := by decide +kernel
theorem dX7_append_7 : decode cX7_append 7 = .ok (.ifCond .lt 40, 3) := by decide +kernel
theorem dX7_append_10 : decode cX7_append 10 = .ok (.aload_n 0, 1) := by decide +kernel
theorem dX7_append_11 : decode cX7_append 11 = .ok (.getfield 9, 3) := by decide +kernel
theorem dX7_append_14 : decode cX7_append 14 = .ok (.aload_n 0, 1) := by decide +kernel
theorem dX7_append_15 : decode cX7_append 15 = .ok (.getfield 15, 3) := by decide +kernel
theorem dX7_append_18 : decode cX7_append 18 = .ok (.lload_n 1, 1) := by decide +kernel
theorem dX7_append_19 : decode cX7_append 19 = .ok (.bipush 8, 2) := by decide +kernel
theorem dX7_append_21 : decode cX7_append 21 = .ok (.iload 4, 2) := by decide +kernel
theorem dX7_append_23 : decode cX7_append 23 = .ok (.imul, 1) := by decide +kernel
theorem dX7_append_24 : decode cX7_append 24 = .ok (.lushr, 1) := by decide +kernel
theorem dX7_append_25 : decode cX7_append 25 = .ok (.l2i, 1) := by decide +kernel
theorem dX7_append_26 : decode cX7_append 26 = .ok (.sipush 255, 3) := by decide +kernel
theorem dX7_append_29 : decode cX7_append 29 = .ok (.iand, 1) := by decide +kernel
theorem dX7_append_30 : decode cX7_append 30 = .ok (.iastore, 1) := by decide +kernel
theorem dX7_append_31 : decode cX7_append 31 = .ok (.aload_n 0, 1) := by decide +kernel
theorem dX7_append_32 : decode cX7_append 32 = .ok (.dup, 1) := by decide +kernel
theorem dX7_append_33 : decode cX7_append 33 = .ok (.getfield 15, 3) := by decide +kernel
theorem dX7_append_36 : decode cX7_append 36 = .ok (.iconst 1, 1) := by decide +kernel
theorem dX7_append_37 : decode cX7_append 37 = .ok (.iadd, 1) := by decide +kernel
theorem dX7_append_38 : decode cX7_append 38 = .ok (.putfield 15, 3) := by decide +kernel
theorem dX7_append_41 : decode cX7_append 41 = .ok (.iinc 4 (-1), 3) := by decide +kernel
theorem dX7_append_44 : decode cX7_append 44 = .ok (.goto (-39), 3) := by decide +kernel
theorem dX7_append_47 : decode cX7_append 47 = .ok (.return_, 1) := by decide +kernel
theorem s56_0 : aW d 56 0 [l0, l1, l2, .int a, l4] S h Q = aW d 56 1 [l0, l1, l2, .int a, l4] (.int a :: S) h Q := ax_iload_n mt56 dX7_append_0 rfl
theorem s56_1 : aW d 56 1 L S h Q = aW d 56 2 L (.int (nI 1) :: S) h Q := ax_iconst mt56 dX7_append_1 ic_1
theorem s56_2 : aW d 56 2 L (.int b :: .int a :: S) h Q = aW d 56 3 L (.int (a - b) :: S) h Q := ax_isub mt56 dX7_append_2
theorem s56_3 : aW d 56 3 [l0, l1, l2, l3, l4] (.int a :: S) h Q = aW d 56 5 [l0, l1, l2, l3, .int a] S h Q := ax_istore mt56 dX7_append_3 (Nat.le_of_ble_eq_true rfl) rfl
theorem s56_5 : aW d 56 5 [l0, l1, l2, l3, .int a] S h Q = aW d 56 7 [l0, l1, l2, l3, .int a] (.int a :: S) h Q := ax_iload mt56 dX7_append_5 rfl
theorem s56_7 : aW d 56 7 L (.int a :: S) h Q = (if a < 0 then aW d 56 47 L S h Q else aW d 56 10 L S h Q) := ax_if_lt mt56 dX7_append_7 (by decide)
theorem s56_10 : aW d 56 10 [.ref o, l1, l2, l3, l4] S h Q = aW d 56 11 [.ref o, l1, l2, l3, l4] (.ref o :: S) h Q := ax_aload_n mt56 dX7_append_10 rfl
theorem s56_11 (hT : gT h o = some (9, 5)) : aW d 56 11 L (.ref o :: S) h Q = (isRf (gR h o 0) = true ∧ aW d 56 14 L (gR h o 0 :: S) h Q) := ax_geta mt56 dX7_append_11 (by decide) ft_28681 fk_28681 hT
theorem s56_14 : aW d 56 14 [.ref o, l1, l2, l3, l4] S h Q = aW d 56 15 [.ref o, l1, l2, l3, l4] (.ref o :: S) h Q := ax_aload_n mt56 dX7_append_14 rfl
theorem s56_15 (hT : gT h o = some (9, 5)) : aW d 56 15 L (.ref o :: S) h Q = aW d 56 18 L (.int (gI h o 1) :: S) h Q := ax_geti mt56 dX7_append_15 (by decide) ft_28687 fk_28687 hT
theorem s56_18 : aW d 56 18 [l0, .long u, .retAddr 1, l3, l4] S h Q = aW d 56 19 [l0, .long u, .retAddr 1, l3, l4] (.long u :: S) h Q := ax_lload_n mt56 dX7_append_18 rfl rfl
theorem s56_19 : aW d 56 19 L S h Q = aW d 56 21 L (.int (nI 8) :: S) h Q := ax_bipush mt56 dX7_append_19 bp_8
theorem s56_21 : aW d 56 21 [l0, l1, l2, l3, .int a] S h Q = aW d 56 23 [l0, l1, l2, l3, .int a] (.int a :: S) h Q := ax_iload mt56 dX7_append_21 rfl
theorem s56_23 : aW d 56 23 L (.int b :: .int a :: S) h Q = aW d 56 24 L (.int (a * b) :: S) h Q := ax_imul mt56 dX7_append_23
theorem s56_24 : aW d 56 24 L (.int b :: .long u :: S) h Q = aW d 56 25 L (.long ((u.toUInt64 >>> (b.toInt64.toUInt64 &&& Int64.toUInt64 63)).toInt64) :: S) h Q := ax_lushr mt56 dX7_append_24
theorem s56_25 : aW d 56 25 L (.long u :: S) h Q = aW d 56 26 L (.int u.toInt32 :: S) h Q := ax_l2i mt56 dX7_append_25
theorem s56_26 : aW d 56 26 L S h Q = aW d 56 29 L (.int (nI 255) :: S) h Q := ax_sipush mt56 dX7_append_26 sp_255
theorem s56_29 : aW d 56 29 L (.int b :: .int a :: S) h Q = aW d 56 30 L (.int (a &&& b) :: S) h Q := ax_iand mt56 dX7_append_29
theorem s56_30 : aW d 56 30 L (.int b :: .int a :: .ref o :: S) h Q = (inb a (aJ h o) ∧ aW d 56 31 L S (pI h o a.toNatClampNeg b) Q) := ax_iast mt56 dX7_append_30
theorem s56_31 : aW d 56 31 [.ref o, l1, l2, l3, l4] S h Q = aW d 56 32 [.ref o, l1, l2, l3, l4] (.ref o :: S) h Q := ax_aload_n mt56 dX7_append_31 rfl
theorem s56_32 : aW d 56 32 L (.ref o :: S) h Q = aW d 56 33 L (.ref o :: .ref o :: S) h Q := ax_dupa mt56 dX7_append_32
theorem s56_33 (hT : gT h o = some (9, 5)) : aW d 56 33 L (.ref o :: S) h Q = aW d 56 36 L (.int (gI h o 1) :: S) h Q := ax_geti mt56 dX7_append_33 (by decide) ft_28687 fk_28687 hT
theorem s56_36 : aW d 56 36 L S h Q = aW d 56 37 L (.int (nI 1) :: S) h Q := ax_iconst mt56 dX7_append_36 ic_1
theorem s56_37 : aW d 56 37 L (.int b :: .int a :: S) h Q = aW d 56 38 L (.int (a + b) :: S) h Q := ax_iadd mt56 dX7_append_37
theorem s56_38 (hT : gT h o = some (9, 5)) : aW d 56 38 L (.int a :: .ref o :: S) h Q = aW d 56 41 L S (pI h o 1 a) Q := ax_puti mt56 dX7_append_38 (by decide) ft_28687 (fun q => fn_28687 q.1) fp_28687 hT
theorem s56_41 : aW d 56 41 [l0, l1, l2, l3, .int a] S h Q = aW d 56 44 [l0, l1, l2, l3, .int (a + (-1))] S h Q := ax_iinc mt56 dX7_append_41 rfl ic_m1 rfl
theorem s56_44 : aW d 56 44 L S h Q = aW d 56 5 L S h Q := ax_goto mt56 dX7_append_44 (by decide)
theorem s56_47 : aW d 56 47 L [] h Q = Q none h := ax_retv mt56 dX7_append_47 rfl
-- method 57: BufferRoom$Reader.readInto(LBufferRoom$Program;)I
theorem dX7_readInto_0 : decode cX7_readInto 0 = .ok (.aload_n 0, 1) := by decide +kernel
theorem dX7_readInto_1 : decode cX7_readInto 1 = .ok (.aload_n 1, 1) := by decide +kernel
theorem dX7_readInto_2 : decode cX7_readInto 2 = .ok (.putfield 19, 3) := by decide +kernel
theorem dX7_readInto_5 : decode cX7_readInto 5 = .ok (.aload_n 0, 1) := by decide +kernel
theorem dX7_readInto_6 : decode cX7_readInto 6 = .ok (.getfield 19, 3) := by decide +kernel
theorem dX7_readInto_9 : decode cX7_readInto 9 = .ok (.invokevirtual 23, 3) := by decide +kernel
theorem dX7_readInto_12 : decode cX7_readInto 12 = .ok (.aload_n 0, 1) := by decide +kernel
theorem dX7_readInto_13 : decode cX7_readInto 13 = .ok (.iconst 0, 1) := by decide +kernel
theorem dX7_readInto_14 : decode cX7_readInto 14 = .ok (.invokevirtual 28, 3) := by decide +kernel
theorem dX7_readInto_17 : decode cX7_readInto 17 = .ok (.iconst 0, 1) := by decide +kernel
theorem dX7_readInto_18 : decode cX7_readInto 18 = .ok (.istore_n 2, 1) := by decide +kernel
theorem dX7_readInto_19 : decode cX7_readInto 19 = .ok (.iload_n 2, 1) := by decide +kernel
theorem dX7_readInto_20 : decode cX7_readInto 20 = .ok (.sipush 240, 3) := by decide +kernel
theorem dX7_readInto_23 : decode cX7_readInto 23 = .ok (.if_icmp .ge 32, 3) := by decide +kernel
theorem dX7_readInto_26 : decode cX7_readInto 26 = .ok (.aload_n 0, 1) := by decide +kernel
theorem dX7_readInto_27 : decode cX7_readInto 27 = .ok (.getfield 32, 3) := by decide +kernel
theorem dX7_readInto_30 : decode cX7_readInto 30 = .ok (.aload_n 0, 1) := by decide +kernel
theorem dX7_readInto_31 : decode cX7_readInto 31 = .ok (.getfield 15, 3) := by decide +kernel
theorem dX7_readInto_34 : decode cX7_readInto 34 = .ok (.if_icmp .ge 21, 3) := by decide +kernel
theorem dX7_readInto_37 : decode cX7_readInto 37 = .ok (.aload_n 0, 1) := by decide +kernel
theorem dX7_readInto_38 : decode cX7_readInto 38 = .ok (.invokevirtual 35, 3) := by decide +kernel
theorem dX7_readInto_41 : decode cX7_readInto 41 = .ok (.ifCond .ne 8, 3) := by decide +kernel
theorem dX7_readInto_44 : decode cX7_readInto 44 = .ok (.aload_n 0, 1) := by decide +kernel
theorem dX7_readInto_45 : decode cX7_readInto 45 = .ok (.getfield 32, 3) := by decide +kernel
theorem dX7_readInto_48 : decode cX7_readInto 48 = .ok (.ireturn, 1) := by decide +kernel
theorem dX7_readInto_49 : decode cX7_readInto 49 = .ok (.iinc 2 1, 3) := by decide +kernel
theorem dX7_readInto_52 : decode cX7_readInto 52 = .ok (.goto (-33), 3) := by decide +kernel
theorem dX7_readInto_55 : decode cX7_readInto 55 = .ok (.iconst (-1), 1) := by decide +kernel
theorem dX7_readInto_56 : decode cX7_readInto 56 = .ok (.ireturn, 1) := by decide +kernel
theorem s57_0 : aW d 57 0 [.ref o, l1, l2] S h Q = aW d 57 1 [.ref o, l1, l2] (.ref o :: S) h Q := ax_aload_n mt57 dX7_readInto_0 rfl
theorem s57_1 : aW d 57 1 [l0, .ref o, l2] S h Q = aW d 57 2 [l0, .ref o, l2] (.ref o :: S) h Q := ax_aload_n mt57 dX7_readInto_1 rfl
theorem s57_2 (hT : gT h o = some (9, 5)) : aW d 57 2 L (.ref o2 :: .ref o :: S) h Q = aW d 57 5 L S (pR h o 4 (.ref o2)) Q := ax_puta mt57 dX7_readInto_2 (by decide) ft_28691 (fun q => fn_28691 q.1) fp_28691 hT
theorem s57_5 : aW d 57 5 [.ref o, l1, l2] S h Q = aW d 57 6 [.ref o, l1, l2] (.ref o :: S) h Q := ax_aload_n mt57 dX7_readInto_5 rfl
theorem s57_6 (hT : gT h o = some (9, 5)) : aW d 57 6 L (.ref o :: S) h Q = (isRf (gR h o 4) = true ∧ aW d 57 9 L (gR h o 4 :: S) h Q) := ax_geta mt57 dX7_readInto_6 (by decide) ft_28691 fk_28691 hT
theorem s57_9 (hT : gT h o = some (8, 12)) : aW (d + 1) 57 9 L (.ref o :: []) h Q = aM d 43 (.ref o :: []) h (fun v h1 => aW (d + 1) 57 12 L (ab_ps v []) h1 Q) := ax_invv mt57 dX7_readInto_9 (by decide) ct_28695 (.inl rfl) mt43 ⟨⟨Nat.le_of_ble_eq_true rfl, Nat.le_of_ble_eq_true rfl, Nat.le_of_ble_eq_true rfl⟩, rfl, rfl, rfl⟩ hT
theorem s57_12 : aW d 57 12 [.ref o, l1, l2] S h Q = aW d 57 13 [.ref o, l1, l2] (.ref o :: S) h Q := ax_aload_n mt57 dX7_readInto_12 rfl
theorem s57_13 : aW d 57 13 L S h Q = aW d 57 14 L (.int (nI 0) :: S) h Q := ax_iconst mt57 dX7_readInto_13 ic_0
theorem s57_14 (hT : gT h o = some (9, 5)) : aW (d + 1) 57 14 L (.int x0 :: .ref o :: []) h Q = aM d 70 (.ref o :: [.int x0]) h (fun v h1 => aW (d + 1) 57 17 L (ab_ps v []) h1 Q) := ax_invv mt57 dX7_readInto_14 (by decide) ct_28700 (.inl rfl) mt70 ⟨⟨Nat.le_of_ble_eq_true rfl, Nat.le_of_ble_eq_true rfl, Nat.le_of_ble_eq_true rfl⟩, rfl, rfl, rfl⟩ hT
theorem s57_17 : aW d 57 17 L S h Q = aW d 57 18 L (.int (nI 0) :: S) h Q := ax_iconst mt57 dX7_readInto_17 ic_0
theorem s57_18 : aW d 57 18 [l0, l1, l2] (.int a :: S) h Q = aW d 57 19 [l0, l1, .int a] S h Q := ax_istore_n mt57 dX7_readInto_18 (Nat.le_of_ble_eq_true rfl) rfl
theorem s57_19 : aW d 57 19 [l0, l1, .int a] S h Q = aW d 57 20 [l0, l1, .int a] (.int a :: S) h Q := ax_iload_n mt57 dX7_readInto_19 rfl
theorem s57_20 : aW d 57 20 L S h Q = aW d 57 23 L (.int (nI 240) :: S) h Q := ax_sipush mt57 dX7_readInto_20 sp_240
theorem s57_23 : aW d 57 23 L (.int b :: .int a :: S) h Q = (if a < b then aW d 57 26 L S h Q else aW d 57 55 L S h Q) := ax_icmp_ge mt57 dX7_readInto_23 (by decide)
theorem s57_26 : aW d 57 26 [.ref o, l1, l2] S h Q = aW d 57 27 [.ref o, l1, l2] (.ref o :: S) h Q := ax_aload_n mt57 dX7_readInto_26 rfl
theorem s57_27 (hT : gT h o = some (9, 5)) : aW d 57 27 L (.ref o :: S) h Q = aW d 57 30 L (.int (gI h o 2) :: S) h Q := ax_geti mt57 dX7_readInto_27 (by decide) ft_28704 fk_28704 hT
theorem s57_30 : aW d 57 30 [.ref o, l1, l2] S h Q = aW d 57 31 [.ref o, l1, l2] (.ref o :: S) h Q := ax_aload_n mt57 dX7_readInto_30 rfl
theorem s57_31 (hT : gT h o = some (9, 5)) : aW d 57 31 L (.ref o :: S) h Q = aW d 57 34 L (.int (gI h o 1) :: S) h Q := ax_geti mt57 dX7_readInto_31 (by decide) ft_28687 fk_28687 hT
theorem s57_34 : aW d 57 34 L (.int b :: .int a :: S) h Q = (if a < b then aW d 57 37 L S h Q else aW d 57 55 L S h Q) := ax_icmp_ge mt57 dX7_readInto_34 (by decide)
theorem s57_37 : aW d 57 37 [.ref o, l1, l2] S h Q = aW d 57 38 [.ref o, l1, l2] (.ref o :: S) h Q := ax_aload_n mt57 dX7_readInto_37 rfl
theorem s57_38 (hT : gT h o = some (9, 5)) : aW (d + 1) 57 38 L (.ref o :: []) h Q = aM d 58 (.ref o :: []) h (fun v h1 => aW (d + 1) 57 41 L (ab_ps v []) h1 Q) := ax_invv mt57 dX7_readInto_38 (by decide) ct_28707 (.inl rfl) mt58 ⟨⟨Nat.le_of_ble_eq_true rfl, Nat.le_of_ble_eq_true rfl, Nat.le_of_ble_eq_true rfl⟩, rfl, rfl, rfl⟩ hT
theorem s57_41 : aW d 57 41 L (.int a :: S) h Q = (if a = 0 then aW d 57 44 L S h Q else aW d 57 49 L S h Q) := ax_if_ne mt57 dX7_readInto_41 (by decide)
theorem s57_44 : aW d 57 44 [.ref o, l1, l2] S h Q = aW d 57 45 [.ref o, l1, l2] (.ref o :: S) h Q := ax_aload_n mt57 dX7_readInto_44 rfl
theorem s57_45 (hT : gT h o = some (9, 5)) : aW d 57 45 L (.ref o :: S) h Q = aW d 57 48 L (.int (gI h o 2) :: S) h Q := ax_geti mt57 dX7_readInto_45 (by decide) ft_28704 fk_28704 hT
theorem s57_48 : aW d 57 48 L [.int a] h Q = Q (some (.int a)) h := ax_reti mt57 dX7_readInto_48 rfl
theorem s57_49 : aW d 57 49 [l0, l1, .int a] S h Q = aW d 57 52 [l0, l1, .int (a + nI 1)] S h Q := ax_iinc mt57 dX7_readInto_49 rfl ic_1 rfl
theorem s57_52 : aW d 57 52 L S h Q = aW d 57 19 L S h Q := ax_goto mt57 dX7_readInto_52 (by decide)
theorem s57_55 : aW d 57 55 L S h Q = aW d 57 56 L (.int ((-1)) :: S) h Q := ax_iconst mt57 dX7_readInto_55 ic_m1
theorem s57_56 : aW d 57 56 L [.int a] h Q = Q (some (.int a)) h := ax_reti mt57 dX7_readInto_56 rfl
-- method 58: BufferRoom$Reader.readStatement()Z
theorem dX7_readStatement_0 : decode cX7_readStatement 0 = .ok (.aload_n 0, 1) := by decide +kernel
theorem dX7_readStatement_1 : decode cX7_readStatement 1 = .ok (.invokevirtual 39, 3) := by decide +kernel
theorem dX7_readStatement_4 : decode cX7_readStatement 4 = .ok (.istore_n 1, 1) := by decide +kernel
theorem dX7_readStatement_5 : decode cX7_readStatement 5 = .ok (.iload_n 1, 1) := by decide +kernel
theorem dX7_readStatement_6 : decode cX7_readStatement 6 = .ok (.ifCond .ge 29, 3) := by decide +kernel
theorem dX7_readStatement_9 : decode cX7_readStatement 9 = .ok (.aload_n 0, 1) := by decide +kernel
theorem dX7_readStatement_10 : decode cX7_readStatement 10 = .ok (.invokevirtual 43, 3) := by decide +kernel
theorem dX7_readStatement_13 : decode cX7_readStatement 13 = .ok (.istore_n 2, 1) := by decide +kernel
theorem dX7_readStatement_14 : decode cX7_readStatement 14 = .ok (.iload_n 2, 1) := by decide +kernel
theorem dX7_readStatement_15 : decode cX7_readStatement 15 = .ok (.invokestatic 46, 3) := by decide +kernel
theorem dX7_readStatement_18 : decode cX7_readStatement 18 = .ok (.ifCond .eq 15, 3) := by decide +kernel
theorem dX7_readStatement_21 : decode cX7_readStatement 21 = .ok (.aload_n 0, 1) := by decide +kernel
theorem dX7_readStatement_22 : decode cX7_readStatement 22 = .ok (.iload_n 2, 1) := by decide +kernel
theorem dX7_readStatement_23 : decode cX7_readStatement 23 = .ok (.invokevirtual 52, 3) := by decide +kernel
theorem dX7_readStatement_26 : decode cX7_readStatement 26 = .ok (.ifCond .eq 7, 3) := by decide +kernel
theorem dX7_readStatement_29 : decode cX7_readStatement 29 = .ok (.iconst 1, 1) := by decide +kernel
theorem dX7_readStatement_30 : decode cX7_readStatement 30 = .ok (.goto 4, 3) := by decide +kernel
theorem dX7_readStatement_33 : decode cX7_readStatement 33 = .ok (.iconst 0, 1) := by decide +kernel
theorem dX7_readStatement_34 : decode cX7_readStatement 34 = .ok (.ireturn, 1) := by decide +kernel
theorem dX7_readStatement_35 : decode cX7_readStatement 35 = .ok (.aload_n 0, 1) := by decide +kernel
theorem dX7_readStatement_36 : decode cX7_readStatement 36 = .ok (.getfield 19, 3) := by decide +kernel
theorem dX7_readStatement_39 : decode cX7_readStatement 39 = .ok (.getfield 55, 3) := by decide +kernel
theorem dX7_readStatement_42 : decode cX7_readStatement 42 = .ok (.iload_n 1, 1) := by decide +kernel
theorem dX7_readStatement_43 : decode cX7_readStatement 43 = .ok (.baload, 1) := by decide +kernel
theorem dX7_readStatement_44 : decode cX7_readStatement 44 = .ok (.ifCond .eq 5, 3) := by decide +kernel
theorem dX7_readStatement_47 : decode cX7_readStatement 47 = .ok (.iconst 0, 1) := by decide +kernel
theorem dX7_readStatement_48 : decode cX7_readStatement 48 = .ok (.ireturn, 1) := by decide +kernel
theorem dX7_readStatement_49 : decode cX7_readStatement 49 = .ok (.aload_n 0, 1) := by decide +kernel
theorem dX7_readStatement_50 : decode cX7_readStatement 50 = .ok (.aload_n 0, 1) := by decide +kernel
theorem dX7_readStatement_51 : decode cX7_readStatement 51 = .ok (.getfield 32, 3) := by decide +kernel
theorem dX7_readStatement_54 : decode cX7_readStatement 54 = .ok (.iconst 1, 1) := by decide +kernel
theorem dX7_readStatement_55 : decode cX7_readStatement 55 = .ok (.iadd, 1) := by decide +kernel
theorem dX7_readStatement_56 : decode cX7_readStatement 56 = .ok (.invokevirtual 28, 3) := by decide +kernel
theorem dX7_readStatement_59 : decode cX7_readStatement 59 = .ok (.aload_n 0, 1) := by decide +kernel
theorem dX7_readStatement_60 : decode cX7_readStatement 60 = .ok (.getfield 19, 3) := by decide +kernel
theorem dX7_readStatement_63 : decode cX7_readStatement 63 = .ok (.iload_n 1, 1) := by decide +kernel
theorem dX7_readStatement_64 : decode cX7_readStatement 64 = .ok (.invokevirtual 59, 3) := by decide +kernel
theorem dX7_readStatement_67 : decode cX7_readStatement 67 = .ok (.ifCond .eq 11, 3) := by decide +kernel
theorem dX7_readStatement_70 : decode cX7_readStatement 70 = .ok (.aload_n 0, 1) := by decide +kernel
theorem dX7_readStatement_71 : decode cX7_readStatement 71 = .ok (.iload_n 1, 1) := by decide +kernel
theorem dX7_readStatement_72 : decode cX7_readStatement 72 = .ok (.invokevirtual 62, 3) := by decide +kernel
theorem dX7_readStatement_75 : decode cX7_readStatement 75 = .ok (.goto 8, 3) := by decide +kernel
theorem dX7_readStatement_78 : decode cX7_readStatement 78 = .ok (.aload_n 0, 1) := by decide +kernel
theorem dX7_readStatement_79 : decode cX7_readStatement 79 = .ok (.iload_n 1, 1) := by decide +kernel
theorem dX7_readStatement_80 : decode cX7_readStatement 80 = .ok (.invokevirtual 65, 3) := by decide +kernel
theorem dX7_readStatement_83 : decode cX7_readStatement 83 = .ok (.ireturn, 1) := by decide +kernel
theorem s58_0 : aW d 58 0 [.ref o, l1, l2] S h Q = aW d 58 1 [.ref o, l1, l2] (.ref o :: S) h Q := ax_aload_n mt58 dX7_readStatement_0 rfl
theorem s58_1 (hT : gT h o = some (9, 5)) : aW (d + 1) 58 1 L (.ref o :: []) h Q = aM d 69 (.ref o :: []) h (fun v h1 => aW (d + 1) 58 4 L (ab_ps v []) h1 Q) := ax_invv mt58 dX7_readStatement_1 (by decide) ct_28711 (.inl rfl) mt69 ⟨⟨Nat.le_of_ble_eq_true rfl, Nat.le_of_ble_eq_true rfl, Nat.le_of_ble_eq_true rfl⟩, rfl, rfl, rfl⟩ hT
theorem s58_4 : aW d 58 4 [l0, l1, l2] (.int a :: S) h Q = aW d 58 5 [l0, .int a, l2] S h Q := ax_istore_n mt58 dX7_readStatement_4 (Nat.le_of_ble_eq_true rfl) rfl
theorem s58_5 : aW d 58 5 [l0, .int a, l2] S h Q = aW d 58 6 [l0, .int a, l2] (.int a :: S) h Q := ax_iload_n mt58 dX7_readStatement_5 rfl
theorem s58_6 : aW d 58 6 L (.int a :: S) h Q = (if a < 0 then aW d 58 9 L S h Q else aW d 58 35 L S h Q) := ax_if_ge mt58 dX7_readStatement_6 (by decide)
theorem s58_9 : aW d 58 9 [.ref o, l1, l2] S h Q = aW d 58 10 [.ref o, l1, l2] (.ref o :: S) h Q := ax_aload_n mt58 dX7_readStatement_9 rfl
theorem s58_10 (hT : gT h o = some (9, 5)) : aW (d + 1) 58 10 L (.ref o :: []) h Q = aM d 68 (.ref o :: []) h (fun v h1 => aW (d + 1) 58 13 L (ab_ps v []) h1 Q) := ax_invv mt58 dX7_readStatement_10 (by decide) ct_28715 (.inl rfl) mt68 ⟨⟨Nat.le_of_ble_eq_true rfl, Nat.le_of_ble_eq_true rfl, Nat.le_of_ble_eq_true rfl⟩, rfl, rfl, rfl⟩ hT
theorem s58_13 : aW d 58 13 [l0, l1, l2] (.int a :: S) h Q = aW d 58 14 [l0, l1, .int a] S h Q := ax_istore_n mt58 dX7_readStatement_13 (Nat.le_of_ble_eq_true rfl) rfl
theorem s58_14 : aW d 58 14 [l0, l1, .int a] S h Q = aW d 58 15 [l0, l1, .int a] (.int a :: S) h Q := ax_iload_n mt58 dX7_readStatement_14 rfl
theorem s58_15 : aW (d + 1) 58 15 L (.int x0 :: []) h Q = aM d 20 [.int x0] h (fun v h1 => aW (d + 1) 58 18 L (ab_ps v []) h1 Q) := ax_invs mt58 dX7_readStatement_15 (by decide) ct_28718 (.inl rfl) mt20 ⟨⟨Nat.le_of_ble_eq_true rfl, Nat.le_of_ble_eq_true rfl, Nat.le_of_ble_eq_true rfl⟩, rfl, rfl⟩
theorem s58_18 : aW d 58 18 L (.int a :: S) h Q = (if a = 0 then aW d 58 33 L S h Q else aW d 58 21 L S h Q) := ax_if_eq mt58 dX7_readStatement_18 (by decide)
theorem s58_21 : aW d 58 21 [.ref o, l1, l2] S h Q = aW d 58 22 [.ref o, l1, l2] (.ref o :: S) h Q := ax_aload_n mt58 dX7_readStatement_21 rfl
theorem s58_22 : aW d 58 22 [l0, l1, .int a] S h Q = aW d 58 23 [l0, l1, .int a] (.int a :: S) h Q := ax_iload_n mt58 dX7_readStatement_22 rfl
theorem s58_23 (hT : gT h o = some (9, 5)) : aW (d + 1) 58 23 L (.int x0 :: .ref o :: []) h Q = aM d 62 (.ref o :: [.int x0]) h (fun v h1 => aW (d + 1) 58 26 L (ab_ps v []) h1 Q) := ax_invv mt58 dX7_readStatement_23 (by decide) ct_28724 (.inl rfl) mt62 ⟨⟨Nat.le_of_ble_eq_true rfl, Nat.le_of_ble_eq_true rfl, Nat.le_of_ble_eq_true rfl⟩, rfl, rfl, rfl⟩ hT
theorem s58_26 : aW d 58 26 L (.int a :: S) h Q = (if a = 0 then aW d 58 33 L S h Q else aW d 58 29 L S h Q) := ax_if_eq mt58 dX7_readStatement_26 (by decide)
theorem s58_29 : aW d 58 29 L S h Q = aW d 58 30 L (.int (nI 1) :: S) h Q := ax_iconst mt58 dX7_readStatement_29 ic_1
theorem s58_30 : aW d 58 30 L S h Q = aW d 58 34 L S h Q := ax_goto mt58 dX7_readStatement_30 (by decide)
theorem s58_34 : aW d 58 34 L [.int a] h Q = (b01 a ∧ Q (some (.int a)) h) := ax_retz mt58 dX7_readStatement_34 rfl
theorem s58_33 : aW d 58 33 L S h Q = aW d 58 34 L (.int (nI 0) :: S) h Q := ax_iconst mt58 dX7_readStatement_33 ic_0
theorem s58_35 : aW d 58 35 [.ref o, l1, l2] S h Q = aW d 58 36 [.ref o, l1, l2] (.ref o :: S) h Q := ax_aload_n mt58 dX7_readStatement_35 rfl
theorem s58_36 (hT : gT h o = some (9, 5)) : aW d 58 36 L (.ref o :: S) h Q = (isRf (gR h o 4) = true ∧ aW d 58 39 L (gR h o 4 :: S) h Q) := ax_geta mt58 dX7_readStatement_36 (by decide) ft_28691 fk_28691 hT
theorem s58_39 (hT : gT h o = some (8, 12)) : aW d 58 39 L (.ref o :: S) h Q = (isRf (gR h o 3) = true ∧ aW d 58 42 L (gR h o 3 :: S) h Q) := ax_geta mt58 dX7_readStatement_39 (by decide) ft_28727 fk_28727 hT
theorem s58_42 : aW d 58 42 [l0, .int a, l2] S h Q = aW d 58 43 [l0, .int a, l2] (.int a :: S) h Q := ax_iload_n mt58 dX7_readStatement_42 rfl
theorem s58_43 : aW d 58 43 L (.int a :: .ref o :: S) h Q = (inb a (aZ h o) ∧ aW d 58 44 L (.int (gI h o a.toNatClampNeg) :: S) h Q) := ax_zald mt58 dX7_readStatement_43
theorem s58_44 : aW d 58 44 L (.int a :: S) h Q = (if a = 0 then aW d 58 49 L S h Q else aW d 58 47 L S h Q) := ax_if_eq mt58 dX7_readStatement_44 (by decide)
theorem s58_47 : aW d 58 47 L S h Q = aW d 58 48 L (.int (nI 0) :: S) h Q := ax_iconst mt58 dX7_readStatement_47 ic_0
theorem s58_48 : aW d 58 48 L [.int a] h Q = (b01 a ∧ Q (some (.int a)) h) := ax_retz mt58 dX7_readStatement_48 rfl
theorem s58_49 : aW d 58 49 [.ref o, l1, l2] S h Q = aW d 58 50 [.ref o, l1, l2] (.ref o :: S) h Q := ax_aload_n mt58 dX7_readStatement_49 rfl
theorem s58_50 : aW d 58 50 [.ref o, l1, l2] S h Q = aW d 58 51 [.ref o, l1, l2] (.ref o :: S) h Q := ax_aload_n mt58 dX7_readStatement_50 rfl
theorem s58_51 (hT : gT h o = some (9, 5)) : aW d 58 51 L (.ref o :: S) h Q = aW d 58 54 L (.int (gI h o 2) :: S) h Q := ax_geti mt58 dX7_readStatement_51 (by decide) ft_28704 fk_28704 hT
theorem s58_54 : aW d 58 54 L S h Q = aW d 58 55 L (.int (nI 1) :: S) h Q := ax_iconst mt58 dX7_readStatement_54 ic_1
theorem s58_55 : aW d 58 55 L (.int b :: .int a :: S) h Q = aW d 58 56 L (.int (a + b) :: S) h Q := ax_iadd mt58 dX7_readStatement_55
theorem s58_56 (hT : gT h o = some (9, 5)) : aW (d + 1) 58 56 L (.int x0 :: .ref o :: []) h Q = aM d 70 (.ref o :: [.int x0]) h (fun v h1 => aW (d + 1) 58 59 L (ab_ps v []) h1 Q) := ax_invv mt58 dX7_readStatement_56 (by decide) ct_28700 (.inl rfl) mt70 ⟨⟨Nat.le_of_ble_eq_true rfl, Nat.le_of_ble_eq_true rfl, Nat.le_of_ble_eq_true rfl⟩, rfl, rfl, rfl⟩ hT
theorem s58_59 : aW d 58 59 [.ref o, l1, l2] S h Q = aW d 58 60 [.ref o, l1, l2] (.ref o :: S) h Q := ax_aload_n mt58 dX7_readStatement_59 rfl
theorem s58_60 (hT : gT h o = some (9, 5)) : aW d 58 60 L (.ref o :: S) h Q = (isRf (gR h o 4) = true ∧ aW d 58 63 L (gR h o 4 :: S) h Q) := ax_geta mt58 dX7_readStatement_60 (by decide) ft_28691 fk_28691 hT
theorem s58_63 : aW d 58 63 [l0, .int a, l2] S h Q = aW d 58 64 [l0, .int a, l2] (.int a :: S) h Q := ax_iload_n mt58 dX7_readStatement_63 rfl
theorem s58_64 (hT : gT h o = some (8, 12)) : aW (d + 1) 58 64 L (.int x0 :: .ref o :: []) h Q = aM d 44 (.ref o :: [.int x0]) h (fun v h1 => aW (d + 1) 58 67 L (ab_ps v []) h1 Q) := ax_invv mt58 dX7_readStatement_64 (by decide) ct_28731 (.inl rfl) mt44 ⟨⟨Nat.le_of_ble_eq_true rfl, Nat.le_of_ble_eq_true rfl, Nat.le_of_ble_eq_true rfl⟩, rfl, rfl, rfl⟩ hT
theorem s58_67 : aW d 58 67 L (.int a :: S) h Q = (if a = 0 then aW d 58 78 L S h Q else aW d 58 70 L S h Q) := ax_if_eq mt58 dX7_readStatement_67 (by decide)
theorem s58_70 : aW d 58 70 [.ref o, l1, l2] S h Q = aW d 58 71 [.ref o, l1, l2] (.ref o :: S) h Q := ax_aload_n mt58 dX7_readStatement_70 rfl
theorem s58_71 : aW d 58 71 [l0, .int a, l2] S h Q = aW d 58 72 [l0, .int a, l2] (.int a :: S) h Q := ax_iload_n mt58 dX7_readStatement_71 rfl
theorem s58_72 (hT : gT h o = some (9, 5)) : aW (d + 1) 58 72 L (.int x0 :: .ref o :: []) h Q = aM d 59 (.ref o :: [.int x0]) h (fun v h1 => aW (d + 1) 58 75 L (ab_ps v []) h1 Q) := ax_invv mt58 dX7_readStatement_72 (by decide) ct_28734 (.inl rfl) mt59 ⟨⟨Nat.le_of_ble_eq_true rfl, Nat.le_of_ble_eq_true rfl, Nat.le_of_ble_eq_true rfl⟩, rfl, rfl, rfl⟩ hT
theorem s58_75 : aW d 58 75 L S h Q = aW d 58 83 L S h Q := ax_goto mt58 dX7_readStatement_75 (by decide)
theorem s58_83 : aW d 58 83 L [.int a] h Q = (b01 a ∧ Q (some (.int a)) h) := ax_retz mt58 dX7_readStatement_83 rfl
theorem s58_78 : aW d 58 78 [.ref o, l1, l2] S h Q = aW d 58 79 [.ref o, l1, l2] (.ref o :: S) h Q := ax_aload_n mt58 dX7_readStatement_78 rfl
theorem s58_79 : aW d 58 79 [l0, .int a, l2] S h Q = aW d 58 80 [l0, .int a, l2] (.int a :: S) h Q := ax_iload_n mt58 dX7_readStatement_79 rfl
theorem s58_80 (hT : gT h o = some (9, 5)) : aW (d + 1) 58 80 L (.int x0 :: .ref o :: []) h Q = aM d 60 (.ref o :: [.int x0]) h (fun v h1 => aW (d + 1) 58 83 L (ab_ps v []) h1 Q) := ax_invv mt58 dX7_readStatement_80 (by decide) ct_28737 (.inl rfl) mt60 ⟨⟨Nat.le_of_ble_eq_true rfl, Nat.le_of_ble_eq_true rfl, Nat.le_of_ble_eq_true rfl⟩, rfl, rfl, rfl⟩ hT
-- method 59: BufferRoom$Reader.readWanted(I)Z
theorem dX7_readWanted_0 : decode cX7_readWanted 0 = .ok (.aload_n 0, 1) := by decide +kernel
theorem dX7_readWanted_1 : decode cX7_readWanted 1 = .ok (.getfield 19, 3) := by decide +kernel
theorem dX7_readWanted_4 : decode cX7_readWanted 4 = .ok (.getfield 55, 3) := by decide +kernel
theorem dX7_readWanted_7 : decode cX7_readWanted 7 = .ok (.iload_n 1, 1) := by decide +kernel
theorem dX7_readWanted_8 : decode cX7_readWanted 8 = .ok (.iconst 1, 1) := by decide +kernel
theorem dX7_readWanted_9 : decode cX7_readWanted 9 = .ok (.bastore, 1) := by decide +kernel
theorem dX7_readWanted_10 : decode cX7_readWanted 10 = .ok (.aload_n 0, 1) := by decide +kernel
theorem dX7_readWanted_11 : decode cX7_readWanted 11 = .ok (.bipush 33, 2) := by decide +kernel
theorem dX7_readWanted_13 : decode cX7_readWanted 13 = .ok (.invokevirtual 68, 3) := by decide +kernel
theorem dX7_readWanted_16 : decode cX7_readWanted 16 = .ok (.ifCond .eq 16, 3) := by decide +kernel
theorem dX7_readWanted_19 : decode cX7_readWanted 19 = .ok (.aload_n 0, 1) := by decide +kernel
theorem dX7_readWanted_20 : decode cX7_readWanted 20 = .ok (.bipush 59, 2) := by decide +kernel
theorem dX7_readWanted_22 : decode cX7_readWanted 22 = .ok (.invokevirtual 68, 3) := by decide +kernel
theorem dX7_readWanted_25 : decode cX7_readWanted 25 = .ok (.ifCond .eq 7, 3) := by decide +kernel
theorem dX7_readWanted_28 : decode cX7_readWanted 28 = .ok (.iconst 1, 1) := by decide +kernel
theorem dX7_readWanted_29 : decode cX7_readWanted 29 = .ok (.goto 4, 3) := by decide +kernel
theorem dX7_readWanted_32 : decode cX7_readWanted 32 = .ok (.iconst 0, 1) := by decide +kernel
theorem dX7_readWanted_33 : decode cX7_readWanted 33 = .ok (.ireturn, 1) := by decide +kernel
theorem s59_0 : aW d 59 0 [.ref o, l1] S h Q = aW d 59 1 [.ref o, l1] (.ref o :: S) h Q := ax_aload_n mt59 dX7_readWanted_0 rfl
theorem s59_1 (hT : gT h o = some (9, 5)) : aW d 59 1 L (.ref o :: S) h Q = (isRf (gR h o 4) = true ∧ aW d 59 4 L (gR h o 4 :: S) h Q) := ax_geta mt59 dX7_readWanted_1 (by decide) ft_28691 fk_28691 hT
theorem s59_4 (hT : gT h o = some (8, 12)) : aW d 59 4 L (.ref o :: S) h Q = (isRf (gR h o 3) = true ∧ aW d 59 7 L (gR h o 3 :: S) h Q) := ax_geta mt59 dX7_readWanted_4 (by decide) ft_28727 fk_28727 hT
theorem s59_7 : aW d 59 7 [l0, .int a] S h Q = aW d 59 8 [l0, .int a] (.int a :: S) h Q := ax_iload_n mt59 dX7_readWanted_7 rfl
theorem s59_8 : aW d 59 8 L S h Q = aW d 59 9 L (.int (nI 1) :: S) h Q := ax_iconst mt59 dX7_readWanted_8 ic_1
theorem s59_9 : aW d 59 9 L (.int b :: .int a :: .ref o :: S) h Q = ((inb a (aZ h o) ∧ b01 b) ∧ aW d 59 10 L S (pI h o a.toNatClampNeg b) Q) := ax_zast mt59 dX7_readWanted_9
theorem s59_10 : aW d 59 10 [.ref o, l1] S h Q = aW d 59 11 [.ref o, l1] (.ref o :: S) h Q := ax_aload_n mt59 dX7_readWanted_10 rfl
theorem s59_11 : aW d 59 11 L S h Q = aW d 59 13 L (.int (nI 33) :: S) h Q := ax_bipush mt59 dX7_readWanted_11 bp_33
theorem s59_13 (hT : gT h o = some (9, 5)) : aW (d + 1) 59 13 L (.int x0 :: .ref o :: []) h Q = aM d 67 (.ref o :: [.int x0]) h (fun v h1 => aW (d + 1) 59 16 L (ab_ps v []) h1 Q) := ax_invv mt59 dX7_readWanted_13 (by decide) ct_28740 (.inl rfl) mt67 ⟨⟨Nat.le_of_ble_eq_true rfl, Nat.le_of_ble_eq_true rfl, Nat.le_of_ble_eq_true rfl⟩, rfl, rfl, rfl⟩ hT
theorem s59_16 : aW d 59 16 L (.int a :: S) h Q = (if a = 0 then aW d 59 32 L S h Q else aW d 59 19 L S h Q) := ax_if_eq mt59 dX7_readWanted_16 (by decide)
theorem s59_19 : aW d 59 19 [.ref o, l1] S h Q = aW d 59 20 [.ref o, l1] (.ref o :: S) h Q := ax_aload_n mt59 dX7_readWanted_19 rfl
theorem s59_20 : aW d 59 20 L S h Q = aW d 59 22 L (.int (nI 59) :: S) h Q := ax_bipush mt59 dX7_readWanted_20 bp_59
theorem s59_22 (hT : gT h o = some (9, 5)) : aW (d + 1) 59 22 L (.int x0 :: .ref o :: []) h Q = aM d 67 (.ref o :: [.int x0]) h (fun v h1 => aW (d + 1) 59 25 L (ab_ps v []) h1 Q) := ax_invv mt59 dX7_readWanted_22 (by decide) ct_28740 (.inl rfl) mt67 ⟨⟨Nat.le_of_ble_eq_true rfl, Nat.le_of_ble_eq_true rfl, Nat.le_of_ble_eq_true rfl⟩, rfl, rfl, rfl⟩ hT
theorem s59_25 : aW d 59 25 L (.int a :: S) h Q = (if a = 0 then aW d 59 32 L S h Q else aW d 59 28 L S h Q) := ax_if_eq mt59 dX7_readWanted_25 (by decide)
theorem s59_28 : aW d 59 28 L S h Q = aW d 59 29 L (.int (nI 1) :: S) h Q := ax_iconst mt59 dX7_readWanted_28 ic_1
theorem s59_29 : aW d 59 29 L S h Q = aW d 59 33 L S h Q := ax_goto mt59 dX7_readWanted_29 (by decide)
theorem s59_33 : aW d 59 33 L [.int a] h Q = (b01 a ∧ Q (some (.int a)) h) := ax_retz mt59 dX7_readWanted_33 rfl
theorem s59_32 : aW d 59 32 L S h Q = aW d 59 33 L (.int (nI 0) :: S) h Q := ax_iconst mt59 dX7_readWanted_32 ic_0
-- method 60: BufferRoom$Reader.readSize(I)Z
theorem dX7_readSize_0 : decode cX7_readSize 0 = .ok (.aload_n 0, 1) := by decide +kernel
theorem dX7_readSize_1 : decode cX7_readSize 1 = .ok (.bipush 61, 2) := by decide +kernel
theorem dX7_readSize_3 : decode cX7_readSize 3 = .ok (.invokevirtual 68, 3) := by decide +kernel
theorem dX7_readSize_6 : decode cX7_readSize 6 = .ok (.ifCond .ne 5, 3) := by decide +kernel
theorem dX7_readSize_9 : decode cX7_readSize 9 = .ok (.iconst 0, 1) := by decide +kernel
theorem dX7_readSize_10 : decode cX7_readSize 10 = .ok (.ireturn, 1) := by decide +kernel
theorem dX7_readSize_11 : decode cX7_readSize 11 = .ok (.iconst 0, 1) := by decide +kernel
theorem dX7_readSize_12 : decode cX7_readSize 12 = .ok (.istore_n 2, 1) := by decide +kernel
theorem dX7_readSize_13 : decode cX7_readSize 13 = .ok (.iload_n 2, 1) := by decide +kernel
theorem dX7_readSize_14 : decode cX7_readSize 14 = .ok (.iconst 4, 1) := by decide +kernel
theorem dX7_readSize_15 : decode cX7_readSize 15 = .ok (.if_icmp .ge 41, 3) := by decide +kernel
theorem dX7_readSize_18 : decode cX7_readSize 18 = .ok (.aload_n 0, 1) := by decide +kernel
theorem dX7_readSize_19 : decode cX7_readSize 19 = .ok (.iload_n 1, 1) := by decide +kernel
theorem dX7_readSize_20 : decode cX7_readSize 20 = .ok (.invokevirtual 71, 3) := by decide +kernel
theorem dX7_readSize_23 : decode cX7_readSize 23 = .ok (.ifCond .ne 5, 3) := by decide +kernel
theorem dX7_readSize_26 : decode cX7_readSize 26 = .ok (.iconst 0, 1) := by decide +kernel
theorem dX7_readSize_27 : decode cX7_readSize 27 = .ok (.ireturn, 1) := by decide +kernel
theorem dX7_readSize_28 : decode cX7_readSize 28 = .ok (.aload_n 0, 1) := by decide +kernel
theorem dX7_readSize_29 : decode cX7_readSize 29 = .ok (.bipush 59, 2) := by decide +kernel
theorem dX7_readSize_31 : decode cX7_readSize 31 = .ok (.invokevirtual 68, 3) := by decide +kernel
theorem dX7_readSize_34 : decode cX7_readSize 34 = .ok (.ifCond .eq 5, 3) := by decide +kernel
theorem dX7_readSize_37 : decode cX7_readSize 37 = .ok (.iconst 1, 1) := by decide +kernel
theorem dX7_readSize_38 : decode cX7_readSize 38 = .ok (.ireturn, 1) := by decide +kernel
theorem dX7_readSize_39 : decode cX7_readSize 39 = .ok (.aload_n 0, 1) := by decide +kernel
theorem dX7_readSize_40 : decode cX7_readSize 40 = .ok (.bipush 43, 2) := by decide +kernel
theorem dX7_readSize_42 : decode cX7_readSize 42 = .ok (.invokevirtual 68, 3) := by decide +kernel
theorem dX7_readSize_45 : decode cX7_readSize 45 = .ok (.ifCond .ne 5, 3) := by decide +kernel
theorem dX7_readSize_48 : decode cX7_readSize 48 = .ok (.iconst 0, 1) := by decide +kernel
theorem dX7_readSize_49 : decode cX7_readSize 49 = .ok (.ireturn, 1) := by decide +kernel
theorem dX7_readSize_50 : decode cX7_readSize 50 = .ok (.iinc 2 1, 3) := by decide +kernel
theorem dX7_readSize_53 : decode cX7_readSize 53 = .ok (.goto (-40), 3) := by decide +kernel
theorem dX7_readSize_56 : decode cX7_readSize 56 = .ok (.iconst 0, 1) := by decide +kernel
theorem dX7_readSize_57 : decode cX7_readSize 57 = .ok (.ireturn, 1) := by decide +kernel
theorem s60_0 : aW d 60 0 [.ref o, l1, l2] S h Q = aW d 60 1 [.ref o, l1, l2] (.ref o :: S) h Q := ax_aload_n mt60 dX7_readSize_0 rfl
theorem s60_1 : aW d 60 1 L S h Q = aW d 60 3 L (.int (nI 61) :: S) h Q := ax_bipush mt60 dX7_readSize_1 bp_61
theorem s60_3 (hT : gT h o = some (9, 5)) : aW (d + 1) 60 3 L (.int x0 :: .ref o :: []) h Q = aM d 67 (.ref o :: [.int x0]) h (fun v h1 => aW (d + 1) 60 6 L (ab_ps v []) h1 Q) := ax_invv mt60 dX7_readSize_3 (by decide) ct_28740 (.inl rfl) mt67 ⟨⟨Nat.le_of_ble_eq_true rfl, Nat.le_of_ble_eq_true rfl, Nat.le_of_ble_eq_true rfl⟩, rfl, rfl, rfl⟩ hT
theorem s60_6 : aW d 60 6 L (.int a :: S) h Q = (if a = 0 then aW d 60 9 L S h Q else aW d 60 11 L S h Q) := ax_if_ne mt60 dX7_readSize_6 (by decide)
theorem s60_9 : aW d 60 9 L S h Q = aW d 60 10 L (.int (nI 0) :: S) h Q := ax_iconst mt60 dX7_readSize_9 ic_0
theorem s60_10 : aW d 60 10 L [.int a] h Q = (b01 a ∧ Q (some (.int a)) h) := ax_retz mt60 dX7_readSize_10 rfl
theorem s60_11 : aW d 60 11 L S h Q = aW d 60 12 L (.int (nI 0) :: S) h Q := ax_iconst mt60 dX7_readSize_11 ic_0
theorem s60_12 : aW d 60 12 [l0, l1, l2] (.int a :: S) h Q = aW d 60 13 [l0, l1, .int a] S h Q := ax_istore_n mt60 dX7_readSize_12 (Nat.le_of_ble_eq_true rfl) rfl
theorem s60_13 : aW d 60 13 [l0, l1, .int a] S h Q = aW d 60 14 [l0, l1, .int a] (.int a :: S) h Q := ax_iload_n mt60 dX7_readSize_13 rfl
theorem s60_14 : aW d 60 14 L S h Q = aW d 60 15 L (.int (nI 4) :: S) h Q := ax_iconst mt60 dX7_readSize_14 ic_4
theorem s60_15 : aW d 60 15 L (.int b :: .int a :: S) h Q = (if a < b then aW d 60 18 L S h Q else aW d 60 56 L S h Q) := ax_icmp_ge mt60 dX7_readSize_15 (by decide)
theorem s60_18 : aW d 60 18 [.ref o, l1, l2] S h Q = aW d 60 19 [.ref o, l1, l2] (.ref o :: S) h Q := ax_aload_n mt60 dX7_readSize_18 rfl
theorem s60_19 : aW d 60 19 [l0, .int a, l2] S h Q = aW d 60 20 [l0, .int a, l2] (.int a :: S) h Q := ax_iload_n mt60 dX7_readSize_19 rfl
theorem s60_20 (hT : gT h o = some (9, 5)) : aW (d + 1) 60 20 L (.int x0 :: .ref o :: []) h Q = aM d 61 (.ref o :: [.int x0]) h (fun v h1 => aW (d + 1) 60 23 L (ab_ps v []) h1 Q) := ax_invv mt60 dX7_readSize_20 (by decide) ct_28743 (.inl rfl) mt61 ⟨⟨Nat.le_of_ble_eq_true rfl, Nat.le_of_ble_eq_true rfl, Nat.le_of_ble_eq_true rfl⟩, rfl, rfl, rfl⟩ hT
theorem s60_23 : aW d 60 23 L (.int a :: S) h Q = (if a = 0 then aW d 60 26 L S h Q else aW d 60 28 L S h Q) := ax_if_ne mt60 dX7_readSize_23 (by decide)
theorem s60_26 : aW d 60 26 L S h Q = aW d 60 27 L (.int (nI 0) :: S) h Q := ax_iconst mt60 dX7_readSize_26 ic_0
theorem s60_27 : aW d 60 27 L [.int a] h Q = (b01 a ∧ Q (some (.int a)) h) := ax_retz mt60 dX7_readSize_27 rfl
theorem s60_28 : aW d 60 28 [.ref o, l1, l2] S h Q = aW d 60 29 [.ref o, l1, l2] (.ref o :: S) h Q := ax_aload_n mt60 dX7_readSize_28 rfl
theorem s60_29 : aW d 60 29 L S h Q = aW d 60 31 L (.int (nI 59) :: S) h Q := ax_bipush mt60 dX7_readSize_29 bp_59
theorem s60_31 (hT : gT h o = some (9, 5)) : aW (d + 1) 60 31 L (.int x0 :: .ref o :: []) h Q = aM d 67 (.ref o :: [.int x0]) h (fun v h1 => aW (d + 1) 60 34 L (ab_ps v []) h1 Q) := ax_invv mt60 dX7_readSize_31 (by decide) ct_28740 (.inl rfl) mt67 ⟨⟨Nat.le_of_ble_eq_true rfl, Nat.le_of_ble_eq_true rfl, Nat.le_of_ble_eq_true rfl⟩, rfl, rfl, rfl⟩ hT
theorem s60_34 : aW d 60 34 L (.int a :: S) h Q = (if a = 0 then aW d 60 39 L S h Q else aW d 60 37 L S h Q) := ax_if_eq mt60 dX7_readSize_34 (by decide)
theorem s60_37 : aW d 60 37 L S h Q = aW d 60 38 L (.int (nI 1) :: S) h Q := ax_iconst mt60 dX7_readSize_37 ic_1
theorem s60_38 : aW d 60 38 L [.int a] h Q = (b01 a ∧ Q (some (.int a)) h) := ax_retz mt60 dX7_readSize_38 rfl
theorem s60_39 : aW d 60 39 [.ref o, l1, l2] S h Q = aW d 60 40 [.ref o, l1, l2] (.ref o :: S) h Q := ax_aload_n mt60 dX7_readSize_39 rfl
theorem s60_40 : aW d 60 40 L S h Q = aW d 60 42 L (.int (nI 43) :: S) h Q := ax_bipush mt60 dX7_readSize_40 bp_43
theorem s60_42 (hT : gT h o = some (9, 5)) : aW (d + 1) 60 42 L (.int x0 :: .ref o :: []) h Q = aM d 67 (.ref o :: [.int x0]) h (fun v h1 => aW (d + 1) 60 45 L (ab_ps v []) h1 Q) := ax_invv mt60 dX7_readSize_42 (by decide) ct_28740 (.inl rfl) mt67 ⟨⟨Nat.le_of_ble_eq_true rfl, Nat.le_of_ble_eq_true rfl, Nat.le_of_ble_eq_true rfl⟩, rfl, rfl, rfl⟩ hT
theorem s60_45 : aW d 60 45 L (.int a :: S) h Q = (if a = 0 then aW d 60 48 L S h Q else aW d 60 50 L S h Q) := ax_if_ne mt60 dX7_readSize_45 (by decide)
theorem s60_48 : aW d 60 48 L S h Q = aW d 60 49 L (.int (nI 0) :: S) h Q := ax_iconst mt60 dX7_readSize_48 ic_0
theorem s60_49 : aW d 60 49 L [.int a] h Q = (b01 a ∧ Q (some (.int a)) h) := ax_retz mt60 dX7_readSize_49 rfl
theorem s60_50 : aW d 60 50 [l0, l1, .int a] S h Q = aW d 60 53 [l0, l1, .int (a + nI 1)] S h Q := ax_iinc mt60 dX7_readSize_50 rfl ic_1 rfl
theorem s60_53 : aW d 60 53 L S h Q = aW d 60 13 L S h Q := ax_goto mt60 dX7_readSize_53 (by decide)
theorem s60_56 : aW d 60 56 L S h Q = aW d 60 57 L (.int (nI 0) :: S) h Q := ax_iconst mt60 dX7_readSize_56 ic_0
theorem s60_57 : aW d 60 57 L [.int a] h Q = (b01 a ∧ Q (some (.int a)) h) := ax_retz mt60 dX7_readSize_57 rfl
-- method 61: BufferRoom$Reader.readTerm(I)Z
theorem dX7_readTerm_0 : decode cX7_readTerm 0 = .ok (.aload_n 0, 1) := by decide +kernel
theorem dX7_readTerm_1 : decode cX7_readTerm 1 = .ok (.invokevirtual 74, 3) := by decide +kernel
theorem dX7_readTerm_4 : decode cX7_readTerm 4 = .ok (.istore_n 2, 1) := by decide +kernel
theorem dX7_readTerm_5 : decode cX7_readTerm 5 = .ok (.iload_n 2, 1) := by decide +kernel
theorem dX7_readTerm_6 : decode cX7_readTerm 6 = .ok (.ifCond .ge 5, 3) := by decide +kernel
theorem dX7_readTerm_9 : decode cX7_readTerm 9 = .ok (.iconst 0, 1) := by decide +kernel
theorem dX7_readTerm_10 : decode cX7_readTerm 10 = .ok (.ireturn, 1) := by decide +kernel
theorem dX7_readTerm_11 : decode cX7_readTerm 11 = .ok (.aload_n 0, 1) := by decide +kernel
theorem dX7_readTerm_12 : decode cX7_readTerm 12 = .ok (.getfield 77, 3) := by decide +kernel
theorem dX7_readTerm_15 : decode cX7_readTerm 15 = .ok (.bipush 65, 2) := by decide +kernel
theorem dX7_readTerm_17 : decode cX7_readTerm 17 = .ok (.isub, 1) := by decide +kernel
theorem dX7_readTerm_18 : decode cX7_readTerm 18 = .ok (.istore_n 3, 1) := by decide +kernel
theorem dX7_readTerm_19 : decode cX7_readTerm 19 = .ok (.iload_n 3, 1) := by decide +kernel
theorem dX7_readTerm_20 : decode cX7_readTerm 20 = .ok (.ifCond .lt 21, 3) := by decide +kernel
theorem dX7_readTerm_23 : decode cX7_readTerm 23 = .ok (.iload_n 3, 1) := by decide +kernel
theorem dX7_readTerm_24 : decode cX7_readTerm 24 = .ok (.iconst 4, 1) := by decide +kernel
theorem dX7_readTerm_25 : decode cX7_readTerm 25 = .ok (.if_icmp .ge 16, 3) := by decide +kernel
theorem dX7_readTerm_28 : decode cX7_readTerm 28 = .ok (.aload_n 0, 1) := by decide +kernel
theorem dX7_readTerm_29 : decode cX7_readTerm 29 = .ok (.aload_n 0, 1) := by decide +kernel
theorem dX7_readTerm_30 : decode cX7_readTerm 30 = .ok (.getfield 32, 3) := by decide +kernel
theorem dX7_readTerm_33 : decode cX7_readTerm 33 = .ok (.iconst 1, 1) := by decide +kernel
theorem dX7_readTerm_34 : decode cX7_readTerm 34 = .ok (.iadd, 1) := by decide +kernel
theorem dX7_readTerm_35 : decode cX7_readTerm 35 = .ok (.invokevirtual 28, 3) := by decide +kernel
theorem dX7_readTerm_38 : decode cX7_readTerm 38 = .ok (.goto 5, 3) := by decide +kernel
theorem dX7_readTerm_41 : decode cX7_readTerm 41 = .ok (.iconst (-1), 1) := by decide +kernel
theorem dX7_readTerm_42 : decode cX7_readTerm 42 = .ok (.istore_n 3, 1) := by decide +kernel
theorem dX7_readTerm_43 : decode cX7_readTerm 43 = .ok (.aload_n 0, 1) := by decide +kernel
theorem dX7_readTerm_44 : decode cX7_readTerm 44 = .ok (.getfield 19, 3) := by decide +kernel
theorem dX7_readTerm_47 : decode cX7_readTerm 47 = .ok (.iload_n 1, 1) := by decide +kernel
theorem dX7_readTerm_48 : decode cX7_readTerm 48 = .ok (.iload_n 2, 1) := by decide +kernel
theorem dX7_readTerm_49 : decode cX7_readTerm 49 = .ok (.iload_n 3, 1) := by decide +kernel
theorem dX7_readTerm_50 : decode cX7_readTerm 50 = .ok (.invokevirtual 80, 3) := by decide +kernel
theorem dX7_readTerm_53 : decode cX7_readTerm 53 = .ok (.iconst 1, 1) := by decide +kernel
theorem dX7_readTerm_54 : decode cX7_readTerm 54 = .ok (.ireturn, 1) := by decide +kernel
theorem s61_0 : aW d 61 0 [.ref o, l1, l2, l3] S h Q = aW d 61 1 [.ref o, l1, l2, l3] (.ref o :: S) h Q := ax_aload_n mt61 dX7_readTerm_0 rfl
theorem s61_1 (hT : gT h o = some (9, 5)) : aW (d + 1) 61 1 L (.ref o :: []) h Q = aM d 66 (.ref o :: []) h (fun v h1 => aW (d + 1) 61 4 L (ab_ps v []) h1 Q) := ax_invv mt61 dX7_readTerm_1 (by decide) ct_28746 (.inl rfl) mt66 ⟨⟨Nat.le_of_ble_eq_true rfl, Nat.le_of_ble_eq_true rfl, Nat.le_of_ble_eq_true rfl⟩, rfl, rfl, rfl⟩ hT
theorem s61_4 : aW d 61 4 [l0, l1, l2, l3] (.int a :: S) h Q = aW d 61 5 [l0, l1, .int a, l3] S h Q := ax_istore_n mt61 dX7_readTerm_4 (Nat.le_of_ble_eq_true rfl) rfl
theorem s61_5 : aW d 61 5 [l0, l1, .int a, l3] S h Q = aW d 61 6 [l0, l1, .int a, l3] (.int a :: S) h Q := ax_iload_n mt61 dX7_readTerm_5 rfl
theorem s61_6 : aW d 61 6 L (.int a :: S) h Q = (if a < 0 then aW d 61 9 L S h Q else aW d 61 11 L S h Q) := ax_if_ge mt61 dX7_readTerm_6 (by decide)
theorem s61_9 : aW d 61 9 L S h Q = aW d 61 10 L (.int (nI 0) :: S) h Q := ax_iconst mt61 dX7_readTerm_9 ic_0
theorem s61_10 : aW d 61 10 L [.int a] h Q = (b01 a ∧ Q (some (.int a)) h) := ax_retz mt61 dX7_readTerm_10 rfl
theorem s61_11 : aW d 61 11 [.ref o, l1, l2, l3] S h Q = aW d 61 12 [.ref o, l1, l2, l3] (.ref o :: S) h Q := ax_aload_n mt61 dX7_readTerm_11 rfl
theorem s61_12 (hT : gT h o = some (9, 5)) : aW d 61 12 L (.ref o :: S) h Q = aW d 61 15 L (.int (gI h o 3) :: S) h Q := ax_geti mt61 dX7_readTerm_12 (by decide) ft_28749 fk_28749 hT
theorem s61_15 : aW d 61 15 L S h Q = aW d 61 17 L (.int (nI 65) :: S) h Q := ax_bipush mt61 dX7_readTerm_15 bp_65
theorem s61_17 : aW d 61 17 L (.int b :: .int a :: S) h Q = aW d 61 18 L (.int (a - b) :: S) h Q := ax_isub mt61 dX7_readTerm_17
theorem s61_18 : aW d 61 18 [l0, l1, l2, l3] (.int a :: S) h Q = aW d 61 19 [l0, l1, l2, .int a] S h Q := ax_istore_n mt61 dX7_readTerm_18 (Nat.le_of_ble_eq_true rfl) rfl
theorem s61_19 : aW d 61 19 [l0, l1, l2, .int a] S h Q = aW d 61 20 [l0, l1, l2, .int a] (.int a :: S) h Q := ax_iload_n mt61 dX7_readTerm_19 rfl
theorem s61_20 : aW d 61 20 L (.int a :: S) h Q = (if a < 0 then aW d 61 41 L S h Q else aW d 61 23 L S h Q) := ax_if_lt mt61 dX7_readTerm_20 (by decide)
theorem s61_23 : aW d 61 23 [l0, l1, l2, .int a] S h Q = aW d 61 24 [l0, l1, l2, .int a] (.int a :: S) h Q := ax_iload_n mt61 dX7_readTerm_23 rfl
theorem s61_24 : aW d 61 24 L S h Q = aW d 61 25 L (.int (nI 4) :: S) h Q := ax_iconst mt61 dX7_readTerm_24 ic_4
theorem s61_25 : aW d 61 25 L (.int b :: .int a :: S) h Q = (if a < b then aW d 61 28 L S h Q else aW d 61 41 L S h Q) := ax_icmp_ge mt61 dX7_readTerm_25 (by decide)
theorem s61_28 : aW d 61 28 [.ref o, l1, l2, l3] S h Q = aW d 61 29 [.ref o, l1, l2, l3] (.ref o :: S) h Q := ax_aload_n mt61 dX7_readTerm_28 rfl
theorem s61_29 : aW d 61 29 [.ref o, l1, l2, l3] S h Q = aW d 61 30 [.ref o, l1, l2, l3] (.ref o :: S) h Q := ax_aload_n mt61 dX7_readTerm_29 rfl
theorem s61_30 (hT : gT h o = some (9, 5)) : aW d 61 30 L (.ref o :: S) h Q = aW d 61 33 L (.int (gI h o 2) :: S) h Q := ax_geti mt61 dX7_readTerm_30 (by decide) ft_28704 fk_28704 hT
theorem s61_33 : aW d 61 33 L S h Q = aW d 61 34 L (.int (nI 1) :: S) h Q := ax_iconst mt61 dX7_readTerm_33 ic_1
theorem s61_34 : aW d 61 34 L (.int b :: .int a :: S) h Q = aW d 61 35 L (.int (a + b) :: S) h Q := ax_iadd mt61 dX7_readTerm_34
theorem s61_35 (hT : gT h o = some (9, 5)) : aW (d + 1) 61 35 L (.int x0 :: .ref o :: []) h Q = aM d 70 (.ref o :: [.int x0]) h (fun v h1 => aW (d + 1) 61 38 L (ab_ps v []) h1 Q) := ax_invv mt61 dX7_readTerm_35 (by decide) ct_28700 (.inl rfl) mt70 ⟨⟨Nat.le_of_ble_eq_true rfl, Nat.le_of_ble_eq_true rfl, Nat.le_of_ble_eq_true rfl⟩, rfl, rfl, rfl⟩ hT
theorem s61_38 : aW d 61 38 L S h Q = aW d 61 43 L S h Q := ax_goto mt61 dX7_readTerm_38 (by decide)
theorem s61_43 : aW d 61 43 [.ref o, l1, l2, l3] S h Q = aW d 61 44 [.ref o, l1, l2, l3] (.ref o :: S) h Q := ax_aload_n mt61 dX7_readTerm_43 rfl
theorem s61_44 (hT : gT h o = some (9, 5)) : aW d 61 44 L (.ref o :: S) h Q = (isRf (gR h o 4) = true ∧ aW d 61 47 L (gR h o 4 :: S) h Q) := ax_geta mt61 dX7_readTerm_44 (by decide) ft_28691 fk_28691 hT
theorem s61_47 : aW d 61 47 [l0, .int a, l2, l3] S h Q = aW d 61 48 [l0, .int a, l2, l3] (.int a :: S) h Q := ax_iload_n mt61 dX7_readTerm_47 rfl
theorem s61_48 : aW d 61 48 [l0, l1, .int a, l3] S h Q = aW d 61 49 [l0, l1, .int a, l3] (.int a :: S) h Q := ax_iload_n mt61 dX7_readTerm_48 rfl
theorem s61_49 : aW d 61 49 [l0, l1, l2, .int a] S h Q = aW d 61 50 [l0, l1, l2, .int a] (.int a :: S) h Q := ax_iload_n mt61 dX7_readTerm_49 rfl
theorem s61_50 (hT : gT h o = some (8, 12)) : aW (d + 1) 61 50 L (.int x2 :: .int x1 :: .int x0 :: .ref o :: []) h Q = aM d 46 (.ref o :: [.int x0, .int x1, .int x2]) h (fun v h1 => aW (d + 1) 61 53 L (ab_ps v []) h1 Q) := ax_invv mt61 dX7_readTerm_50 (by decide) ct_28752 (.inl rfl) mt46 ⟨⟨Nat.le_of_ble_eq_true rfl, Nat.le_of_ble_eq_true rfl, Nat.le_of_ble_eq_true rfl⟩, rfl, rfl, rfl⟩ hT
theorem s61_53 : aW d 61 53 L S h Q = aW d 61 54 L (.int (nI 1) :: S) h Q := ax_iconst mt61 dX7_readTerm_53 ic_1
theorem s61_54 : aW d 61 54 L [.int a] h Q = (b01 a ∧ Q (some (.int a)) h) := ax_retz mt61 dX7_readTerm_54 rfl
theorem s61_41 : aW d 61 41 L S h Q = aW d 61 42 L (.int ((-1)) :: S) h Q := ax_iconst mt61 dX7_readTerm_41 ic_m1
theorem s61_42 : aW d 61 42 [l0, l1, l2, l3] (.int a :: S) h Q = aW d 61 43 [l0, l1, l2, .int a] S h Q := ax_istore_n mt61 dX7_readTerm_42 (Nat.le_of_ble_eq_true rfl) rfl
-- method 62: BufferRoom$Reader.readStep(I)Z
theorem dX7_readStep_0 : decode cX7_readStep 0 = .ok (.aload_n 0, 1) := by decide +kernel
theorem dX7_readStep_1 : decode cX7_readStep 1 = .ok (.getfield 19, 3) := by decide +kernel
theorem dX7_readStep_4 : decode cX7_readStep 4 = .ok (.getfield 84, 3) := by decide +kernel
theorem dX7_readStep_7 : decode cX7_readStep 7 = .ok (.bipush 10, 2) := by decide +kernel
theorem dX7_readStep_9 : decode cX7_readStep 9 = .ok (.if_icmp .lt 5, 3) := by decide +kernel
theorem dX7_readStep_12 : decode cX7_readStep 12 = .ok (.iconst 0, 1) := by decide +kernel
theorem dX7_readStep_13 : decode cX7_readStep 13 = .ok (.ireturn, 1) := by decide +kernel
theorem dX7_readStep_14 : decode cX7_readStep 14 = .ok (.aload_n 0, 1) := by decide +kernel
theorem dX7_readStep_15 : decode cX7_readStep 15 = .ok (.aload_n 0, 1) := by decide +kernel
theorem dX7_readStep_16 : decode cX7_readStep 16 = .ok (.getfield 32, 3) := by decide +kernel
theorem dX7_readStep_19 : decode cX7_readStep 19 = .ok (.iconst 1, 1) := by decide +kernel
theorem dX7_readStep_20 : decode cX7_readStep 20 = .ok (.iadd, 1) := by decide +kernel
theorem dX7_readStep_21 : decode cX7_readStep 21 = .ok (.invokevirtual 28, 3) := by decide +kernel
theorem dX7_readStep_24 : decode cX7_readStep 24 = .ok (.aload_n 0, 1) := by decide +kernel
theorem dX7_readStep_25 : decode cX7_readStep 25 = .ok (.getfield 19, 3) := by decide +kernel
theorem dX7_readStep_28 : decode cX7_readStep 28 = .ok (.iload_n 1, 1) := by decide +kernel
theorem dX7_readStep_29 : decode cX7_readStep 29 = .ok (.invokevirtual 87, 3) := by decide +kernel
theorem dX7_readStep_32 : decode cX7_readStep 32 = .ok (.istore_n 2, 1) := by decide +kernel
theorem dX7_readStep_33 : decode cX7_readStep 33 = .ok (.aload_n 0, 1) := by decide +kernel
theorem dX7_readStep_34 : decode cX7_readStep 34 = .ok (.iload_n 2, 1) := by decide +kernel
theorem dX7_readStep_35 : decode cX7_readStep 35 = .ok (.invokevirtual 91, 3) := by decide +kernel
theorem dX7_readStep_38 : decode cX7_readStep 38 = .ok (.aload_n 0, 1) := by decide +kernel
theorem dX7_readStep_39 : decode cX7_readStep 39 = .ok (.bipush 62, 2) := by decide +kernel
theorem dX7_readStep_41 : decode cX7_readStep 41 = .ok (.invokevirtual 68, 3) := by decide +kernel
theorem dX7_readStep_44 : decode cX7_readStep 44 = .ok (.ifCond .eq 32, 3) := by decide +kernel
theorem dX7_readStep_47 : decode cX7_readStep 47 = .ok (.aload_n 0, 1) := by decide +kernel
theorem dX7_readStep_48 : decode cX7_readStep 48 = .ok (.iload_n 2, 1) := by decide +kernel
theorem dX7_readStep_49 : decode cX7_readStep 49 = .ok (.invokevirtual 94, 3) := by decide +kernel
theorem dX7_readStep_52 : decode cX7_readStep 52 = .ok (.ifCond .eq 24, 3) := by decide +kernel
theorem dX7_readStep_55 : decode cX7_readStep 55 = .ok (.aload_n 0, 1) := by decide +kernel
theorem dX7_readStep_56 : decode cX7_readStep 56 = .ok (.iload_n 2, 1) := by decide +kernel
theorem dX7_readStep_57 : decode cX7_readStep 57 = .ok (.invokevirtual 97, 3) := by decide +kernel
theorem dX7_readStep_60 : decode cX7_readStep 60 = .ok (.ifCond .eq 16, 3) := by decide +kernel
theorem dX7_readStep_63 : decode cX7_readStep 63 = .ok (.aload_n 0, 1) := by decide +kernel
theorem dX7_readStep_64 : decode cX7_readStep 64 = .ok (.bipush 59, 2) := by decide +kernel
theorem dX7_readStep_66 : decode cX7_readStep 66 = .ok (.invokevirtual 68, 3) := by decide +kernel
theorem dX7_readStep_69 : decode cX7_readStep 69 = .ok (.ifCond .eq 7, 3) := by decide +kernel
theorem dX7_readStep_72 : decode cX7_readStep 72 = .ok (.iconst 1, 1) := by decide +kernel
theorem dX7_readStep_73 : decode cX7_readStep 73 = .ok (.goto 4, 3) := by decide +kernel
theorem dX7_readStep_76 : decode cX7_readStep 76 = .ok (.iconst 0, 1) := by decide +kernel
theorem dX7_readStep_77 : decode cX7_readStep 77 = .ok (.ireturn, 1) := by decide +kernel
theorem s62_0 : aW d 62 0 [.ref o, l1, l2] S h Q = aW d 62 1 [.ref o, l1, l2] (.ref o :: S) h Q := ax_aload_n mt62 dX7_readStep_0 rfl
theorem s62_1 (hT : gT h o = some (9, 5)) : aW d 62 1 L (.ref o :: S) h Q = (isRf (gR h o 4) = true ∧ aW d 62 4 L (gR h o 4 :: S) h Q) := ax_geta mt62 dX7_readStep_1 (by decide) ft_28691 fk_28691 hT
theorem s62_4 (hT : gT h o = some (8, 12)) : aW d 62 4 L (.ref o :: S) h Q = aW d 62 7 L (.int (gI h o 6) :: S) h Q := ax_geti mt62 dX7_readStep_4 (by decide) ft_28756 fk_28756 hT
theorem s62_7 : aW d 62 7 L S h Q = aW d 62 9 L (.int (nI 10) :: S) h Q := ax_bipush mt62 dX7_readStep_7 bp_10
theorem s62_9 : aW d 62 9 L (.int b :: .int a :: S) h Q = (if a < b then aW d 62 14 L S h Q else aW d 62 12 L S h Q) := ax_icmp_lt mt62 dX7_readStep_9 (by decide)
theorem s62_12 : aW d 62 12 L S h Q = aW d 62 13 L (.int (nI 0) :: S) h Q := ax_iconst mt62 dX7_readStep_12 ic_0
theorem s62_13 : aW d 62 13 L [.int a] h Q = (b01 a ∧ Q (some (.int a)) h) := ax_retz mt62 dX7_readStep_13 rfl
theorem s62_14 : aW d 62 14 [.ref o, l1, l2] S h Q = aW d 62 15 [.ref o, l1, l2] (.ref o :: S) h Q := ax_aload_n mt62 dX7_readStep_14 rfl
theorem s62_15 : aW d 62 15 [.ref o, l1, l2] S h Q = aW d 62 16 [.ref o, l1, l2] (.ref o :: S) h Q := ax_aload_n mt62 dX7_readStep_15 rfl
theorem s62_16 (hT : gT h o = some (9, 5)) : aW d 62 16 L (.ref o :: S) h Q = aW d 62 19 L (.int (gI h o 2) :: S) h Q := ax_geti mt62 dX7_readStep_16 (by decide) ft_28704 fk_28704 hT
theorem s62_19 : aW d 62 19 L S h Q = aW d 62 20 L (.int (nI 1) :: S) h Q := ax_iconst mt62 dX7_readStep_19 ic_1
theorem s62_20 : aW d 62 20 L (.int b :: .int a :: S) h Q = aW d 62 21 L (.int (a + b) :: S) h Q := ax_iadd mt62 dX7_readStep_20
theorem s62_21 (hT : gT h o = some (9, 5)) : aW (d + 1) 62 21 L (.int x0 :: .ref o :: []) h Q = aM d 70 (.ref o :: [.int x0]) h (fun v h1 => aW (d + 1) 62 24 L (ab_ps v []) h1 Q) := ax_invv mt62 dX7_readStep_21 (by decide) ct_28700 (.inl rfl) mt70 ⟨⟨Nat.le_of_ble_eq_true rfl, Nat.le_of_ble_eq_true rfl, Nat.le_of_ble_eq_true rfl⟩, rfl, rfl, rfl⟩ hT
theorem s62_24 : aW d 62 24 [.ref o, l1, l2] S h Q = aW d 62 25 [.ref o, l1, l2] (.ref o :: S) h Q := ax_aload_n mt62 dX7_readStep_24 rfl
theorem s62_25 (hT : gT h o = some (9, 5)) : aW d 62 25 L (.ref o :: S) h Q = (isRf (gR h o 4) = true ∧ aW d 62 28 L (gR h o 4 :: S) h Q) := ax_geta mt62 dX7_readStep_25 (by decide) ft_28691 fk_28691 hT
theorem s62_28 : aW d 62 28 [l0, .int a, l2] S h Q = aW d 62 29 [l0, .int a, l2] (.int a :: S) h Q := ax_iload_n mt62 dX7_readStep_28 rfl
theorem s62_29 (hT : gT h o = some (8, 12)) : aW (d + 1) 62 29 L (.int x0 :: .ref o :: []) h Q = aM d 47 (.ref o :: [.int x0]) h (fun v h1 => aW (d + 1) 62 32 L (ab_ps v []) h1 Q) := ax_invv mt62 dX7_readStep_29 (by decide) ct_28759 (.inl rfl) mt47 ⟨⟨Nat.le_of_ble_eq_true rfl, Nat.le_of_ble_eq_true rfl, Nat.le_of_ble_eq_true rfl⟩, rfl, rfl, rfl⟩ hT
theorem s62_32 : aW d 62 32 [l0, l1, l2] (.int a :: S) h Q = aW d 62 33 [l0, l1, .int a] S h Q := ax_istore_n mt62 dX7_readStep_32 (Nat.le_of_ble_eq_true rfl) rfl
theorem s62_33 : aW d 62 33 [.ref o, l1, l2] S h Q = aW d 62 34 [.ref o, l1, l2] (.ref o :: S) h Q := ax_aload_n mt62 dX7_readStep_33 rfl
theorem s62_34 : aW d 62 34 [l0, l1, .int a] S h Q = aW d 62 35 [l0, l1, .int a] (.int a :: S) h Q := ax_iload_n mt62 dX7_readStep_34 rfl
theorem s62_35 (hT : gT h o = some (9, 5)) : aW (d + 1) 62 35 L (.int x0 :: .ref o :: []) h Q = aM d 63 (.ref o :: [.int x0]) h (fun v h1 => aW (d + 1) 62 38 L (ab_ps v []) h1 Q) := ax_invv mt62 dX7_readStep_35 (by decide) ct_28763 (.inl rfl) mt63 ⟨⟨Nat.le_of_ble_eq_true rfl, Nat.le_of_ble_eq_true rfl, Nat.le_of_ble_eq_true rfl⟩, rfl, rfl, rfl⟩ hT
theorem s62_38 : aW d 62 38 [.ref o, l1, l2] S h Q = aW d 62 39 [.ref o, l1, l2] (.ref o :: S) h Q := ax_aload_n mt62 dX7_readStep_38 rfl
theorem s62_39 : aW d 62 39 L S h Q = aW d 62 41 L (.int (nI 62) :: S) h Q := ax_bipush mt62 dX7_readStep_39 bp_62
theorem s62_41 (hT : gT h o = some (9, 5)) : aW (d + 1) 62 41 L (.int x0 :: .ref o :: []) h Q = aM d 67 (.ref o :: [.int x0]) h (fun v h1 => aW (d + 1) 62 44 L (ab_ps v []) h1 Q) := ax_invv mt62 dX7_readStep_41 (by decide) ct_28740 (.inl rfl) mt67 ⟨⟨Nat.le_of_ble_eq_true rfl, Nat.le_of_ble_eq_true rfl, Nat.le_of_ble_eq_true rfl⟩, rfl, rfl, rfl⟩ hT
theorem s62_44 : aW d 62 44 L (.int a :: S) h Q = (if a = 0 then aW d 62 76 L S h Q else aW d 62 47 L S h Q) := ax_if_eq mt62 dX7_readStep_44 (by decide)
theorem s62_47 : aW d 62 47 [.ref o, l1, l2] S h Q = aW d 62 48 [.ref o, l1, l2] (.ref o :: S) h Q := ax_aload_n mt62 dX7_readStep_47 rfl
theorem s62_48 : aW d 62 48 [l0, l1, .int a] S h Q = aW d 62 49 [l0, l1, .int a] (.int a :: S) h Q := ax_iload_n mt62 dX7_readStep_48 rfl
theorem s62_49 (hT : gT h o = some (9, 5)) : aW (d + 1) 62 49 L (.int x0 :: .ref o :: []) h Q = aM d 64 (.ref o :: [.int x0]) h (fun v h1 => aW (d + 1) 62 52 L (ab_ps v []) h1 Q) := ax_invv mt62 dX7_readStep_49 (by decide) ct_28766 (.inl rfl) mt64 ⟨⟨Nat.le_of_ble_eq_true rfl, Nat.le_of_ble_eq_true rfl, Nat.le_of_ble_eq_true rfl⟩, rfl, rfl, rfl⟩ hT
theorem s62_52 : aW d 62 52 L (.int a :: S) h Q = (if a = 0 then aW d 62 76 L S h Q else aW d 62 55 L S h Q) := ax_if_eq mt62 dX7_readStep_52 (by decide)
theorem s62_55 : aW d 62 55 [.ref o, l1, l2] S h Q = aW d 62 56 [.ref o, l1, l2] (.ref o :: S) h Q := ax_aload_n mt62 dX7_readStep_55 rfl
theorem s62_56 : aW d 62 56 [l0, l1, .int a] S h Q = aW d 62 57 [l0, l1, .int a] (.int a :: S) h Q := ax_iload_n mt62 dX7_readStep_56 rfl
theorem s62_57 (hT : gT h o = some (9, 5)) : aW (d + 1) 62 57 L (.int x0 :: .ref o :: []) h Q = aM d 65 (.ref o :: [.int x0]) h (fun v h1 => aW (d + 1) 62 60 L (ab_ps v []) h1 Q) := ax_invv mt62 dX7_readStep_57 (by decide) ct_28769 (.inl rfl) mt65 ⟨⟨Nat.le_of_ble_eq_true rfl, Nat.le_of_ble_eq_true rfl, Nat.le_of_ble_eq_true rfl⟩, rfl, rfl, rfl⟩ hT
theorem s62_60 : aW d 62 60 L (.int a :: S) h Q = (if a = 0 then aW d 62 76 L S h Q else aW d 62 63 L S h Q) := ax_if_eq mt62 dX7_readStep_60 (by decide)
theorem s62_63 : aW d 62 63 [.ref o, l1, l2] S h Q = aW d 62 64 [.ref o, l1, l2] (.ref o :: S) h Q := ax_aload_n mt62 dX7_readStep_63 rfl
theorem s62_64 : aW d 62 64 L S h Q = aW d 62 66 L (.int (nI 59) :: S) h Q := ax_bipush mt62 dX7_readStep_64 bp_59
theorem s62_66 (hT : gT h o = some (9, 5)) : aW (d + 1) 62 66 L (.int x0 :: .ref o :: []) h Q = aM d 67 (.ref o :: [.int x0]) h (fun v h1 => aW (d + 1) 62 69 L (ab_ps v []) h1 Q) := ax_invv mt62 dX7_readStep_66 (by decide) ct_28740 (.inl rfl) mt67 ⟨⟨Nat.le_of_ble_eq_true rfl, Nat.le_of_ble_eq_true rfl, Nat.le_of_ble_eq_true rfl⟩, rfl, rfl, rfl⟩ hT
theorem s62_69 : aW d 62 69 L (.int a :: S) h Q = (if a = 0 then aW d 62 76 L S h Q else aW d 62 72 L S h Q) := ax_if_eq mt62 dX7_readStep_69 (by decide)
theorem s62_72 : aW d 62 72 L S h Q = aW d 62 73 L (.int (nI 1) :: S) h Q := ax_iconst mt62 dX7_readStep_72 ic_1
theorem s62_73 : aW d 62 73 L S h Q = aW d 62 77 L S h Q := ax_goto mt62 dX7_readStep_73 (by decide)
theorem s62_77 : aW d 62 77 L [.int a] h Q = (b01 a ∧ Q (some (.int a)) h) := ax_retz mt62 dX7_readStep_77 rfl
theorem s62_76 : aW d 62 76 L S h Q = aW d 62 77 L (.int (nI 0) :: S) h Q := ax_iconst mt62 dX7_readStep_76 ic_0
-- method 63: BufferRoom$Reader.readReads(I)V
theorem dX7_readReads_0 : decode cX7_readReads 0 = .ok (.iconst 0, 1) := by decide +kernel
theorem dX7_readReads_1 : decode cX7_readReads 1 = .ok (.istore_n 2, 1) := by decide +kernel
theorem dX7_readReads_2 : decode cX7_readReads 2 = .ok (.iload_n 2, 1) := by decide +kernel
theorem dX7_readReads_3 : decode cX7_readReads 3 = .ok (.iconst 4, 1) := by decide +kernel
theorem dX7_readReads_4 : decode cX7_readReads 4 = .ok (.if_icmp .ge 57, 3) := by decide +kernel
theorem dX7_readReads_7 : decode cX7_readReads 7 = .ok (.aload_n 0, 1) := by decide +kernel
theorem dX7_readReads_8 : decode cX7_readReads 8 = .ok (.invokevirtual 39, 3) := by decide +kernel
theorem dX7_readReads_11 : decode cX7_readReads 11 = .ok (.istore_n 3, 1) := by decide +kernel
theorem dX7_readReads_12 : decode cX7_readReads 12 = .ok (.aload_n 0, 1) := by decide +kernel
theorem dX7_readReads_13 : decode cX7_readReads 13 = .ok (.getfield 19, 3) := by decide +kernel
theorem dX7_readReads_16 : decode cX7_readReads 16 = .ok (.iload_n 3, 1) := by decide +kernel
theorem dX7_readReads_17 : decode cX7_readReads 17 = .ok (.invokevirtual 59, 3) := by decide +kernel
theorem dX7_readReads_20 : decode cX7_readReads 20 = .ok (.ifCond .eq 15, 3) := by decide +kernel
theorem dX7_readReads_23 : decode cX7_readReads 23 = .ok (.aload_n 0, 1) := by decide +kernel
theorem dX7_readReads_24 : decode cX7_readReads 24 = .ok (.getfield 19, 3) := by decide +kernel
theorem dX7_readReads_27 : decode cX7_readReads 27 = .ok (.iload_n 3, 1) := by decide +kernel
theorem dX7_readReads_28 : decode cX7_readReads 28 = .ok (.iload_n 1, 1) := by decide +kernel
theorem dX7_readReads_29 : decode cX7_readReads 29 = .ok (.invokevirtual 100, 3) := by decide +kernel
theorem dX7_readReads_32 : decode cX7_readReads 32 = .ok (.ifCond .eq 4, 3) := by decide +kernel
theorem dX7_readReads_35 : decode cX7_readReads 35 = .ok (.return_, 1) := by decide +kernel
theorem dX7_readReads_36 : decode cX7_readReads 36 = .ok (.aload_n 0, 1) := by decide +kernel
theorem dX7_readReads_37 : decode cX7_readReads 37 = .ok (.aload_n 0, 1) := by decide +kernel
theorem dX7_readReads_38 : decode cX7_readReads 38 = .ok (.getfield 32, 3) := by decide +kernel
theorem dX7_readReads_41 : decode cX7_readReads 41 = .ok (.iconst 1, 1) := by decide +kernel
theorem dX7_readReads_42 : decode cX7_readReads 42 = .ok (.iadd, 1) := by decide +kernel
theorem dX7_readReads_43 : decode cX7_readReads 43 = .ok (.invokevirtual 28, 3) := by decide +kernel
theorem dX7_readReads_46 : decode cX7_readReads 46 = .ok (.aload_n 0, 1) := by decide +kernel
theorem dX7_readReads_47 : decode cX7_readReads 47 = .ok (.getfield 19, 3) := by decide +kernel
theorem dX7_readReads_50 : decode cX7_readReads 50 = .ok (.iload_n 1, 1) := by decide +kernel
theorem dX7_readReads_51 : decode cX7_readReads 51 = .ok (.iload_n 3, 1) := by decide +kernel
theorem dX7_readReads_52 : decode cX7_readReads 52 = .ok (.invokevirtual 104, 3) := by decide +kernel
theorem dX7_readReads_55 : decode cX7_readReads 55 = .ok (.iinc 2 1, 3) := by decide +kernel
theorem dX7_readReads_58 : decode cX7_readReads 58 = .ok (.goto (-56), 3) := by decide +kernel
theorem dX7_readReads_61 : decode cX7_readReads 61 = .ok (.return_, 1) := by decide +kernel
theorem s63_0 : aW d 63 0 L S h Q = aW d 63 1 L (.int (nI 0) :: S) h Q := ax_iconst mt63 dX7_readReads_0 ic_0
theorem s63_1 : aW d 63 1 [l0, l1, l2, l3] (.int a :: S) h Q = aW d 63 2 [l0, l1, .int a, l3] S h Q := ax_istore_n mt63 dX7_readReads_1 (Nat.le_of_ble_eq_true rfl) rfl
theorem s63_2 : aW d 63 2 [l0, l1, .int a, l3] S h Q = aW d 63 3 [l0, l1, .int a, l3] (.int a :: S) h Q := ax_iload_n mt63 dX7_readReads_2 rfl
theorem s63_3 : aW d 63 3 L S h Q = aW d 63 4 L (.int (nI 4) :: S) h Q := ax_iconst mt63 dX7_readReads_3 ic_4
theorem s63_4 : aW d 63 4 L (.int b :: .int a :: S) h Q = (if a < b then aW d 63 7 L S h Q else aW d 63 61 L S h Q) := ax_icmp_ge mt63 dX7_readReads_4 (by decide)
theorem s63_7 : aW d 63 7 [.ref o, l1, l2, l3] S h Q = aW d 63 8 [.ref o, l1, l2, l3] (.ref o :: S) h Q := ax_aload_n mt63 dX7_readReads_7 rfl
theorem s63_8 (hT : gT h o = some (9, 5)) : aW (d + 1) 63 8 L (.ref o :: []) h Q = aM d 69 (.ref o :: []) h (fun v h1 => aW (d + 1) 63 11 L (ab_ps v []) h1 Q) := ax_invv mt63 dX7_readReads_8 (by decide) ct_28711 (.inl rfl) mt69 ⟨⟨Nat.le_of_ble_eq_true rfl, Nat.le_of_ble_eq_true rfl, Nat.le_of_ble_eq_true rfl⟩, rfl, rfl, rfl⟩ hT
theorem s63_11 : aW d 63 11 [l0, l1, l2, l3] (.int a :: S) h Q = aW d 63 12 [l0, l1, l2, .int a] S h Q := ax_istore_n mt63 dX7_readReads_11 (Nat.le_of_ble_eq_true rfl) rfl
theorem s63_12 : aW d 63 12 [.ref o, l1, l2, l3] S h Q = aW d 63 13 [.ref o, l1, l2, l3] (.ref o :: S) h Q := ax_aload_n mt63 dX7_readReads_12 rfl
theorem s63_13 (hT : gT h o = some (9, 5)) : aW d 63 13 L (.ref o :: S) h Q = (isRf (gR h o 4) = true ∧ aW d 63 16 L (gR h o 4 :: S) h Q) := ax_geta mt63 dX7_readReads_13 (by decide) ft_28691 fk_28691 hT
theorem s63_16 : aW d 63 16 [l0, l1, l2, .int a] S h Q = aW d 63 17 [l0, l1, l2, .int a] (.int a :: S) h Q := ax_iload_n mt63 dX7_readReads_16 rfl
theorem s63_17 (hT : gT h o = some (8, 12)) : aW (d + 1) 63 17 L (.int x0 :: .ref o :: []) h Q = aM d 44 (.ref o :: [.int x0]) h (fun v h1 => aW (d + 1) 63 20 L (ab_ps v []) h1 Q) := ax_invv mt63 dX7_readReads_17 (by decide) ct_28731 (.inl rfl) mt44 ⟨⟨Nat.le_of_ble_eq_true rfl, Nat.le_of_ble_eq_true rfl, Nat.le_of_ble_eq_true rfl⟩, rfl, rfl, rfl⟩ hT
theorem s63_20 : aW d 63 20 L (.int a :: S) h Q = (if a = 0 then aW d 63 35 L S h Q else aW d 63 23 L S h Q) := ax_if_eq mt63 dX7_readReads_20 (by decide)
theorem s63_23 : aW d 63 23 [.ref o, l1, l2, l3] S h Q = aW d 63 24 [.ref o, l1, l2, l3] (.ref o :: S) h Q := ax_aload_n mt63 dX7_readReads_23 rfl
theorem s63_24 (hT : gT h o = some (9, 5)) : aW d 63 24 L (.ref o :: S) h Q = (isRf (gR h o 4) = true ∧ aW d 63 27 L (gR h o 4 :: S) h Q) := ax_geta mt63 dX7_readReads_24 (by decide) ft_28691 fk_28691 hT
theorem s63_27 : aW d 63 27 [l0, l1, l2, .int a] S h Q = aW d 63 28 [l0, l1, l2, .int a] (.int a :: S) h Q := ax_iload_n mt63 dX7_readReads_27 rfl
theorem s63_28 : aW d 63 28 [l0, .int a, l2, l3] S h Q = aW d 63 29 [l0, .int a, l2, l3] (.int a :: S) h Q := ax_iload_n mt63 dX7_readReads_28 rfl
theorem s63_29 (hT : gT h o = some (8, 12)) : aW (d + 1) 63 29 L (.int x1 :: .int x0 :: .ref o :: []) h Q = aM d 50 (.ref o :: [.int x0, .int x1]) h (fun v h1 => aW (d + 1) 63 32 L (ab_ps v []) h1 Q) := ax_invv mt63 dX7_readReads_29 (by decide) ct_28772 (.inl rfl) mt50 ⟨⟨Nat.le_of_ble_eq_true rfl, Nat.le_of_ble_eq_true rfl, Nat.le_of_ble_eq_true rfl⟩, rfl, rfl, rfl⟩ hT
theorem s63_32 : aW d 63 32 L (.int a :: S) h Q = (if a = 0 then aW d 63 36 L S h Q else aW d 63 35 L S h Q) := ax_if_eq mt63 dX7_readReads_32 (by decide)
theorem s63_36 : aW d 63 36 [.ref o, l1, l2, l3] S h Q = aW d 63 37 [.ref o, l1, l2, l3] (.ref o :: S) h Q := ax_aload_n mt63 dX7_readReads_36 rfl
theorem s63_37 : aW d 63 37 [.ref o, l1, l2, l3] S h Q = aW d 63 38 [.ref o, l1, l2, l3] (.ref o :: S) h Q := ax_aload_n mt63 dX7_readReads_37 rfl
theorem s63_38 (hT : gT h o = some (9, 5)) : aW d 63 38 L (.ref o :: S) h Q = aW d 63 41 L (.int (gI h o 2) :: S) h Q := ax_geti mt63 dX7_readReads_38 (by decide) ft_28704 fk_28704 hT
theorem s63_41 : aW d 63 41 L S h Q = aW d 63 42 L (.int (nI 1) :: S) h Q := ax_iconst mt63 dX7_readReads_41 ic_1
theorem s63_42 : aW d 63 42 L (.int b :: .int a :: S) h Q = aW d 63 43 L (.int (a + b) :: S) h Q := ax_iadd mt63 dX7_readReads_42
theorem s63_43 (hT : gT h o = some (9, 5)) : aW (d + 1) 63 43 L (.int x0 :: .ref o :: []) h Q = aM d 70 (.ref o :: [.int x0]) h (fun v h1 => aW (d + 1) 63 46 L (ab_ps v []) h1 Q) := ax_invv mt63 dX7_readReads_43 (by decide) ct_28700 (.inl rfl) mt70 ⟨⟨Nat.le_of_ble_eq_true rfl, Nat.le_of_ble_eq_true rfl, Nat.le_of_ble_eq_true rfl⟩, rfl, rfl, rfl⟩ hT
theorem s63_46 : aW d 63 46 [.ref o, l1, l2, l3] S h Q = aW d 63 47 [.ref o, l1, l2, l3] (.ref o :: S) h Q := ax_aload_n mt63 dX7_readReads_46 rfl
theorem s63_47 (hT : gT h o = some (9, 5)) : aW d 63 47 L (.ref o :: S) h Q = (isRf (gR h o 4) = true ∧ aW d 63 50 L (gR h o 4 :: S) h Q) := ax_geta mt63 dX7_readReads_47 (by decide) ft_28691 fk_28691 hT
theorem s63_50 : aW d 63 50 [l0, .int a, l2, l3] S h Q = aW d 63 51 [l0, .int a, l2, l3] (.int a :: S) h Q := ax_iload_n mt63 dX7_readReads_50 rfl
theorem s63_51 : aW d 63 51 [l0, l1, l2, .int a] S h Q = aW d 63 52 [l0, l1, l2, .int a] (.int a :: S) h Q := ax_iload_n mt63 dX7_readReads_51 rfl
theorem s63_52 (hT : gT h o = some (8, 12)) : aW (d + 1) 63 52 L (.int x1 :: .int x0 :: .ref o :: []) h Q = aM d 48 (.ref o :: [.int x0, .int x1]) h (fun v h1 => aW (d + 1) 63 55 L (ab_ps v []) h1 Q) := ax_invv mt63 dX7_readReads_52 (by decide) ct_28776 (.inl rfl) mt48 ⟨⟨Nat.le_of_ble_eq_true rfl, Nat.le_of_ble_eq_true rfl, Nat.le_of_ble_eq_true rfl⟩, rfl, rfl, rfl⟩ hT
theorem s63_55 : aW d 63 55 [l0, l1, .int a, l3] S h Q = aW d 63 58 [l0, l1, .int (a + nI 1), l3] S h Q := ax_iinc mt63 dX7_readReads_55 rfl ic_1 rfl
theorem s63_58 : aW d 63 58 L S h Q = aW d 63 2 L S h Q := ax_goto mt63 dX7_readReads_58 (by decide)
theorem s63_35 : aW d 63 35 L [] h Q = Q none h := ax_retv mt63 dX7_readReads_35 rfl
theorem s63_61 : aW d 63 61 L [] h Q = Q none h := ax_retv mt63 dX7_readReads_61 rfl
-- method 64: BufferRoom$Reader.readWrite(I)Z
theorem dX7_readWrite_0 : decode cX7_readWrite 0 = .ok (.aload_n 0, 1) := by decide +kernel
theorem dX7_readWrite_1 : decode cX7_readWrite 1 = .ok (.invokevirtual 39, 3) := by decide +kernel
theorem dX7_readWrite_4 : decode cX7_readWrite 4 = .ok (.istore_n 2, 1) := by decide +kernel
theorem dX7_readWrite_5 : decode cX7_readWrite 5 = .ok (.aload_n 0, 1) := by decide +kernel
theorem dX7_readWrite_6 : decode cX7_readWrite 6 = .ok (.getfield 19, 3) := by decide +kernel
theorem dX7_readWrite_9 : decode cX7_readWrite 9 = .ok (.iload_n 2, 1) := by decide +kernel
theorem dX7_readWrite_10 : decode cX7_readWrite 10 = .ok (.invokevirtual 59, 3) := by decide +kernel
theorem dX7_readWrite_13 : decode cX7_readWrite 13 = .ok (.ifCond .eq 27, 3) := by decide +kernel
theorem dX7_readWrite_16 : decode cX7_readWrite 16 = .ok (.aload_n 0, 1) := by decide +kernel
theorem dX7_readWrite_17 : decode cX7_readWrite 17 = .ok (.getfield 19, 3) := by decide +kernel
theorem dX7_readWrite_20 : decode cX7_readWrite 20 = .ok (.getfield 108, 3) := by decide +kernel
theorem dX7_readWrite_23 : decode cX7_readWrite 23 = .ok (.iload_n 2, 1) := by decide +kernel
theorem dX7_readWrite_24 : decode cX7_readWrite 24 = .ok (.iaload, 1) := by decide +kernel
theorem dX7_readWrite_25 : decode cX7_readWrite 25 = .ok (.ifCond .ge 15, 3) := by decide +kernel
theorem dX7_readWrite_28 : decode cX7_readWrite 28 = .ok (.aload_n 0, 1) := by decide +kernel
theorem dX7_readWrite_29 : decode cX7_readWrite 29 = .ok (.getfield 19, 3) := by decide +kernel
theorem dX7_readWrite_32 : decode cX7_readWrite 32 = .ok (.iload_n 2, 1) := by decide +kernel
theorem dX7_readWrite_33 : decode cX7_readWrite 33 = .ok (.iload_n 1, 1) := by decide +kernel
theorem dX7_readWrite_34 : decode cX7_readWrite 34 = .ok (.invokevirtual 100, 3) := by decide +kernel
theorem dX7_readWrite_37 : decode cX7_readWrite 37 = .ok (.ifCond .eq 5, 3) := by decide +kernel
theorem dX7_readWrite_40 : decode cX7_readWrite 40 = .ok (.iconst 0, 1) := by decide +kernel
theorem dX7_readWrite_41 : decode cX7_readWrite 41 = .ok (.ireturn, 1) := by decide +kernel
theorem dX7_readWrite_42 : decode cX7_readWrite 42 = .ok (.aload_n 0, 1) := by decide +kernel
theorem dX7_readWrite_43 : decode cX7_readWrite 43 = .ok (.aload_n 0, 1) := by decide +kernel
theorem dX7_readWrite_44 : decode cX7_readWrite 44 = .ok (.getfield 32, 3) := by decide +kernel
theorem dX7_readWrite_47 : decode cX7_readWrite 47 = .ok (.iconst 1, 1) := by decide +kernel
theorem dX7_readWrite_48 : decode cX7_readWrite 48 = .ok (.iadd, 1) := by decide +kernel
theorem dX7_readWrite_49 : decode cX7_readWrite 49 = .ok (.invokevirtual 28, 3) := by decide +kernel
theorem dX7_readWrite_52 : decode cX7_readWrite 52 = .ok (.aload_n 0, 1) := by decide +kernel
theorem dX7_readWrite_53 : decode cX7_readWrite 53 = .ok (.getfield 19, 3) := by decide +kernel
theorem dX7_readWrite_56 : decode cX7_readWrite 56 = .ok (.iload_n 1, 1) := by decide +kernel
theorem dX7_readWrite_57 : decode cX7_readWrite 57 = .ok (.iload_n 2, 1) := by decide +kernel
theorem dX7_readWrite_58 : decode cX7_readWrite 58 = .ok (.invokevirtual 111, 3) := by decide +kernel
theorem dX7_readWrite_61 : decode cX7_readWrite 61 = .ok (.iconst 1, 1) := by decide +kernel
theorem dX7_readWrite_62 : decode cX7_readWrite 62 = .ok (.ireturn, 1) := by decide +kernel
theorem s64_0 : aW d 64 0 [.ref o, l1, l2] S h Q = aW d 64 1 [.ref o, l1, l2] (.ref o :: S) h Q := ax_aload_n mt64 dX7_readWrite_0 rfl
theorem s64_1 (hT : gT h o = some (9, 5)) : aW (d + 1) 64 1 L (.ref o :: []) h Q = aM d 69 (.ref o :: []) h (fun v h1 => aW (d + 1) 64 4 L (ab_ps v []) h1 Q) := ax_invv mt64 dX7_readWrite_1 (by decide) ct_28711 (.inl rfl) mt69 ⟨⟨Nat.le_of_ble_eq_true rfl, Nat.le_of_ble_eq_true rfl, Nat.le_of_ble_eq_true rfl⟩, rfl, rfl, rfl⟩ hT
theorem s64_4 : aW d 64 4 [l0, l1, l2] (.int a :: S) h Q = aW d 64 5 [l0, l1, .int a] S h Q := ax_istore_n mt64 dX7_readWrite_4 (Nat.le_of_ble_eq_true rfl) rfl
theorem s64_5 : aW d 64 5 [.ref o, l1, l2] S h Q = aW d 64 6 [.ref o, l1, l2] (.ref o :: S) h Q := ax_aload_n mt64 dX7_readWrite_5 rfl
theorem s64_6 (hT : gT h o = some (9, 5)) : aW d 64 6 L (.ref o :: S) h Q = (isRf (gR h o 4) = true ∧ aW d 64 9 L (gR h o 4 :: S) h Q) := ax_geta mt64 dX7_readWrite_6 (by decide) ft_28691 fk_28691 hT
theorem s64_9 : aW d 64 9 [l0, l1, .int a] S h Q = aW d 64 10 [l0, l1, .int a] (.int a :: S) h Q := ax_iload_n mt64 dX7_readWrite_9 rfl
theorem s64_10 (hT : gT h o = some (8, 12)) : aW (d + 1) 64 10 L (.int x0 :: .ref o :: []) h Q = aM d 44 (.ref o :: [.int x0]) h (fun v h1 => aW (d + 1) 64 13 L (ab_ps v []) h1 Q) := ax_invv mt64 dX7_readWrite_10 (by decide) ct_28731 (.inl rfl) mt44 ⟨⟨Nat.le_of_ble_eq_true rfl, Nat.le_of_ble_eq_true rfl, Nat.le_of_ble_eq_true rfl⟩, rfl, rfl, rfl⟩ hT
theorem s64_13 : aW d 64 13 L (.int a :: S) h Q = (if a = 0 then aW d 64 40 L S h Q else aW d 64 16 L S h Q) := ax_if_eq mt64 dX7_readWrite_13 (by decide)
theorem s64_16 : aW d 64 16 [.ref o, l1, l2] S h Q = aW d 64 17 [.ref o, l1, l2] (.ref o :: S) h Q := ax_aload_n mt64 dX7_readWrite_16 rfl
theorem s64_17 (hT : gT h o = some (9, 5)) : aW d 64 17 L (.ref o :: S) h Q = (isRf (gR h o 4) = true ∧ aW d 64 20 L (gR h o 4 :: S) h Q) := ax_geta mt64 dX7_readWrite_17 (by decide) ft_28691 fk_28691 hT
theorem s64_20 (hT : gT h o = some (8, 12)) : aW d 64 20 L (.ref o :: S) h Q = (isRf (gR h o 4) = true ∧ aW d 64 23 L (gR h o 4 :: S) h Q) := ax_geta mt64 dX7_readWrite_20 (by decide) ft_28780 fk_28780 hT
theorem s64_23 : aW d 64 23 [l0, l1, .int a] S h Q = aW d 64 24 [l0, l1, .int a] (.int a :: S) h Q := ax_iload_n mt64 dX7_readWrite_23 rfl
theorem s64_24 : aW d 64 24 L (.int a :: .ref o :: S) h Q = (inb a (aI h o) ∧ aW d 64 25 L (.int (gI h o a.toNatClampNeg) :: S) h Q) := ax_iald mt64 dX7_readWrite_24
theorem s64_25 : aW d 64 25 L (.int a :: S) h Q = (if a < 0 then aW d 64 28 L S h Q else aW d 64 40 L S h Q) := ax_if_ge mt64 dX7_readWrite_25 (by decide)
theorem s64_28 : aW d 64 28 [.ref o, l1, l2] S h Q = aW d 64 29 [.ref o, l1, l2] (.ref o :: S) h Q := ax_aload_n mt64 dX7_readWrite_28 rfl
theorem s64_29 (hT : gT h o = some (9, 5)) : aW d 64 29 L (.ref o :: S) h Q = (isRf (gR h o 4) = true ∧ aW d 64 32 L (gR h o 4 :: S) h Q) := ax_geta mt64 dX7_readWrite_29 (by decide) ft_28691 fk_28691 hT
theorem s64_32 : aW d 64 32 [l0, l1, .int a] S h Q = aW d 64 33 [l0, l1, .int a] (.int a :: S) h Q := ax_iload_n mt64 dX7_readWrite_32 rfl
theorem s64_33 : aW d 64 33 [l0, .int a, l2] S h Q = aW d 64 34 [l0, .int a, l2] (.int a :: S) h Q := ax_iload_n mt64 dX7_readWrite_33 rfl
theorem s64_34 (hT : gT h o = some (8, 12)) : aW (d + 1) 64 34 L (.int x1 :: .int x0 :: .ref o :: []) h Q = aM d 50 (.ref o :: [.int x0, .int x1]) h (fun v h1 => aW (d + 1) 64 37 L (ab_ps v []) h1 Q) := ax_invv mt64 dX7_readWrite_34 (by decide) ct_28772 (.inl rfl) mt50 ⟨⟨Nat.le_of_ble_eq_true rfl, Nat.le_of_ble_eq_true rfl, Nat.le_of_ble_eq_true rfl⟩, rfl, rfl, rfl⟩ hT
theorem s64_37 : aW d 64 37 L (.int a :: S) h Q = (if a = 0 then aW d 64 42 L S h Q else aW d 64 40 L S h Q) := ax_if_eq mt64 dX7_readWrite_37 (by decide)
theorem s64_42 : aW d 64 42 [.ref o, l1, l2] S h Q = aW d 64 43 [.ref o, l1, l2] (.ref o :: S) h Q := ax_aload_n mt64 dX7_readWrite_42 rfl
theorem s64_43 : aW d 64 43 [.ref o, l1, l2] S h Q = aW d 64 44 [.ref o, l1, l2] (.ref o :: S) h Q := ax_aload_n mt64 dX7_readWrite_43 rfl
theorem s64_44 (hT : gT h o = some (9, 5)) : aW d 64 44 L (.ref o :: S) h Q = aW d 64 47 L (.int (gI h o 2) :: S) h Q := ax_geti mt64 dX7_readWrite_44 (by decide) ft_28704 fk_28704 hT
theorem s64_47 : aW d 64 47 L S h Q = aW d 64 48 L (.int (nI 1) :: S) h Q := ax_iconst mt64 dX7_readWrite_47 ic_1
theorem s64_48 : aW d 64 48 L (.int b :: .int a :: S) h Q = aW d 64 49 L (.int (a + b) :: S) h Q := ax_iadd mt64 dX7_readWrite_48
theorem s64_49 (hT : gT h o = some (9, 5)) : aW (d + 1) 64 49 L (.int x0 :: .ref o :: []) h Q = aM d 70 (.ref o :: [.int x0]) h (fun v h1 => aW (d + 1) 64 52 L (ab_ps v []) h1 Q) := ax_invv mt64 dX7_readWrite_49 (by decide) ct_28700 (.inl rfl) mt70 ⟨⟨Nat.le_of_ble_eq_true rfl, Nat.le_of_ble_eq_true rfl, Nat.le_of_ble_eq_true rfl⟩, rfl, rfl, rfl⟩ hT
theorem s64_52 : aW d 64 52 [.ref o, l1, l2] S h Q = aW d 64 53 [.ref o, l1, l2] (.ref o :: S) h Q := ax_aload_n mt64 dX7_readWrite_52 rfl
theorem s64_53 (hT : gT h o = some (9, 5)) : aW d 64 53 L (.ref o :: S) h Q = (isRf (gR h o 4) = true ∧ aW d 64 56 L (gR h o 4 :: S) h Q) := ax_geta mt64 dX7_readWrite_53 (by decide) ft_28691 fk_28691 hT
theorem s64_56 : aW d 64 56 [l0, .int a, l2] S h Q = aW d 64 57 [l0, .int a, l2] (.int a :: S) h Q := ax_iload_n mt64 dX7_readWrite_56 rfl
theorem s64_57 : aW d 64 57 [l0, l1, .int a] S h Q = aW d 64 58 [l0, l1, .int a] (.int a :: S) h Q := ax_iload_n mt64 dX7_readWrite_57 rfl
theorem s64_58 (hT : gT h o = some (8, 12)) : aW (d + 1) 64 58 L (.int x1 :: .int x0 :: .ref o :: []) h Q = aM d 49 (.ref o :: [.int x0, .int x1]) h (fun v h1 => aW (d + 1) 64 61 L (ab_ps v []) h1 Q) := ax_invv mt64 dX7_readWrite_58 (by decide) ct_28783 (.inl rfl) mt49 ⟨⟨Nat.le_of_ble_eq_true rfl, Nat.le_of_ble_eq_true rfl, Nat.le_of_ble_eq_true rfl⟩, rfl, rfl, rfl⟩ hT
theorem s64_61 : aW d 64 61 L S h Q = aW d 64 62 L (.int (nI 1) :: S) h Q := ax_iconst mt64 dX7_readWrite_61 ic_1
theorem s64_62 : aW d 64 62 L [.int a] h Q = (b01 a ∧ Q (some (.int a)) h) := ax_retz mt64 dX7_readWrite_62 rfl
theorem s64_40 : aW d 64 40 L S h Q = aW d 64 41 L (.int (nI 0) :: S) h Q := ax_iconst mt64 dX7_readWrite_40 ic_0
theorem s64_41 : aW d 64 41 L [.int a] h Q = (b01 a ∧ Q (some (.int a)) h) := ax_retz mt64 dX7_readWrite_41 rfl
-- method 65: BufferRoom$Reader.readTime(I)Z
theorem dX7_readTime_0 : decode cX7_readTime 0 = .ok (.aload_n 0, 1) := by decide +kernel
theorem dX7_readTime_1 : decode cX7_readTime 1 = .ok (.getfield 19, 3) := by decide +kernel
theorem dX7_readTime_4 : decode cX7_readTime 4 = .ok (.getfield 114, 3) := by decide +kernel
theorem dX7_readTime_7 : decode cX7_readTime 7 = .ok (.iload_n 1, 1) := by decide +kernel
theorem dX7_readTime_8 : decode cX7_readTime 8 = .ok (.aload_n 0, 1) := by decide +kernel
theorem dX7_readTime_9 : decode cX7_readTime 9 = .ok (.invokevirtual 74, 3) := by decide +kernel
theorem dX7_readTime_12 : decode cX7_readTime 12 = .ok (.iastore, 1) := by decide +kernel
theorem dX7_readTime_13 : decode cX7_readTime 13 = .ok (.aload_n 0, 1) := by decide +kernel
theorem dX7_readTime_14 : decode cX7_readTime 14 = .ok (.getfield 19, 3) := by decide +kernel
theorem dX7_readTime_17 : decode cX7_readTime 17 = .ok (.getfield 114, 3) := by decide +kernel
theorem dX7_readTime_20 : decode cX7_readTime 20 = .ok (.iload_n 1, 1) := by decide +kernel
theorem dX7_readTime_21 : decode cX7_readTime 21 = .ok (.iaload, 1) := by decide +kernel
theorem dX7_readTime_22 : decode cX7_readTime 22 = .ok (.ifCond .lt 7, 3) := by decide +kernel
theorem dX7_readTime_25 : decode cX7_readTime 25 = .ok (.iconst 1, 1) := by decide +kernel
theorem dX7_readTime_26 : decode cX7_readTime 26 = .ok (.goto 4, 3) := by decide +kernel
theorem dX7_readTime_29 : decode cX7_readTime 29 = .ok (.iconst 0, 1) := by decide +kernel
theorem dX7_readTime_30 : decode cX7_readTime 30 = .ok (.ireturn, 1) := by decide +kernel
theorem s65_0 : aW d 65 0 [.ref o, l1] S h Q = aW d 65 1 [.ref o, l1] (.ref o :: S) h Q := ax_aload_n mt65 dX7_readTime_0 rfl
theorem s65_1 (hT : gT h o = some (9, 5)) : aW d 65 1 L (.ref o :: S) h Q = (isRf (gR h o 4) = true ∧ aW d 65 4 L (gR h o 4 :: S) h Q) := ax_geta mt65 dX7_readTime_1 (by decide) ft_28691 fk_28691 hT
theorem s65_4 (hT : gT h o = some (8, 12)) : aW d 65 4 L (.ref o :: S) h Q = (isRf (gR h o 8) = true ∧ aW d 65 7 L (gR h o 8 :: S) h Q) := ax_geta mt65 dX7_readTime_4 (by decide) ft_28786 fk_28786 hT
theorem s65_7 : aW d 65 7 [l0, .int a] S h Q = aW d 65 8 [l0, .int a] (.int a :: S) h Q := ax_iload_n mt65 dX7_readTime_7 rfl
theorem s65_8 : aW d 65 8 [.ref o, l1] S h Q = aW d 65 9 [.ref o, l1] (.ref o :: S) h Q := ax_aload_n mt65 dX7_readTime_8 rfl
theorem s65_9 (hT : gT h o = some (9, 5)) : aW (d + 1) 65 9 L (.ref o :: [.int y0, .ref q1]) h Q = aM d 66 (.ref o :: []) h (fun v h1 => aW (d + 1) 65 12 L (ab_ps v [.int y0, .ref q1]) h1 Q) := ax_invv mt65 dX7_readTime_9 (by decide) ct_28746 (.inl rfl) mt66 ⟨⟨Nat.le_of_ble_eq_true rfl, Nat.le_of_ble_eq_true rfl, Nat.le_of_ble_eq_true rfl⟩, rfl, rfl, rfl⟩ hT
theorem s65_12 : aW d 65 12 L (.int b :: .int a :: .ref o :: S) h Q = (inb a (aJ h o) ∧ aW d 65 13 L S (pI h o a.toNatClampNeg b) Q) := ax_iast mt65 dX7_readTime_12
theorem s65_13 : aW d 65 13 [.ref o, l1] S h Q = aW d 65 14 [.ref o, l1] (.ref o :: S) h Q := ax_aload_n mt65 dX7_readTime_13 rfl
theorem s65_14 (hT : gT h o = some (9, 5)) : aW d 65 14 L (.ref o :: S) h Q = (isRf (gR h o 4) = true ∧ aW d 65 17 L (gR h o 4 :: S) h Q) := ax_geta mt65 dX7_readTime_14 (by decide) ft_28691 fk_28691 hT
theorem s65_17 (hT : gT h o = some (8, 12)) : aW d 65 17 L (.ref o :: S) h Q = (isRf (gR h o 8) = true ∧ aW d 65 20 L (gR h o 8 :: S) h Q) := ax_geta mt65 dX7_readTime_17 (by decide) ft_28786 fk_28786 hT
theorem s65_20 : aW d 65 20 [l0, .int a] S h Q = aW d 65 21 [l0, .int a] (.int a :: S) h Q := ax_iload_n mt65 dX7_readTime_20 rfl
theorem s65_21 : aW d 65 21 L (.int a :: .ref o :: S) h Q = (inb a (aI h o) ∧ aW d 65 22 L (.int (gI h o a.toNatClampNeg) :: S) h Q) := ax_iald mt65 dX7_readTime_21
theorem s65_22 : aW d 65 22 L (.int a :: S) h Q = (if a < 0 then aW d 65 29 L S h Q else aW d 65 25 L S h Q) := ax_if_lt mt65 dX7_readTime_22 (by decide)
theorem s65_25 : aW d 65 25 L S h Q = aW d 65 26 L (.int (nI 1) :: S) h Q := ax_iconst mt65 dX7_readTime_25 ic_1
theorem s65_26 : aW d 65 26 L S h Q = aW d 65 30 L S h Q := ax_goto mt65 dX7_readTime_26 (by decide)
theorem s65_30 : aW d 65 30 L [.int a] h Q = (b01 a ∧ Q (some (.int a)) h) := ax_retz mt65 dX7_readTime_30 rfl
theorem s65_29 : aW d 65 29 L S h Q = aW d 65 30 L (.int (nI 0) :: S) h Q := ax_iconst mt65 dX7_readTime_29 ic_0
-- method 66: BufferRoom$Reader.readNumber()I
theorem dX7_readNumber_0 : decode cX7_readNumber 0 = .ok (.aload_n 0, 1) := by decide +kernel
theorem dX7_readNumber_1 : decode cX7_readNumber 1 = .ok (.invokevirtual 43, 3) := by decide +kernel
theorem dX7_readNumber_4 : decode cX7_readNumber 4 = .ok (.istore_n 1, 1) := by decide +kernel
theorem dX7_readNumber_5 : decode cX7_readNumber 5 = .ok (.iload_n 1, 1) := by decide +kernel
theorem dX7_readNumber_6 : decode cX7_readNumber 6 = .ok (.ifCond .ge 5, 3) := by decide +kernel
theorem dX7_readNumber_9 : decode cX7_readNumber 9 = .ok (.iconst (-1), 1) := by decide +kernel
theorem dX7_readNumber_10 : decode cX7_readNumber 10 = .ok (.ireturn, 1) := by decide +kernel
theorem dX7_readNumber_11 : decode cX7_readNumber 11 = .ok (.aload_n 0, 1) := by decide +kernel
theorem dX7_readNumber_12 : decode cX7_readNumber 12 = .ok (.aload_n 0, 1) := by decide +kernel
theorem dX7_readNumber_13 : decode cX7_readNumber 13 = .ok (.getfield 32, 3) := by decide +kernel
theorem dX7_readNumber_16 : decode cX7_readNumber 16 = .ok (.iconst 1, 1) := by decide +kernel
theorem dX7_readNumber_17 : decode cX7_readNumber 17 = .ok (.iadd, 1) := by decide +kernel
theorem dX7_readNumber_18 : decode cX7_readNumber 18 = .ok (.invokevirtual 28, 3) := by decide +kernel
theorem dX7_readNumber_21 : decode cX7_readNumber 21 = .ok (.aload_n 0, 1) := by decide +kernel
theorem dX7_readNumber_22 : decode cX7_readNumber 22 = .ok (.invokevirtual 43, 3) := by decide +kernel
theorem dX7_readNumber_25 : decode cX7_readNumber 25 = .ok (.istore_n 2, 1) := by decide +kernel
theorem dX7_readNumber_26 : decode cX7_readNumber 26 = .ok (.iload_n 2, 1) := by decide +kernel
theorem dX7_readNumber_27 : decode cX7_readNumber 27 = .ok (.ifCond .ge 5, 3) := by decide +kernel
theorem dX7_readNumber_30 : decode cX7_readNumber 30 = .ok (.iload_n 1, 1) := by decide +kernel
theorem dX7_readNumber_31 : decode cX7_readNumber 31 = .ok (.ireturn, 1) := by decide +kernel
theorem dX7_readNumber_32 : decode cX7_readNumber 32 = .ok (.aload_n 0, 1) := by decide +kernel
theorem dX7_readNumber_33 : decode cX7_readNumber 33 = .ok (.aload_n 0, 1) := by decide +kernel
theorem dX7_readNumber_34 : decode cX7_readNumber 34 = .ok (.getfield 32, 3) := by decide +kernel
theorem dX7_readNumber_37 : decode cX7_readNumber 37 = .ok (.iconst 1, 1) := by decide +kernel
theorem dX7_readNumber_38 : decode cX7_readNumber 38 = .ok (.iadd, 1) := by decide +kernel
theorem dX7_readNumber_39 : decode cX7_readNumber 39 = .ok (.invokevirtual 28, 3) := by decide +kernel
theorem dX7_readNumber_42 : decode cX7_readNumber 42 = .ok (.bipush 10, 2) := by decide +kernel
theorem dX7_readNumber_44 : decode cX7_readNumber 44 = .ok (.iload_n 1, 1) := by decide +kernel
theorem dX7_readNumber_45 : decode cX7_readNumber 45 = .ok (.imul, 1) := by decide +kernel
theorem dX7_readNumber_46 : decode cX7_readNumber 46 = .ok (.iload_n 2, 1) := by decide +kernel
theorem dX7_readNumber_47 : decode cX7_readNumber 47 = .ok (.iadd, 1) := by decide +kernel
theorem dX7_readNumber_48 : decode cX7_readNumber 48 = .ok (.ireturn, 1) := by decide +kernel
theorem s66_0 : aW d 66 0 [.ref o, l1, l2] S h Q = aW d 66 1 [.ref o, l1, l2] (.ref o :: S) h Q := ax_aload_n mt66 dX7_readNumber_0 rfl
theorem s66_1 (hT : gT h o = some (9, 5)) : aW (d + 1) 66 1 L (.ref o :: []) h Q = aM d 68 (.ref o :: []) h (fun v h1 => aW (d + 1) 66 4 L (ab_ps v []) h1 Q) := ax_invv mt66 dX7_readNumber_1 (by decide) ct_28715 (.inl rfl) mt68 ⟨⟨Nat.le_of_ble_eq_true rfl, Nat.le_of_ble_eq_true rfl, Nat.le_of_ble_eq_true rfl⟩, rfl, rfl, rfl⟩ hT
theorem s66_4 : aW d 66 4 [l0, l1, l2] (.int a :: S) h Q = aW d 66 5 [l0, .int a, l2] S h Q := ax_istore_n mt66 dX7_readNumber_4 (Nat.le_of_ble_eq_true rfl) rfl
theorem s66_5 : aW d 66 5 [l0, .int a, l2] S h Q = aW d 66 6 [l0, .int a, l2] (.int a :: S) h Q := ax_iload_n mt66 dX7_readNumber_5 rfl
theorem s66_6 : aW d 66 6 L (.int a :: S) h Q = (if a < 0 then aW d 66 9 L S h Q else aW d 66 11 L S h Q) := ax_if_ge mt66 dX7_readNumber_6 (by decide)
theorem s66_9 : aW d 66 9 L S h Q = aW d 66 10 L (.int ((-1)) :: S) h Q := ax_iconst mt66 dX7_readNumber_9 ic_m1
theorem s66_10 : aW d 66 10 L [.int a] h Q = Q (some (.int a)) h := ax_reti mt66 dX7_readNumber_10 rfl
theorem s66_11 : aW d 66 11 [.ref o, l1, l2] S h Q = aW d 66 12 [.ref o, l1, l2] (.ref o :: S) h Q := ax_aload_n mt66 dX7_readNumber_11 rfl
theorem s66_12 : aW d 66 12 [.ref o, l1, l2] S h Q = aW d 66 13 [.ref o, l1, l2] (.ref o :: S) h Q := ax_aload_n mt66 dX7_readNumber_12 rfl
theorem s66_13 (hT : gT h o = some (9, 5)) : aW d 66 13 L (.ref o :: S) h Q = aW d 66 16 L (.int (gI h o 2) :: S) h Q := ax_geti mt66 dX7_readNumber_13 (by decide) ft_28704 fk_28704 hT
theorem s66_16 : aW d 66 16 L S h Q = aW d 66 17 L (.int (nI 1) :: S) h Q := ax_iconst mt66 dX7_readNumber_16 ic_1
theorem s66_17 : aW d 66 17 L (.int b :: .int a :: S) h Q = aW d 66 18 L (.int (a + b) :: S) h Q := ax_iadd mt66 dX7_readNumber_17
theorem s66_18 (hT : gT h o = some (9, 5)) : aW (d + 1) 66 18 L (.int x0 :: .ref o :: []) h Q = aM d 70 (.ref o :: [.int x0]) h (fun v h1 => aW (d + 1) 66 21 L (ab_ps v []) h1 Q) := ax_invv mt66 dX7_readNumber_18 (by decide) ct_28700 (.inl rfl) mt70 ⟨⟨Nat.le_of_ble_eq_true rfl, Nat.le_of_ble_eq_true rfl, Nat.le_of_ble_eq_true rfl⟩, rfl, rfl, rfl⟩ hT
theorem s66_21 : aW d 66 21 [.ref o, l1, l2] S h Q = aW d 66 22 [.ref o, l1, l2] (.ref o :: S) h Q := ax_aload_n mt66 dX7_readNumber_21 rfl
theorem s66_22 (hT : gT h o = some (9, 5)) : aW (d + 1) 66 22 L (.ref o :: []) h Q = aM d 68 (.ref o :: []) h (fun v h1 => aW (d + 1) 66 25 L (ab_ps v []) h1 Q) := ax_invv mt66 dX7_readNumber_22 (by decide) ct_28715 (.inl rfl) mt68 ⟨⟨Nat.le_of_ble_eq_true rfl, Nat.le_of_ble_eq_true rfl, Nat.le_of_ble_eq_true rfl⟩, rfl, rfl, rfl⟩ hT
theorem s66_25 : aW d 66 25 [l0, l1, l2] (.int a :: S) h Q = aW d 66 26 [l0, l1, .int a] S h Q := ax_istore_n mt66 dX7_readNumber_25 (Nat.le_of_ble_eq_true rfl) rfl
theorem s66_26 : aW d 66 26 [l0, l1, .int a] S h Q = aW d 66 27 [l0, l1, .int a] (.int a :: S) h Q := ax_iload_n mt66 dX7_readNumber_26 rfl
theorem s66_27 : aW d 66 27 L (.int a :: S) h Q = (if a < 0 then aW d 66 30 L S h Q else aW d 66 32 L S h Q) := ax_if_ge mt66 dX7_readNumber_27 (by decide)
theorem s66_30 : aW d 66 30 [l0, .int a, l2] S h Q = aW d 66 31 [l0, .int a, l2] (.int a :: S) h Q := ax_iload_n mt66 dX7_readNumber_30 rfl
theorem s66_31 : aW d 66 31 L [.int a] h Q = Q (some (.int a)) h := ax_reti mt66 dX7_readNumber_31 rfl
theorem s66_32 : aW d 66 32 [.ref o, l1, l2] S h Q = aW d 66 33 [.ref o, l1, l2] (.ref o :: S) h Q := ax_aload_n mt66 dX7_readNumber_32 rfl
theorem s66_33 : aW d 66 33 [.ref o, l1, l2] S h Q = aW d 66 34 [.ref o, l1, l2] (.ref o :: S) h Q := ax_aload_n mt66 dX7_readNumber_33 rfl
theorem s66_34 (hT : gT h o = some (9, 5)) : aW d 66 34 L (.ref o :: S) h Q = aW d 66 37 L (.int (gI h o 2) :: S) h Q := ax_geti mt66 dX7_readNumber_34 (by decide) ft_28704 fk_28704 hT
theorem s66_37 : aW d 66 37 L S h Q = aW d 66 38 L (.int (nI 1) :: S) h Q := ax_iconst mt66 dX7_readNumber_37 ic_1
theorem s66_38 : aW d 66 38 L (.int b :: .int a :: S) h Q = aW d 66 39 L (.int (a + b) :: S) h Q := ax_iadd mt66 dX7_readNumber_38
theorem s66_39 (hT : gT h o = some (9, 5)) : aW (d + 1) 66 39 L (.int x0 :: .ref o :: []) h Q = aM d 70 (.ref o :: [.int x0]) h (fun v h1 => aW (d + 1) 66 42 L (ab_ps v []) h1 Q) := ax_invv mt66 dX7_readNumber_39 (by decide) ct_28700 (.inl rfl) mt70 ⟨⟨Nat.le_of_ble_eq_true rfl, Nat.le_of_ble_eq_true rfl, Nat.le_of_ble_eq_true rfl⟩, rfl, rfl, rfl⟩ hT
theorem s66_42 : aW d 66 42 L S h Q = aW d 66 44 L (.int (nI 10) :: S) h Q := ax_bipush mt66 dX7_readNumber_42 bp_10
theorem s66_44 : aW d 66 44 [l0, .int a, l2] S h Q = aW d 66 45 [l0, .int a, l2] (.int a :: S) h Q := ax_iload_n mt66 dX7_readNumber_44 rfl
theorem s66_45 : aW d 66 45 L (.int b :: .int a :: S) h Q = aW d 66 46 L (.int (a * b) :: S) h Q := ax_imul mt66 dX7_readNumber_45
theorem s66_46 : aW d 66 46 [l0, l1, .int a] S h Q = aW d 66 47 [l0, l1, .int a] (.int a :: S) h Q := ax_iload_n mt66 dX7_readNumber_46 rfl
theorem s66_47 : aW d 66 47 L (.int b :: .int a :: S) h Q = aW d 66 48 L (.int (a + b) :: S) h Q := ax_iadd mt66 dX7_readNumber_47
theorem s66_48 : aW d 66 48 L [.int a] h Q = Q (some (.int a)) h := ax_reti mt66 dX7_readNumber_48 rfl
-- method 67: BufferRoom$Reader.skip(I)Z
theorem dX7_skip_0 : decode cX7_skip 0 = .ok (.aload_n 0, 1) := by decide +kernel
theorem dX7_skip_1 : decode cX7_skip 1 = .ok (.getfield 77, 3) := by decide +kernel
theorem dX7_skip_4 : decode cX7_skip 4 = .ok (.iload_n 1, 1) := by decide +kernel
theorem dX7_skip_5 : decode cX7_skip 5 = .ok (.if_icmp .eq 5, 3) := by decide +kernel
theorem dX7_skip_8 : decode cX7_skip 8 = .ok (.iconst 0, 1) := by decide +kernel
theorem dX7_skip_9 : decode cX7_skip 9 = .ok (.ireturn, 1) := by decide +kernel
theorem dX7_skip_10 : decode cX7_skip 10 = .ok (.aload_n 0, 1) := by decide +kernel
theorem dX7_skip_11 : decode cX7_skip 11 = .ok (.aload_n 0, 1) := by decide +kernel
theorem dX7_skip_12 : decode cX7_skip 12 = .ok (.getfield 32, 3) := by decide +kernel
theorem dX7_skip_15 : decode cX7_skip 15 = .ok (.iconst 1, 1) := by decide +kernel
theorem dX7_skip_16 : decode cX7_skip 16 = .ok (.iadd, 1) := by decide +kernel
theorem dX7_skip_17 : decode cX7_skip 17 = .ok (.invokevirtual 28, 3) := by decide +kernel
theorem dX7_skip_20 : decode cX7_skip 20 = .ok (.iconst 1, 1) := by decide +kernel
theorem dX7_skip_21 : decode cX7_skip 21 = .ok (.ireturn, 1) := by decide +kernel
theorem s67_0 : aW d 67 0 [.ref o, l1] S h Q = aW d 67 1 [.ref o, l1] (.ref o :: S) h Q := ax_aload_n mt67 dX7_skip_0 rfl
theorem s67_1 (hT : gT h o = some (9, 5)) : aW d 67 1 L (.ref o :: S) h Q = aW d 67 4 L (.int (gI h o 3) :: S) h Q := ax_geti mt67 dX7_skip_1 (by decide) ft_28749 fk_28749 hT
theorem s67_4 : aW d 67 4 [l0, .int a] S h Q = aW d 67 5 [l0, .int a] (.int a :: S) h Q := ax_iload_n mt67 dX7_skip_4 rfl
theorem s67_5 : aW d 67 5 L (.int b :: .int a :: S) h Q = (if a = b then aW d 67 10 L S h Q else aW d 67 8 L S h Q) := ax_icmp_eq mt67 dX7_skip_5 (by decide)
theorem s67_8 : aW d 67 8 L S h Q = aW d 67 9 L (.int (nI 0) :: S) h Q := ax_iconst mt67 dX7_skip_8 ic_0
theorem s67_9 : aW d 67 9 L [.int a] h Q = (b01 a ∧ Q (some (.int a)) h) := ax_retz mt67 dX7_skip_9 rfl
theorem s67_10 : aW d 67 10 [.ref o, l1] S h Q = aW d 67 11 [.ref o, l1] (.ref o :: S) h Q := ax_aload_n mt67 dX7_skip_10 rfl
theorem s67_11 : aW d 67 11 [.ref o, l1] S h Q = aW d 67 12 [.ref o, l1] (.ref o :: S) h Q := ax_aload_n mt67 dX7_skip_11 rfl
theorem s67_12 (hT : gT h o = some (9, 5)) : aW d 67 12 L (.ref o :: S) h Q = aW d 67 15 L (.int (gI h o 2) :: S) h Q := ax_geti mt67 dX7_skip_12 (by decide) ft_28704 fk_28704 hT
theorem s67_15 : aW d 67 15 L S h Q = aW d 67 16 L (.int (nI 1) :: S) h Q := ax_iconst mt67 dX7_skip_15 ic_1
theorem s67_16 : aW d 67 16 L (.int b :: .int a :: S) h Q = aW d 67 17 L (.int (a + b) :: S) h Q := ax_iadd mt67 dX7_skip_16
theorem s67_17 (hT : gT h o = some (9, 5)) : aW (d + 1) 67 17 L (.int x0 :: .ref o :: []) h Q = aM d 70 (.ref o :: [.int x0]) h (fun v h1 => aW (d + 1) 67 20 L (ab_ps v []) h1 Q) := ax_invv mt67 dX7_skip_17 (by decide) ct_28700 (.inl rfl) mt70 ⟨⟨Nat.le_of_ble_eq_true rfl, Nat.le_of_ble_eq_true rfl, Nat.le_of_ble_eq_true rfl⟩, rfl, rfl, rfl⟩ hT
theorem s67_20 : aW d 67 20 L S h Q = aW d 67 21 L (.int (nI 1) :: S) h Q := ax_iconst mt67 dX7_skip_20 ic_1
theorem s67_21 : aW d 67 21 L [.int a] h Q = (b01 a ∧ Q (some (.int a)) h) := ax_retz mt67 dX7_skip_21 rfl
-- method 68: BufferRoom$Reader.digitHere()I
theorem dX7_digitHere_0 : decode cX7_digitHere 0 = .ok (.aload_n 0, 1) := by decide +kernel
theorem dX7_digitHere_1 : decode cX7_digitHere 1 = .ok (.getfield 77, 3) := by decide +kernel
theorem dX7_digitHere_4 : decode cX7_digitHere 4 = .ok (.bipush 48, 2) := by decide +kernel
theorem dX7_digitHere_6 : decode cX7_digitHere 6 = .ok (.if_icmp .lt 22, 3) := by decide +kernel
theorem dX7_digitHere_9 : decode cX7_digitHere 9 = .ok (.aload_n 0, 1) := by decide +kernel
theorem dX7_digitHere_10 : decode cX7_digitHere 10 = .ok (.getfield 77, 3) := by decide +kernel
theorem dX7_digitHere_13 : decode cX7_digitHere 13 = .ok (.bipush 57, 2) := by decide +kernel
theorem dX7_digitHere_15 : decode cX7_digitHere 15 = .ok (.if_icmp .gt 13, 3) := by decide +kernel
theorem dX7_digitHere_18 : decode cX7_digitHere 18 = .ok (.aload_n 0, 1) := by decide +kernel
theorem dX7_digitHere_19 : decode cX7_digitHere 19 = .ok (.getfield 77, 3) := by decide +kernel
theorem dX7_digitHere_22 : decode cX7_digitHere 22 = .ok (.bipush 48, 2) := by decide +kernel
theorem dX7_digitHere_24 : decode cX7_digitHere 24 = .ok (.isub, 1) := by decide +kernel
theorem dX7_digitHere_25 : decode cX7_digitHere 25 = .ok (.goto 4, 3) := by decide +kernel
theorem dX7_digitHere_28 : decode cX7_digitHere 28 = .ok (.iconst (-1), 1) := by decide +kernel
theorem dX7_digitHere_29 : decode cX7_digitHere 29 = .ok (.ireturn, 1) := by decide +kernel
theorem s68_0 : aW d 68 0 [.ref o] S h Q = aW d 68 1 [.ref o] (.ref o :: S) h Q := ax_aload_n mt68 dX7_digitHere_0 rfl
theorem s68_1 (hT : gT h o = some (9, 5)) : aW d 68 1 L (.ref o :: S) h Q = aW d 68 4 L (.int (gI h o 3) :: S) h Q := ax_geti mt68 dX7_digitHere_1 (by decide) ft_28749 fk_28749 hT
theorem s68_4 : aW d 68 4 L S h Q = aW d 68 6 L (.int (nI 48) :: S) h Q := ax_bipush mt68 dX7_digitHere_4 bp_48
theorem s68_6 : aW d 68 6 L (.int b :: .int a :: S) h Q = (if a < b then aW d 68 28 L S h Q else aW d 68 9 L S h Q) := ax_icmp_lt mt68 dX7_digitHere_6 (by decide)
theorem s68_9 : aW d 68 9 [.ref o] S h Q = aW d 68 10 [.ref o] (.ref o :: S) h Q := ax_aload_n mt68 dX7_digitHere_9 rfl
theorem s68_10 (hT : gT h o = some (9, 5)) : aW d 68 10 L (.ref o :: S) h Q = aW d 68 13 L (.int (gI h o 3) :: S) h Q := ax_geti mt68 dX7_digitHere_10 (by decide) ft_28749 fk_28749 hT
theorem s68_13 : aW d 68 13 L S h Q = aW d 68 15 L (.int (nI 57) :: S) h Q := ax_bipush mt68 dX7_digitHere_13 bp_57
theorem s68_15 : aW d 68 15 L (.int b :: .int a :: S) h Q = (if b < a then aW d 68 28 L S h Q else aW d 68 18 L S h Q) := ax_icmp_gt mt68 dX7_digitHere_15 (by decide)
theorem s68_18 : aW d 68 18 [.ref o] S h Q = aW d 68 19 [.ref o] (.ref o :: S) h Q := ax_aload_n mt68 dX7_digitHere_18 rfl
theorem s68_19 (hT : gT h o = some (9, 5)) : aW d 68 19 L (.ref o :: S) h Q = aW d 68 22 L (.int (gI h o 3) :: S) h Q := ax_geti mt68 dX7_digitHere_19 (by decide) ft_28749 fk_28749 hT
theorem s68_22 : aW d 68 22 L S h Q = aW d 68 24 L (.int (nI 48) :: S) h Q := ax_bipush mt68 dX7_digitHere_22 bp_48
theorem s68_24 : aW d 68 24 L (.int b :: .int a :: S) h Q = aW d 68 25 L (.int (a - b) :: S) h Q := ax_isub mt68 dX7_digitHere_24
theorem s68_25 : aW d 68 25 L S h Q = aW d 68 29 L S h Q := ax_goto mt68 dX7_digitHere_25 (by decide)
theorem s68_29 : aW d 68 29 L [.int a] h Q = Q (some (.int a)) h := ax_reti mt68 dX7_digitHere_29 rfl
theorem s68_28 : aW d 68 28 L S h Q = aW d 68 29 L (.int ((-1)) :: S) h Q := ax_iconst mt68 dX7_digitHere_28 ic_m1
-- method 69: BufferRoom$Reader.bufferHere()I
theorem dX7_bufferHere_0 : decode cX7_bufferHere 0 = .ok (.aload_n 0, 1) := by decide +kernel
theorem dX7_bufferHere_1 : decode cX7_bufferHere 1 = .ok (.getfield 77, 3) := by decide +kernel
theorem dX7_bufferHere_4 : decode cX7_bufferHere 4 = .ok (.bipush 97, 2) := by decide +kernel
theorem dX7_bufferHere_6 : decode cX7_bufferHere 6 = .ok (.if_icmp .lt 22, 3) := by decide +kernel
theorem dX7_bufferHere_9 : decode cX7_bufferHere 9 = .ok (.aload_n 0, 1) := by decide +kernel
theorem dX7_bufferHere_10 : decode cX7_bufferHere 10 = .ok (.getfield 77, 3) := by decide +kernel
theorem dX7_bufferHere_13 : decode cX7_bufferHere 13 = .ok (.bipush 109, 2) := by decide +kernel
theorem dX7_bufferHere_15 : decode cX7_bufferHere 15 = .ok (.if_icmp .ge 13, 3) := by decide +kernel
theorem dX7_bufferHere_18 : decode cX7_bufferHere 18 = .ok (.aload_n 0, 1) := by decide +kernel
theorem dX7_bufferHere_19 : decode cX7_bufferHere 19 = .ok (.getfield 77, 3) := by decide +kernel
theorem dX7_bufferHere_22 : decode cX7_bufferHere 22 = .ok (.bipush 97, 2) := by decide +kernel
theorem dX7_bufferHere_24 : decode cX7_bufferHere 24 = .ok (.isub, 1) := by decide +kernel
theorem dX7_bufferHere_25 : decode cX7_bufferHere 25 = .ok (.goto 4, 3) := by decide +kernel
theorem dX7_bufferHere_28 : decode cX7_bufferHere 28 = .ok (.iconst (-1), 1) := by decide +kernel
theorem dX7_bufferHere_29 : decode cX7_bufferHere 29 = .ok (.ireturn, 1) := by decide +kernel
theorem s69_0 : aW d 69 0 [.ref o] S h Q = aW d 69 1 [.ref o] (.ref o :: S) h Q := ax_aload_n mt69 dX7_bufferHere_0 rfl
theorem s69_1 (hT : gT h o = some (9, 5)) : aW d 69 1 L (.ref o :: S) h Q = aW d 69 4 L (.int (gI h o 3) :: S) h Q := ax_geti mt69 dX7_bufferHere_1 (by decide) ft_28749 fk_28749 hT
theorem s69_4 : aW d 69 4 L S h Q = aW d 69 6 L (.int (nI 97) :: S) h Q := ax_bipush mt69 dX7_bufferHere_4 bp_97
theorem s69_6 : aW d 69 6 L (.int b :: .int a :: S) h Q = (if a < b then aW d 69 28 L S h Q else aW d 69 9 L S h Q) := ax_icmp_lt mt69 dX7_bufferHere_6 (by decide)
theorem s69_9 : aW d 69 9 [.ref o] S h Q = aW d 69 10 [.ref o] (.ref o :: S) h Q := ax_aload_n mt69 dX7_bufferHere_9 rfl
theorem s69_10 (hT : gT h o = some (9, 5)) : aW d 69 10 L (.ref o :: S) h Q = aW d 69 13 L (.int (gI h o 3) :: S) h Q := ax_geti mt69 dX7_bufferHere_10 (by decide) ft_28749 fk_28749 hT
theorem s69_13 : aW d 69 13 L S h Q = aW d 69 15 L (.int (nI 109) :: S) h Q := ax_bipush mt69 dX7_bufferHere_13 bp_109
theorem s69_15 : aW d 69 15 L (.int b :: .int a :: S) h Q = (if a < b then aW d 69 18 L S h Q else aW d 69 28 L S h Q) := ax_icmp_ge mt69 dX7_bufferHere_15 (by decide)
theorem s69_18 : aW d 69 18 [.ref o] S h Q = aW d 69 19 [.ref o] (.ref o :: S) h Q := ax_aload_n mt69 dX7_bufferHere_18 rfl
theorem s69_19 (hT : gT h o = some (9, 5)) : aW d 69 19 L (.ref o :: S) h Q = aW d 69 22 L (.int (gI h o 3) :: S) h Q := ax_geti mt69 dX7_bufferHere_19 (by decide) ft_28749 fk_28749 hT
theorem s69_22 : aW d 69 22 L S h Q = aW d 69 24 L (.int (nI 97) :: S) h Q := ax_bipush mt69 dX7_bufferHere_22 bp_97
theorem s69_24 : aW d 69 24 L (.int b :: .int a :: S) h Q = aW d 69 25 L (.int (a - b) :: S) h Q := ax_isub mt69 dX7_bufferHere_24
theorem s69_25 : aW d 69 25 L S h Q = aW d 69 29 L S h Q := ax_goto mt69 dX7_bufferHere_25 (by decide)
theorem s69_29 : aW d 69 29 L [.int a] h Q = Q (some (.int a)) h := ax_reti mt69 dX7_bufferHere_29 rfl
theorem s69_28 : aW d 69 28 L S h Q = aW d 69 29 L (.int ((-1)) :: S) h Q := ax_iconst mt69 dX7_bufferHere_28 ic_m1
-- method 70: BufferRoom$Reader.goTo(I)V
theorem dX7_goTo_0 : decode cX7_goTo 0 = .ok (.aload_n 0, 1) := by decide +kernel
theorem dX7_goTo_1 : decode cX7_goTo 1 = .ok (.iload_n 1, 1) := by decide +kernel
theorem dX7_goTo_2 : decode cX7_goTo 2 = .ok (.putfield 32, 3) := by decide +kernel
theorem dX7_goTo_5 : decode cX7_goTo 5 = .ok (.aload_n 0, 1) := by decide +kernel
theorem dX7_goTo_6 : decode cX7_goTo 6 = .ok (.iload_n 1, 1) := by decide +kernel
theorem dX7_goTo_7 : decode cX7_goTo 7 = .ok (.aload_n 0, 1) := by decide +kernel
theorem dX7_goTo_8 : decode cX7_goTo 8 = .ok (.getfield 15, 3) := by decide +kernel
theorem dX7_goTo_11 : decode cX7_goTo 11 = .ok (.if_icmp .ge 12, 3) := by decide +kernel
theorem dX7_goTo_14 : decode cX7_goTo 14 = .ok (.aload_n 0, 1) := by decide +kernel
theorem dX7_goTo_15 : decode cX7_goTo 15 = .ok (.getfield 9, 3) := by decide +kernel
theorem dX7_goTo_18 : decode cX7_goTo 18 = .ok (.iload_n 1, 1) := by decide +kernel
theorem dX7_goTo_19 : decode cX7_goTo 19 = .ok (.iaload, 1) := by decide +kernel
theorem dX7_goTo_20 : decode cX7_goTo 20 = .ok (.goto 4, 3) := by decide +kernel
theorem dX7_goTo_23 : decode cX7_goTo 23 = .ok (.iconst (-1), 1) := by decide +kernel
theorem dX7_goTo_24 : decode cX7_goTo 24 = .ok (.putfield 77, 3) := by decide +kernel
theorem dX7_goTo_27 : decode cX7_goTo 27 = .ok (.return_, 1) := by decide +kernel
theorem s70_0 : aW d 70 0 [.ref o, l1] S h Q = aW d 70 1 [.ref o, l1] (.ref o :: S) h Q := ax_aload_n mt70 dX7_goTo_0 rfl
theorem s70_1 : aW d 70 1 [l0, .int a] S h Q = aW d 70 2 [l0, .int a] (.int a :: S) h Q := ax_iload_n mt70 dX7_goTo_1 rfl
theorem s70_2 (hT : gT h o = some (9, 5)) : aW d 70 2 L (.int a :: .ref o :: S) h Q = aW d 70 5 L S (pI h o 2 a) Q := ax_puti mt70 dX7_goTo_2 (by decide) ft_28704 (fun q => fn_28704 q.1) fp_28704 hT
theorem s70_5 : aW d 70 5 [.ref o, l1] S h Q = aW d 70 6 [.ref o, l1] (.ref o :: S) h Q := ax_aload_n mt70 dX7_goTo_5 rfl
theorem s70_6 : aW d 70 6 [l0, .int a] S h Q = aW d 70 7 [l0, .int a] (.int a :: S) h Q := ax_iload_n mt70 dX7_goTo_6 rfl
theorem s70_7 : aW d 70 7 [.ref o, l1] S h Q = aW d 70 8 [.ref o, l1] (.ref o :: S) h Q := ax_aload_n mt70 dX7_goTo_7 rfl
theorem s70_8 (hT : gT h o = some (9, 5)) : aW d 70 8 L (.ref o :: S) h Q = aW d 70 11 L (.int (gI h o 1) :: S) h Q := ax_geti mt70 dX7_goTo_8 (by decide) ft_28687 fk_28687 hT
theorem s70_11 : aW d 70 11 L (.int b :: .int a :: S) h Q = (if a < b then aW d 70 14 L S h Q else aW d 70 23 L S h Q) := ax_icmp_ge mt70 dX7_goTo_11 (by decide)
theorem s70_14 : aW d 70 14 [.ref o, l1] S h Q = aW d 70 15 [.ref o, l1] (.ref o :: S) h Q := ax_aload_n mt70 dX7_goTo_14 rfl
theorem s70_15 (hT : gT h o = some (9, 5)) : aW d 70 15 L (.ref o :: S) h Q = (isRf (gR h o 0) = true ∧ aW d 70 18 L (gR h o 0 :: S) h Q) := ax_geta mt70 dX7_goTo_15 (by decide) ft_28681 fk_28681 hT
theorem s70_18 : aW d 70 18 [l0, .int a] S h Q = aW d 70 19 [l0, .int a] (.int a :: S) h Q := ax_iload_n mt70 dX7_goTo_18 rfl
theorem s70_19 : aW d 70 19 L (.int a :: .ref o :: S) h Q = (inb a (aI h o) ∧ aW d 70 20 L (.int (gI h o a.toNatClampNeg) :: S) h Q) := ax_iald mt70 dX7_goTo_19
theorem s70_20 : aW d 70 20 L S h Q = aW d 70 24 L S h Q := ax_goto mt70 dX7_goTo_20 (by decide)
theorem s70_24 (hT : gT h o = some (9, 5)) : aW d 70 24 L (.int a :: .ref o :: S) h Q = aW d 70 27 L S (pI h o 3 a) Q := ax_puti mt70 dX7_goTo_24 (by decide) ft_28749 (fun q => fn_28749 q.1) fp_28749 hT
theorem s70_27 : aW d 70 27 L [] h Q = Q none h := ax_retv mt70 dX7_goTo_27 rfl
theorem s70_23 : aW d 70 23 L S h Q = aW d 70 24 L (.int ((-1)) :: S) h Q := ax_iconst mt70 dX7_goTo_23 ic_m1
-- method 71: BufferRoom$Sending.<init>()V
theorem dX8_init_0 : decode cX8_init 0 = .ok (.aload_n 0, 1) := by decide +kernel
theorem dX8_init_1 : decode cX8_init 1 = .ok (.invokespecial 3, 3) := by decide +kernel
theorem dX8_init_4 : decode cX8_init 4 = .ok (.return_, 1) := by decide +kernel
theorem s71_0 : aW d 71 0 [.ref o] S h Q = aW d 71 1 [.ref o] (.ref o :: S) h Q := ax_aload_n mt71 dX8_init_0 rfl
theorem s71_1 : aW (d + 1) 71 1 L (.ref o :: []) h Q = aW (d + 1) 71 4 L [] h Q := ax_obj mt71 dX8_init_1 (by decide) ct_32771 (Nat.le_of_ble_eq_true rfl)
theorem s71_4 : aW d 71 4 L [] h Q = Q none h := ax_retv mt71 dX8_init_4 rfl
-- method 72: BufferRoom$Sending.find(LBufferRoom$Timeline;LBufferRoom$Sheet;II)I
theorem dX8_find_0 : decode cX8_find 0 = .ok (.aload_n 0, 1) := by decide +kernel
theorem dX8_find_1 : decode cX8_find 1 = .ok (.aload_n 1, 1) := by decide +kernel
theorem dX8_find_2 : decode cX8_find 2 = .ok (.putfield 9, 3) := by decide +kernel
theorem dX8_find_5 : decode cX8_find 5 = .ok (.aload_n 0, 1) := by decide +kernel
theorem dX8_find_6 : decode cX8_find 6 = .ok (.aload_n 2, 1) := by decide +kernel
theorem dX8_find_7 : decode cX8_find 7 = .ok (.putfield 15, 3) := by decide +kernel
theorem dX8_find_10 : decode cX8_find 10 = .ok (.iconst (-1), 1) := by decide +kernel
theorem dX8_find_11 : decode cX8_find 11 = .ok (.istore 5, 2) := by decide +kernel
theorem dX8_find_13 : decode cX8_find 13 = .ok (.iconst 0, 1) := by decide +kernel
theorem dX8_find_14 : decode cX8_find 14 = .ok (.istore 6, 2) := by decide +kernel
theorem dX8_find_16 : decode cX8_find 16 = .ok (.iload 6, 2) := by decide +kernel
theorem dX8_find_18 : decode cX8_find 18 = .ok (.iconst 1, 1) := by decide +kernel
theorem dX8_find_19 : decode cX8_find 19 = .ok (.aload_n 0, 1) := by decide +kernel
theorem dX8_find_20 : decode cX8_find 20 = .ok (.getfield 15, 3) := by decide +kernel
theorem dX8_find_23 : decode cX8_find 23 = .ok (.getfield 19, 3) := by decide +kernel
theorem dX8_find_26 : decode cX8_find 26 = .ok (.ishl, 1) := by decide +kernel
theorem dX8_find_27 : decode cX8_find 27 = .ok (.if_icmp .ge 59, 3) := by decide +kernel
theorem dX8_find_30 : decode cX8_find 30 = .ok (.aload_n 0, 1) := by decide +kernel
theorem dX8_find_31 : decode cX8_find 31 = .ok (.iload 6, 2) := by decide +kernel
theorem dX8_find_33 : decode cX8_find 33 = .ok (.invokevirtual 25, 3) := by decide +kernel
theorem dX8_find_36 : decode cX8_find 36 = .ok (.istore 7, 2) := by decide +kernel
theorem dX8_find_38 : decode cX8_find 38 = .ok (.aload_n 0, 1) := by decide +kernel
theorem dX8_find_39 : decode cX8_find 39 = .ok (.iload 7, 2) := by decide +kernel
theorem dX8_find_41 : decode cX8_find 41 = .ok (.iload 4, 2) := by decide +kernel
theorem dX8_find_43 : decode cX8_find 43 = .ok (.invokevirtual 29, 3) := by decide +kernel
theorem dX8_find_46 : decode cX8_find 46 = .ok (.istore 8, 2) := by decide +kernel
theorem dX8_find_48 : decode cX8_find 48 = .ok (.iload 5, 2) := by decide +kernel
theorem dX8_find_50 : decode cX8_find 50 = .ok (.ifCond .lt 10, 3) := by decide +kernel
theorem dX8_find_53 : decode cX8_find 53 = .ok (.iload 8, 2) := by decide +kernel
theorem dX8_find_55 : decode cX8_find 55 = .ok (.iload 5, 2) := by decide +kernel
theorem dX8_find_57 : decode cX8_find 57 = .ok (.if_icmp .ge 23, 3) := by decide +kernel
theorem dX8_find_60 : decode cX8_find 60 = .ok (.aload_n 0, 1) := by decide +kernel
theorem dX8_find_61 : decode cX8_find 61 = .ok (.iload 7, 2) := by decide +kernel
theorem dX8_find_63 : decode cX8_find 63 = .ok (.iload_n 3, 1) := by decide +kernel
theorem dX8_find_64 : decode cX8_find 64 = .ok (.invokevirtual 33, 3) := by decide +kernel
theorem dX8_find_67 : decode cX8_find 67 = .ok (.ifCond .eq 13, 3) := by decide +kernel
theorem dX8_find_70 : decode cX8_find 70 = .ok (.iload 8, 2) := by decide +kernel
theorem dX8_find_72 : decode cX8_find 72 = .ok (.istore 5, 2) := by decide +kernel
theorem dX8_find_74 : decode cX8_find 74 = .ok (.aload_n 0, 1) := by decide +kernel
theorem dX8_find_75 : decode cX8_find 75 = .ok (.iload 7, 2) := by decide +kernel
theorem dX8_find_77 : decode cX8_find 77 = .ok (.putfield 37, 3) := by decide +kernel
theorem dX8_find_80 : decode cX8_find 80 = .ok (.iinc 6 1, 3) := by decide +kernel
theorem dX8_find_83 : decode cX8_find 83 = .ok (.goto (-67), 3) := by decide +kernel
theorem dX8_find_86 : decode cX8_find 86 = .ok (.iload 5, 2) := by decide +kernel
theorem dX8_find_88 : decode cX8_find 88 = .ok (.ireturn, 1) := by decide +kernel
theorem s72_0 : aW d 72 0 [.ref o, l1, l2, l3, l4, l5, l6, l7, l8] S h Q = aW d 72 1 [.ref o, l1, l2, l3, l4, l5, l6, l7, l8] (.ref o :: S) h Q := ax_aload_n mt72 dX8_find_0 rfl
theorem s72_1 : aW d 72 1 [l0, .ref o, l2, l3, l4, l5, l6, l7, l8] S h Q = aW d 72 2 [l0, .ref o, l2, l3, l4, l5, l6, l7, l8] (.ref o :: S) h Q := ax_aload_n mt72 dX8_find_1 rfl
theorem s72_2 (hT : gT h o = some (10, 3)) : aW d 72 2 L (.ref o2 :: .ref o :: S) h Q = aW d 72 5 L S (pR h o 1 (.ref o2)) Q := ax_puta mt72 dX8_find_2 (by decide) ft_32777 (fun q => fn_32777 q.1) fp_32777 hT
theorem s72_5 : aW d 72 5 [.ref o, l1, l2, l3, l4, l5, l6, l7, l8] S h Q = aW d 72 6 [.ref o, l1, l2, l3, l4, l5, l6, l7, l8] (.ref o :: S) h Q := ax_aload_n mt72 dX8_find_5 rfl
theorem s72_6 : aW d 72 6 [l0, l1, .ref o, l3, l4, l5, l6, l7, l8] S h Q = aW d 72 7 [l0, l1, .ref o, l3, l4, l5, l6, l7, l8] (.ref o :: S) h Q := ax_aload_n mt72 dX8_find_6 rfl
theorem s72_7 (hT : gT h o = some (10, 3)) : aW d 72 7 L (.ref o2 :: .ref o :: S) h Q = aW d 72 10 L S (pR h o 2 (.ref o2)) Q := ax_puta mt72 dX8_find_7 (by decide) ft_32783 (fun q => fn_32783 q.1) fp_32783 hT
theorem s72_10 : aW d 72 10 L S h Q = aW d 72 11 L (.int ((-1)) :: S) h Q := ax_iconst mt72 dX8_find_10 ic_m1
theorem s72_11 : aW d 72 11 [l0, l1, l2, l3, l4, l5, l6, l7, l8] (.int a :: S) h Q = aW d 72 13 [l0, l1, l2, l3, l4, .int a, l6, l7, l8] S h Q := ax_istore mt72 dX8_find_11 (Nat.le_of_ble_eq_true rfl) rfl
theorem s72_13 : aW d 72 13 L S h Q = aW d 72 14 L (.int (nI 0) :: S) h Q := ax_iconst mt72 dX8_find_13 ic_0
theorem s72_14 : aW d 72 14 [l0, l1, l2, l3, l4, l5, l6, l7, l8] (.int a :: S) h Q = aW d 72 16 [l0, l1, l2, l3, l4, l5, .int a, l7, l8] S h Q := ax_istore mt72 dX8_find_14 (Nat.le_of_ble_eq_true rfl) rfl
theorem s72_16 : aW d 72 16 [l0, l1, l2, l3, l4, l5, .int a, l7, l8] S h Q = aW d 72 18 [l0, l1, l2, l3, l4, l5, .int a, l7, l8] (.int a :: S) h Q := ax_iload mt72 dX8_find_16 rfl
theorem s72_18 : aW d 72 18 L S h Q = aW d 72 19 L (.int (nI 1) :: S) h Q := ax_iconst mt72 dX8_find_18 ic_1
theorem s72_19 : aW d 72 19 [.ref o, l1, l2, l3, l4, l5, l6, l7, l8] S h Q = aW d 72 20 [.ref o, l1, l2, l3, l4, l5, l6, l7, l8] (.ref o :: S) h Q := ax_aload_n mt72 dX8_find_19 rfl
theorem s72_20 (hT : gT h o = some (10, 3)) : aW d 72 20 L (.ref o :: S) h Q = (isRf (gR h o 2) = true ∧ aW d 72 23 L (gR h o 2 :: S) h Q) := ax_geta mt72 dX8_find_20 (by decide) ft_32783 fk_32783 hT
theorem s72_23 (hT : gT h o = some (11, 3)) : aW d 72 23 L (.ref o :: S) h Q = aW d 72 26 L (.int (gI h o 1) :: S) h Q := ax_geti mt72 dX8_find_23 (by decide) ft_32787 fk_32787 hT
theorem s72_26 : aW d 72 26 L (.int b :: .int a :: S) h Q = aW d 72 27 L (.int (a <<< (b &&& 31)) :: S) h Q := ax_ishl mt72 dX8_find_26
theorem s72_27 : aW d 72 27 L (.int b :: .int a :: S) h Q = (if a < b then aW d 72 30 L S h Q else aW d 72 86 L S h Q) := ax_icmp_ge mt72 dX8_find_27 (by decide)
theorem s72_30 : aW d 72 30 [.ref o, l1, l2, l3, l4, l5, l6, l7, l8] S h Q = aW d 72 31 [.ref o, l1, l2, l3, l4, l5, l6, l7, l8] (.ref o :: S) h Q := ax_aload_n mt72 dX8_find_30 rfl
theorem s72_31 : aW d 72 31 [l0, l1, l2, l3, l4, l5, .int a, l7, l8] S h Q = aW d 72 33 [l0, l1, l2, l3, l4, l5, .int a, l7, l8] (.int a :: S) h Q := ax_iload mt72 dX8_find_31 rfl
theorem s72_33 (hT : gT h o = some (10, 3)) : aW (d + 1) 72 33 L (.int x0 :: .ref o :: []) h Q = aM d 73 (.ref o :: [.int x0]) h (fun v h1 => aW (d + 1) 72 36 L (ab_ps v []) h1 Q) := ax_invv mt72 dX8_find_33 (by decide) ct_32793 (.inl rfl) mt73 ⟨⟨Nat.le_of_ble_eq_true rfl, Nat.le_of_ble_eq_true rfl, Nat.le_of_ble_eq_true rfl⟩, rfl, rfl, rfl⟩ hT
theorem s72_36 : aW d 72 36 [l0, l1, l2, l3, l4, l5, l6, l7, l8] (.int a :: S) h Q = aW d 72 38 [l0, l1, l2, l3, l4, l5, l6, .int a, l8] S h Q := ax_istore mt72 dX8_find_36 (Nat.le_of_ble_eq_true rfl) rfl
theorem s72_38 : aW d 72 38 [.ref o, l1, l2, l3, l4, l5, l6, l7, l8] S h Q = aW d 72 39 [.ref o, l1, l2, l3, l4, l5, l6, l7, l8] (.ref o :: S) h Q := ax_aload_n mt72 dX8_find_38 rfl
theorem s72_39 : aW d 72 39 [l0, l1, l2, l3, l4, l5, l6, .int a, l8] S h Q = aW d 72 41 [l0, l1, l2, l3, l4, l5, l6, .int a, l8] (.int a :: S) h Q := ax_iload mt72 dX8_find_39 rfl
theorem s72_41 : aW d 72 41 [l0, l1, l2, l3, .int a, l5, l6, l7, l8] S h Q = aW d 72 43 [l0, l1, l2, l3, .int a, l5, l6, l7, l8] (.int a :: S) h Q := ax_iload mt72 dX8_find_41 rfl
theorem s72_43 (hT : gT h o = some (10, 3)) : aW (d + 1) 72 43 L (.int x1 :: .int x0 :: .ref o :: []) h Q = aM d 74 (.ref o :: [.int x0, .int x1]) h (fun v h1 => aW (d + 1) 72 46 L (ab_ps v []) h1 Q) := ax_invv mt72 dX8_find_43 (by decide) ct_32797 (.inl rfl) mt74 ⟨⟨Nat.le_of_ble_eq_true rfl, Nat.le_of_ble_eq_true rfl, Nat.le_of_ble_eq_true rfl⟩, rfl, rfl, rfl⟩ hT
theorem s72_46 : aW d 72 46 [l0, l1, l2, l3, l4, l5, l6, l7, l8] (.int a :: S) h Q = aW d 72 48 [l0, l1, l2, l3, l4, l5, l6, l7, .int a] S h Q := ax_istore mt72 dX8_find_46 (Nat.le_of_ble_eq_true rfl) rfl
theorem s72_48 : aW d 72 48 [l0, l1, l2, l3, l4, .int a, l6, l7, l8] S h Q = aW d 72 50 [l0, l1, l2, l3, l4, .int a, l6, l7, l8] (.int a :: S) h Q := ax_iload mt72 dX8_find_48 rfl
theorem s72_50 : aW d 72 50 L (.int a :: S) h Q = (if a < 0 then aW d 72 60 L S h Q else aW d 72 53 L S h Q) := ax_if_lt mt72 dX8_find_50 (by decide)
theorem s72_53 : aW d 72 53 [l0, l1, l2, l3, l4, l5, l6, l7, .int a] S h Q = aW d 72 55 [l0, l1, l2, l3, l4, l5, l6, l7, .int a] (.int a :: S) h Q := ax_iload mt72 dX8_find_53 rfl
theorem s72_55 : aW d 72 55 [l0, l1, l2, l3, l4, .int a, l6, l7, l8] S h Q = aW d 72 57 [l0, l1, l2, l3, l4, .int a, l6, l7, l8] (.int a :: S) h Q := ax_iload mt72 dX8_find_55 rfl
theorem s72_57 : aW d 72 57 L (.int b :: .int a :: S) h Q = (if a < b then aW d 72 60 L S h Q else aW d 72 80 L S h Q) := ax_icmp_ge mt72 dX8_find_57 (by decide)
theorem s72_80 : aW d 72 80 [l0, l1, l2, l3, l4, l5, .int a, l7, l8] S h Q = aW d 72 83 [l0, l1, l2, l3, l4, l5, .int (a + nI 1), l7, l8] S h Q := ax_iinc mt72 dX8_find_80 rfl ic_1 rfl
theorem s72_83 : aW d 72 83 L S h Q = aW d 72 16 L S h Q := ax_goto mt72 dX8_find_83 (by decide)
theorem s72_60 : aW d 72 60 [.ref o, l1, l2, l3, l4, l5, l6, l7, l8] S h Q = aW d 72 61 [.ref o, l1, l2, l3, l4, l5, l6, l7, l8] (.ref o :: S) h Q := ax_aload_n mt72 dX8_find_60 rfl
theorem s72_61 : aW d 72 61 [l0, l1, l2, l3, l4, l5, l6, .int a, l8] S h Q = aW d 72 63 [l0, l1, l2, l3, l4, l5, l6, .int a, l8] (.int a :: S) h Q := ax_iload mt72 dX8_find_61 rfl
theorem s72_63 : aW d 72 63 [l0, l1, l2, .int a, l4, l5, l6, l7, l8] S h Q = aW d 72 64 [l0, l1, l2, .int a, l4, l5, l6, l7, l8] (.int a :: S) h Q := ax_iload_n mt72 dX8_find_63 rfl
theorem s72_64 (hT : gT h o = some (10, 3)) : aW (d + 1) 72 64 L (.int x1 :: .int x0 :: .ref o :: []) h Q = aM d 75 (.ref o :: [.int x0, .int x1]) h (fun v h1 => aW (d + 1) 72 67 L (ab_ps v []) h1 Q) := ax_invv mt72 dX8_find_64 (by decide) ct_32801 (.inl rfl) mt75 ⟨⟨Nat.le_of_ble_eq_true rfl, Nat.le_of_ble_eq_true rfl, Nat.le_of_ble_eq_true rfl⟩, rfl, rfl, rfl⟩ hT
theorem s72_67 : aW d 72 67 L (.int a :: S) h Q = (if a = 0 then aW d 72 80 L S h Q else aW d 72 70 L S h Q) := ax_if_eq mt72 dX8_find_67 (by decide)
theorem s72_70 : aW d 72 70 [l0, l1, l2, l3, l4, l5, l6, l7, .int a] S h Q = aW d 72 72 [l0, l1, l2, l3, l4, l5, l6, l7, .int a] (.int a :: S) h Q := ax_iload mt72 dX8_find_70 rfl
theorem s72_72 : aW d 72 72 [l0, l1, l2, l3, l4, l5, l6, l7, l8] (.int a :: S) h Q = aW d 72 74 [l0, l1, l2, l3, l4, .int a, l6, l7, l8] S h Q := ax_istore mt72 dX8_find_72 (Nat.le_of_ble_eq_true rfl) rfl
theorem s72_74 : aW d 72 74 [.ref o, l1, l2, l3, l4, l5, l6, l7, l8] S h Q = aW d 72 75 [.ref o, l1, l2, l3, l4, l5, l6, l7, l8] (.ref o :: S) h Q := ax_aload_n mt72 dX8_find_74 rfl
theorem s72_75 : aW d 72 75 [l0, l1, l2, l3, l4, l5, l6, .int a, l8] S h Q = aW d 72 77 [l0, l1, l2, l3, l4, l5, l6, .int a, l8] (.int a :: S) h Q := ax_iload mt72 dX8_find_75 rfl
theorem s72_77 (hT : gT h o = some (10, 3)) : aW d 72 77 L (.int a :: .ref o :: S) h Q = aW d 72 80 L S (pI h o 0 a) Q := ax_puti mt72 dX8_find_77 (by decide) ft_32805 (fun q => fn_32805 q.1) fp_32805 hT
theorem s72_86 : aW d 72 86 [l0, l1, l2, l3, l4, .int a, l6, l7, l8] S h Q = aW d 72 88 [l0, l1, l2, l3, l4, .int a, l6, l7, l8] (.int a :: S) h Q := ax_iload mt72 dX8_find_86 rfl
theorem s72_88 : aW d 72 88 L [.int a] h Q = Q (some (.int a)) h := ax_reti mt72 dX8_find_88 rfl
-- method 73: BufferRoom$Sending.buffersOf(I)I
theorem dX8_buffersOf_0 : decode cX8_buffersOf 0 = .ok (.iconst 0, 1) := by decide +kernel
theorem dX8_buffersOf_1 : decode cX8_buffersOf 1 = .ok (.istore_n 2, 1) := by decide +kernel
theorem dX8_buffersOf_2 : decode cX8_buffersOf 2 = .ok (.iconst 0, 1) := by decide +kernel
theorem dX8_buffersOf_3 : decode cX8_buffersOf 3 = .ok (.istore_n 3, 1) := by decide +kernel
theorem dX8_buffersOf_4 : decode cX8_buffersOf 4 = .ok (.iload_n 3, 1) := by decide +kernel
theorem dX8_buffersOf_5 : decode cX8_buffersOf 5 = .ok (.aload_n 0, 1) := by decide +kernel
theorem dX8_buffersOf_6 : decode cX8_buffersOf 6 = .ok (.getfield 15, 3) := by decide +kernel
theorem dX8_buffersOf_9 : decode cX8_buffersOf 9 = .ok (.getfield 19, 3) := by decide +kernel
theorem dX8_buffersOf_12 : decode cX8_buffersOf 12 = .ok (.if_icmp .ge 31, 3) := by decide +kernel
theorem dX8_buffersOf_15 : decode cX8_buffersOf 15 = .ok (.iload_n 1, 1) := by decide +kernel
theorem dX8_buffersOf_16 : decode cX8_buffersOf 16 = .ok (.iload_n 3, 1) := by decide +kernel
theorem dX8_buffersOf_17 : decode cX8_buffersOf 17 = .ok (.ishr, 1) := by decide +kernel
theorem dX8_buffersOf_18 : decode cX8_buffersOf 18 = .ok (.iconst 1, 1) := by decide +kernel
theorem dX8_buffersOf_19 : decode cX8_buffersOf 19 = .ok (.iand, 1) := by decide +kernel
theorem dX8_buffersOf_20 : decode cX8_buffersOf 20 = .ok (.ifCond .eq 17, 3) := by decide +kernel
theorem dX8_buffersOf_23 : decode cX8_buffersOf 23 = .ok (.iload_n 2, 1) := by decide +kernel
theorem dX8_buffersOf_24 : decode cX8_buffersOf 24 = .ok (.iconst 1, 1) := by decide +kernel
theorem dX8_buffersOf_25 : decode cX8_buffersOf 25 = .ok (.aload_n 0, 1) := by decide +kernel
theorem dX8_buffersOf_26 : decode cX8_buffersOf 26 = .ok (.getfield 15, 3) := by decide +kernel
theorem dX8_buffersOf_29 : decode cX8_buffersOf 29 = .ok (.getfield 40, 3) := by decide +kernel
theorem dX8_buffersOf_32 : decode cX8_buffersOf 32 = .ok (.iload_n 3, 1) := by decide +kernel
theorem dX8_buffersOf_33 : decode cX8_buffersOf 33 = .ok (.iaload, 1) := by decide +kernel
theorem dX8_buffersOf_34 : decode cX8_buffersOf 34 = .ok (.ishl, 1) := by decide +kernel
theorem dX8_buffersOf_35 : decode cX8_buffersOf 35 = .ok (.ior, 1) := by decide +kernel
theorem dX8_buffersOf_36 : decode cX8_buffersOf 36 = .ok (.istore_n 2, 1) := by decide +kernel
theorem dX8_buffersOf_37 : decode cX8_buffersOf 37 = .ok (.iinc 3 1, 3) := by decide +kernel
theorem dX8_buffersOf_40 : decode cX8_buffersOf 40 = .ok (.goto (-36), 3) := by decide +kernel
theorem dX8_buffersOf_43 : decode cX8_buffersOf 43 = .ok (.iload_n 2, 1) := by decide +kernel
theorem dX8_buffersOf_44 : decode cX8_buffersOf 44 = .ok (.ireturn, 1) := by decide +kernel
theorem s73_0 : aW d 73 0 L S h Q = aW d 73 1 L (.int (nI 0) :: S) h Q := ax_iconst mt73 dX8_buffersOf_0 ic_0
theorem s73_1 : aW d 73 1 [l0, l1, l2, l3] (.int a :: S) h Q = aW d 73 2 [l0, l1, .int a, l3] S h Q := ax_istore_n mt73 dX8_buffersOf_1 (Nat.le_of_ble_eq_true rfl) rfl
theorem s73_2 : aW d 73 2 L S h Q = aW d 73 3 L (.int (nI 0) :: S) h Q := ax_iconst mt73 dX8_buffersOf_2 ic_0
theorem s73_3 : aW d 73 3 [l0, l1, l2, l3] (.int a :: S) h Q = aW d 73 4 [l0, l1, l2, .int a] S h Q := ax_istore_n mt73 dX8_buffersOf_3 (Nat.le_of_ble_eq_true rfl) rfl
theorem s73_4 : aW d 73 4 [l0, l1, l2, .int a] S h Q = aW d 73 5 [l0, l1, l2, .int a] (.int a :: S) h Q := ax_iload_n mt73 dX8_buffersOf_4 rfl
theorem s73_5 : aW d 73 5 [.ref o, l1, l2, l3] S h Q = aW d 73 6 [.ref o, l1, l2, l3] (.ref o :: S) h Q := ax_aload_n mt73 dX8_buffersOf_5 rfl
theorem s73_6 (hT : gT h o = some (10, 3)) : aW d 73 6 L (.ref o :: S) h Q = (isRf (gR h o 2) = true ∧ aW d 73 9 L (gR h o 2 :: S) h Q) := ax_geta mt73 dX8_buffersOf_6 (by decide) ft_32783 fk_32783 hT
theorem s73_9 (hT : gT h o = some (11, 3)) : aW d 73 9 L (.ref o :: S) h Q = aW d 73 12 L (.int (gI h o 1) :: S) h Q := ax_geti mt73 dX8_buffersOf_9 (by decide) ft_32787 fk_32787 hT
theorem s73_12 : aW d 73 12 L (.int b :: .int a :: S) h Q = (if a < b then aW d 73 15 L S h Q else aW d 73 43 L S h Q) := ax_icmp_ge mt73 dX8_buffersOf_12 (by decide)
theorem s73_15 : aW d 73 15 [l0, .int a, l2, l3] S h Q = aW d 73 16 [l0, .int a, l2, l3] (.int a :: S) h Q := ax_iload_n mt73 dX8_buffersOf_15 rfl
theorem s73_16 : aW d 73 16 [l0, l1, l2, .int a] S h Q = aW d 73 17 [l0, l1, l2, .int a] (.int a :: S) h Q := ax_iload_n mt73 dX8_buffersOf_16 rfl
theorem s73_17 : aW d 73 17 L (.int b :: .int a :: S) h Q = aW d 73 18 L (.int (a >>> (b &&& 31)) :: S) h Q := ax_ishr mt73 dX8_buffersOf_17
theorem s73_18 : aW d 73 18 L S h Q = aW d 73 19 L (.int (nI 1) :: S) h Q := ax_iconst mt73 dX8_buffersOf_18 ic_1
theorem s73_19 : aW d 73 19 L (.int b :: .int a :: S) h Q = aW d 73 20 L (.int (a &&& b) :: S) h Q := ax_iand mt73 dX8_buffersOf_19
theorem s73_20 : aW d 73 20 L (.int a :: S) h Q = (if a = 0 then aW d 73 37 L S h Q else aW d 73 23 L S h Q) := ax_if_eq mt73 dX8_buffersOf_20 (by decide)
theorem s73_23 : aW d 73 23 [l0, l1, .int a, l3] S h Q = aW d 73 24 [l0, l1, .int a, l3] (.int a :: S) h Q := ax_iload_n mt73 dX8_buffersOf_23 rfl
theorem s73_24 : aW d 73 24 L S h Q = aW d 73 25 L (.int (nI 1) :: S) h Q := ax_iconst mt73 dX8_buffersOf_24 ic_1
theorem s73_25 : aW d 73 25 [.ref o, l1, l2, l3] S h Q = aW d 73 26 [.ref o, l1, l2, l3] (.ref o :: S) h Q := ax_aload_n mt73 dX8_buffersOf_25 rfl
theorem s73_26 (hT : gT h o = some (10, 3)) : aW d 73 26 L (.ref o :: S) h Q = (isRf (gR h o 2) = true ∧ aW d 73 29 L (gR h o 2 :: S) h Q) := ax_geta mt73 dX8_buffersOf_26 (by decide) ft_32783 fk_32783 hT
theorem s73_29 (hT : gT h o = some (11, 3)) : aW d 73 29 L (.ref o :: S) h Q = (isRf (gR h o 2) = true ∧ aW d 73 32 L (gR h o 2 :: S) h Q) := ax_geta mt73 dX8_buffersOf_29 (by decide) ft_32808 fk_32808 hT
theorem s73_32 : aW d 73 32 [l0, l1, l2, .int a] S h Q = aW d 73 33 [l0, l1, l2, .int a] (.int a :: S) h Q := ax_iload_n mt73 dX8_buffersOf_32 rfl
theorem s73_33 : aW d 73 33 L (.int a :: .ref o :: S) h Q = (inb a (aI h o) ∧ aW d 73 34 L (.int (gI h o a.toNatClampNeg) :: S) h Q) := ax_iald mt73 dX8_buffersOf_33
theorem s73_34 : aW d 73 34 L (.int b :: .int a :: S) h Q = aW d 73 35 L (.int (a <<< (b &&& 31)) :: S) h Q := ax_ishl mt73 dX8_buffersOf_34
theorem s73_35 : aW d 73 35 L (.int b :: .int a :: S) h Q = aW d 73 36 L (.int (a ||| b) :: S) h Q := ax_ior mt73 dX8_buffersOf_35
theorem s73_36 : aW d 73 36 [l0, l1, l2, l3] (.int a :: S) h Q = aW d 73 37 [l0, l1, .int a, l3] S h Q := ax_istore_n mt73 dX8_buffersOf_36 (Nat.le_of_ble_eq_true rfl) rfl
theorem s73_37 : aW d 73 37 [l0, l1, l2, .int a] S h Q = aW d 73 40 [l0, l1, l2, .int (a + nI 1)] S h Q := ax_iinc mt73 dX8_buffersOf_37 rfl ic_1 rfl
theorem s73_40 : aW d 73 40 L S h Q = aW d 73 4 L S h Q := ax_goto mt73 dX8_buffersOf_40 (by decide)
theorem s73_43 : aW d 73 43 [l0, l1, .int a, l3] S h Q = aW d 73 44 [l0, l1, .int a, l3] (.int a :: S) h Q := ax_iload_n mt73 dX8_buffersOf_43 rfl
theorem s73_44 : aW d 73 44 L [.int a] h Q = Q (some (.int a)) h := ax_reti mt73 dX8_buffersOf_44 rfl
-- method 74: BufferRoom$Sending.timeOf(II)I
theorem dX8_timeOf_0 : decode cX8_timeOf 0 = .ok (.iconst 0, 1) := by decide +kernel
theorem dX8_timeOf_1 : decode cX8_timeOf 1 = .ok (.istore_n 3, 1) := by decide +kernel
theorem dX8_timeOf_2 : decode cX8_timeOf 2 = .ok (.iconst 0, 1) := by decide +kernel
theorem dX8_timeOf_3 : decode cX8_timeOf 3 = .ok (.istore 4, 2) := by decide +kernel
theorem dX8_timeOf_5 : decode cX8_timeOf 5 = .ok (.iload 4, 2) := by decide +kernel
theorem dX8_timeOf_7 : decode cX8_timeOf 7 = .ok (.bipush 12, 2) := by decide +kernel
theorem dX8_timeOf_9 : decode cX8_timeOf 9 = .ok (.if_icmp .ge 70, 3) := by decide +kernel
theorem dX8_timeOf_12 : decode cX8_timeOf 12 = .ok (.iload_n 1, 1) := by decide +kernel
theorem dX8_timeOf_13 : decode cX8_timeOf 13 = .ok (.iload 4, 2) := by decide +kernel
theorem dX8_timeOf_15 : decode cX8_timeOf 15 = .ok (.ishr, 1) := by decide +kernel
theorem dX8_timeOf_16 : decode cX8_timeOf 16 = .ok (.iconst 1, 1) := by decide +kernel
theorem dX8_timeOf_17 : decode cX8_timeOf 17 = .ok (.iand, 1) := by decide +kernel
theorem dX8_timeOf_18 : decode cX8_timeOf 18 = .ok (.ifCond .eq 55, 3) := by decide +kernel
theorem dX8_timeOf_21 : decode cX8_timeOf 21 = .ok (.aload_n 0, 1) := by decide +kernel
theorem dX8_timeOf_22 : decode cX8_timeOf 22 = .ok (.getfield 9, 3) := by decide +kernel
theorem dX8_timeOf_25 : decode cX8_timeOf 25 = .ok (.iload 4, 2) := by decide +kernel
theorem dX8_timeOf_27 : decode cX8_timeOf 27 = .ok (.invokevirtual 44, 3) := by decide +kernel
theorem dX8_timeOf_30 : decode cX8_timeOf 30 = .ok (.istore 5, 2) := by decide +kernel
theorem dX8_timeOf_32 : decode cX8_timeOf 32 = .ok (.iload 5, 2) := by decide +kernel
theorem dX8_timeOf_34 : decode cX8_timeOf 34 = .ok (.iload 5, 2) := by decide +kernel
theorem dX8_timeOf_36 : decode cX8_timeOf 36 = .ok (.iconst 1, 1) := by decide +kernel
theorem dX8_timeOf_37 : decode cX8_timeOf 37 = .ok (.ishl, 1) := by decide +kernel
theorem dX8_timeOf_38 : decode cX8_timeOf 38 = .ok (.iconst (-1), 1) := by decide +kernel
theorem dX8_timeOf_39 : decode cX8_timeOf 39 = .ok (.ixor, 1) := by decide +kernel
theorem dX8_timeOf_40 : decode cX8_timeOf 40 = .ok (.iand, 1) := by decide +kernel
theorem dX8_timeOf_41 : decode cX8_timeOf 41 = .ok (.invokestatic 49, 3) := by decide +kernel
theorem dX8_timeOf_44 : decode cX8_timeOf 44 = .ok (.istore 6, 2) := by decide +kernel
theorem dX8_timeOf_46 : decode cX8_timeOf 46 = .ok (.iload_n 3, 1) := by decide +kernel
theorem dX8_timeOf_47 : decode cX8_timeOf 47 = .ok (.iload 6, 2) := by decide +kernel
theorem dX8_timeOf_49 : decode cX8_timeOf 49 = .ok (.iconst 2, 1) := by decide +kernel
theorem dX8_timeOf_50 : decode cX8_timeOf 50 = .ok (.aload_n 0, 1) := by decide +kernel
theorem dX8_timeOf_51 : decode cX8_timeOf 51 = .ok (.getfield 9, 3) := by decide +kernel
theorem dX8_timeOf_54 : decode cX8_timeOf 54 = .ok (.getfield 54, 3) := by decide +kernel
theorem dX8_timeOf_57 : decode cX8_timeOf 57 = .ok (.getfield 58, 3) := by decide +kernel
theorem dX8_timeOf_60 : decode cX8_timeOf 60 = .ok (.iload 4, 2) := by decide +kernel
theorem dX8_timeOf_62 : decode cX8_timeOf 62 = .ok (.iaload, 1) := by decide +kernel
theorem dX8_timeOf_63 : decode cX8_timeOf 63 = .ok (.imul, 1) := by decide +kernel
theorem dX8_timeOf_64 : decode cX8_timeOf 64 = .ok (.iload_n 2, 1) := by decide +kernel
theorem dX8_timeOf_65 : decode cX8_timeOf 65 = .ok (.iadd, 1) := by decide +kernel
theorem dX8_timeOf_66 : decode cX8_timeOf 66 = .ok (.iconst 1, 1) := by decide +kernel
theorem dX8_timeOf_67 : decode cX8_timeOf 67 = .ok (.isub, 1) := by decide +kernel
theorem dX8_timeOf_68 : decode cX8_timeOf 68 = .ok (.iload_n 2, 1) := by decide +kernel
theorem dX8_timeOf_69 : decode cX8_timeOf 69 = .ok (.idiv, 1) := by decide +kernel
theorem dX8_timeOf_70 : decode cX8_timeOf 70 = .ok (.imul, 1) := by decide +kernel
theorem dX8_timeOf_71 : decode cX8_timeOf 71 = .ok (.iadd, 1) := by decide +kernel
theorem dX8_timeOf_72 : decode cX8_timeOf 72 = .ok (.istore_n 3, 1) := by decide +kernel
theorem dX8_timeOf_73 : decode cX8_timeOf 73 = .ok (.iinc 4 1, 3) := by decide +kernel
theorem dX8_timeOf_76 : decode cX8_timeOf 76 = .ok (.goto (-71), 3) := by decide +kernel
theorem dX8_timeOf_79 : decode cX8_timeOf 79 = .ok (.iload_n 3, 1) := by decide +kernel
theorem dX8_timeOf_80 : decode cX8_timeOf 80 = .ok (.ireturn, 1) := by decide +kernel
theorem s74_0 : aW d 74 0 L S h Q = aW d 74 1 L (.int (nI 0) :: S) h Q := ax_iconst mt74 dX8_timeOf_0 ic_0
theorem s74_1 : aW d 74 1 [l0, l1, l2, l3, l4, l5, l6] (.int a :: S) h Q = aW d 74 2 [l0, l1, l2, .int a, l4, l5, l6] S h Q := ax_istore_n mt74 dX8_timeOf_1 (Nat.le_of_ble_eq_true rfl) rfl
theorem s74_2 : aW d 74 2 L S h Q = aW d 74 3 L (.int (nI 0) :: S) h Q := ax_iconst mt74 dX8_timeOf_2 ic_0
theorem s74_3 : aW d 74 3 [l0, l1, l2, l3, l4, l5, l6] (.int a :: S) h Q = aW d 74 5 [l0, l1, l2, l3, .int a, l5, l6] S h Q := ax_istore mt74 dX8_timeOf_3 (Nat.le_of_ble_eq_true rfl) rfl
theorem s74_5 : aW d 74 5 [l0, l1, l2, l3, .int a, l5, l6] S h Q = aW d 74 7 [l0, l1, l2, l3, .int a, l5, l6] (.int a :: S) h Q := ax_iload mt74 dX8_timeOf_5 rfl
theorem s74_7 : aW d 74 7 L S h Q = aW d 74 9 L (.int (nI 12) :: S) h Q := ax_bipush mt74 dX8_timeOf_7 bp_12
theorem s74_9 : aW d 74 9 L (.int b :: .int a :: S) h Q = (if a < b then aW d 74 12 L S h Q else aW d 74 79 L S h Q) := ax_icmp_ge mt74 dX8_timeOf_9 (by decide)
theorem s74_12 : aW d 74 12 [l0, .int a, l2, l3, l4, l5, l6] S h Q = aW d 74 13 [l0, .int a, l2, l3, l4, l5, l6] (.int a :: S) h Q := ax_iload_n mt74 dX8_timeOf_12 rfl
theorem s74_13 : aW d 74 13 [l0, l1, l2, l3, .int a, l5, l6] S h Q = aW d 74 15 [l0, l1, l2, l3, .int a, l5, l6] (.int a :: S) h Q := ax_iload mt74 dX8_timeOf_13 rfl
theorem s74_15 : aW d 74 15 L (.int b :: .int a :: S) h Q = aW d 74 16 L (.int (a >>> (b &&& 31)) :: S) h Q := ax_ishr mt74 dX8_timeOf_15
theorem s74_16 : aW d 74 16 L S h Q = aW d 74 17 L (.int (nI 1) :: S) h Q := ax_iconst mt74 dX8_timeOf_16 ic_1
theorem s74_17 : aW d 74 17 L (.int b :: .int a :: S) h Q = aW d 74 18 L (.int (a &&& b) :: S) h Q := ax_iand mt74 dX8_timeOf_17
theorem s74_18 : aW d 74 18 L (.int a :: S) h Q = (if a = 0 then aW d 74 73 L S h Q else aW d 74 21 L S h Q) := ax_if_eq mt74 dX8_timeOf_18 (by decide)
theorem s74_21 : aW d 74 21 [.ref o, l1, l2, l3, l4, l5, l6] S h Q = aW d 74 22 [.ref o, l1, l2, l3, l4, l5, l6] (.ref o :: S) h Q := ax_aload_n mt74 dX8_timeOf_21 rfl
theorem s74_22 (hT : gT h o = some (10, 3)) : aW d 74 22 L (.ref o :: S) h Q = (isRf (gR h o 1) = true ∧ aW d 74 25 L (gR h o 1 :: S) h Q) := ax_geta mt74 dX8_timeOf_22 (by decide) ft_32777 fk_32777 hT
theorem s74_25 : aW d 74 25 [l0, l1, l2, l3, .int a, l5, l6] S h Q = aW d 74 27 [l0, l1, l2, l3, .int a, l5, l6] (.int a :: S) h Q := ax_iload mt74 dX8_timeOf_25 rfl
theorem s74_27 (hT : gT h o = some (12, 9)) : aW (d + 1) 74 27 L (.int x0 :: .ref o :: []) h Q = aM d 93 (.ref o :: [.int x0]) h (fun v h1 => aW (d + 1) 74 30 L (ab_ps v []) h1 Q) := ax_invv mt74 dX8_timeOf_27 (by decide) ct_32812 (.inl rfl) mt93 ⟨⟨Nat.le_of_ble_eq_true rfl, Nat.le_of_ble_eq_true rfl, Nat.le_of_ble_eq_true rfl⟩, rfl, rfl, rfl⟩ hT
theorem s74_30 : aW d 74 30 [l0, l1, l2, l3, l4, l5, l6] (.int a :: S) h Q = aW d 74 32 [l0, l1, l2, l3, l4, .int a, l6] S h Q := ax_istore mt74 dX8_timeOf_30 (Nat.le_of_ble_eq_true rfl) rfl
theorem s74_32 : aW d 74 32 [l0, l1, l2, l3, l4, .int a, l6] S h Q = aW d 74 34 [l0, l1, l2, l3, l4, .int a, l6] (.int a :: S) h Q := ax_iload mt74 dX8_timeOf_32 rfl
theorem s74_34 : aW d 74 34 [l0, l1, l2, l3, l4, .int a, l6] S h Q = aW d 74 36 [l0, l1, l2, l3, l4, .int a, l6] (.int a :: S) h Q := ax_iload mt74 dX8_timeOf_34 rfl
theorem s74_36 : aW d 74 36 L S h Q = aW d 74 37 L (.int (nI 1) :: S) h Q := ax_iconst mt74 dX8_timeOf_36 ic_1
theorem s74_37 : aW d 74 37 L (.int b :: .int a :: S) h Q = aW d 74 38 L (.int (a <<< (b &&& 31)) :: S) h Q := ax_ishl mt74 dX8_timeOf_37
theorem s74_38 : aW d 74 38 L S h Q = aW d 74 39 L (.int ((-1)) :: S) h Q := ax_iconst mt74 dX8_timeOf_38 ic_m1
theorem s74_39 : aW d 74 39 L (.int b :: .int a :: S) h Q = aW d 74 40 L (.int (a ^^^ b) :: S) h Q := ax_ixor mt74 dX8_timeOf_39
theorem s74_40 : aW d 74 40 L (.int b :: .int a :: S) h Q = aW d 74 41 L (.int (a &&& b) :: S) h Q := ax_iand mt74 dX8_timeOf_40
theorem s74_41 : aW (d + 1) 74 41 L (.int x0 :: []) h Q = aM d 219 [.int x0] h (fun v h1 => aW (d + 1) 74 44 L (ab_ps v []) h1 Q) := ax_invs mt74 dX8_timeOf_41 (by decide) ct_32817 (.inl rfl) mt219 ⟨⟨Nat.le_of_ble_eq_true rfl, Nat.le_of_ble_eq_true rfl, Nat.le_of_ble_eq_true rfl⟩, rfl, rfl⟩
theorem s74_44 : aW d 74 44 [l0, l1, l2, l3, l4, l5, l6] (.int a :: S) h Q = aW d 74 46 [l0, l1, l2, l3, l4, l5, .int a] S h Q := ax_istore mt74 dX8_timeOf_44 (Nat.le_of_ble_eq_true rfl) rfl
theorem s74_46 : aW d 74 46 [l0, l1, l2, .int a, l4, l5, l6] S h Q = aW d 74 47 [l0, l1, l2, .int a, l4, l5, l6] (.int a :: S) h Q := ax_iload_n mt74 dX8_timeOf_46 rfl
theorem s74_47 : aW d 74 47 [l0, l1, l2, l3, l4, l5, .int a] S h Q = aW d 74 49 [l0, l1, l2, l3, l4, l5, .int a] (.int a :: S) h Q := ax_iload mt74 dX8_timeOf_47 rfl
theorem s74_49 : aW d 74 49 L S h Q = aW d 74 50 L (.int (nI 2) :: S) h Q := ax_iconst mt74 dX8_timeOf_49 ic_2
theorem s74_50 : aW d 74 50 [.ref o, l1, l2, l3, l4, l5, l6] S h Q = aW d 74 51 [.ref o, l1, l2, l3, l4, l5, l6] (.ref o :: S) h Q := ax_aload_n mt74 dX8_timeOf_50 rfl
theorem s74_51 (hT : gT h o = some (10, 3)) : aW d 74 51 L (.ref o :: S) h Q = (isRf (gR h o 1) = true ∧ aW d 74 54 L (gR h o 1 :: S) h Q) := ax_geta mt74 dX8_timeOf_51 (by decide) ft_32777 fk_32777 hT
theorem s74_54 (hT : gT h o = some (12, 9)) : aW d 74 54 L (.ref o :: S) h Q = (isRf (gR h o 0) = true ∧ aW d 74 57 L (gR h o 0 :: S) h Q) := ax_geta mt74 dX8_timeOf_54 (by decide) ft_32822 fk_32822 hT
theorem s74_57 (hT : gT h o = some (5, 4)) : aW d 74 57 L (.ref o :: S) h Q = (isRf (gR h o 1) = true ∧ aW d 74 60 L (gR h o 1 :: S) h Q) := ax_geta mt74 dX8_timeOf_57 (by decide) ft_32826 fk_32826 hT
theorem s74_60 : aW d 74 60 [l0, l1, l2, l3, .int a, l5, l6] S h Q = aW d 74 62 [l0, l1, l2, l3, .int a, l5, l6] (.int a :: S) h Q := ax_iload mt74 dX8_timeOf_60 rfl
theorem s74_62 : aW d 74 62 L (.int a :: .ref o :: S) h Q = (inb a (aI h o) ∧ aW d 74 63 L (.int (gI h o a.toNatClampNeg) :: S) h Q) := ax_iald mt74 dX8_timeOf_62
theorem s74_63 : aW d 74 63 L (.int b :: .int a :: S) h Q = aW d 74 64 L (.int (a * b) :: S) h Q := ax_imul mt74 dX8_timeOf_63
theorem s74_64 : aW d 74 64 [l0, l1, .int a, l3, l4, l5, l6] S h Q = aW d 74 65 [l0, l1, .int a, l3, l4, l5, l6] (.int a :: S) h Q := ax_iload_n mt74 dX8_timeOf_64 rfl
theorem s74_65 : aW d 74 65 L (.int b :: .int a :: S) h Q = aW d 74 66 L (.int (a + b) :: S) h Q := ax_iadd mt74 dX8_timeOf_65
theorem s74_66 : aW d 74 66 L S h Q = aW d 74 67 L (.int (nI 1) :: S) h Q := ax_iconst mt74 dX8_timeOf_66 ic_1
theorem s74_67 : aW d 74 67 L (.int b :: .int a :: S) h Q = aW d 74 68 L (.int (a - b) :: S) h Q := ax_isub mt74 dX8_timeOf_67
theorem s74_68 : aW d 74 68 [l0, l1, .int a, l3, l4, l5, l6] S h Q = aW d 74 69 [l0, l1, .int a, l3, l4, l5, l6] (.int a :: S) h Q := ax_iload_n mt74 dX8_timeOf_68 rfl
theorem s74_69 : aW d 74 69 L (.int b :: .int a :: S) h Q = ((¬ b = 0) ∧ aW d 74 70 L (.int (a / b) :: S) h Q) := ax_idiv mt74 dX8_timeOf_69
theorem s74_70 : aW d 74 70 L (.int b :: .int a :: S) h Q = aW d 74 71 L (.int (a * b) :: S) h Q := ax_imul mt74 dX8_timeOf_70
theorem s74_71 : aW d 74 71 L (.int b :: .int a :: S) h Q = aW d 74 72 L (.int (a + b) :: S) h Q := ax_iadd mt74 dX8_timeOf_71
theorem s74_72 : aW d 74 72 [l0, l1, l2, l3, l4, l5, l6] (.int a :: S) h Q = aW d 74 73 [l0, l1, l2, .int a, l4, l5, l6] S h Q := ax_istore_n mt74 dX8_timeOf_72 (Nat.le_of_ble_eq_true rfl) rfl
theorem s74_73 : aW d 74 73 [l0, l1, l2, l3, .int a, l5, l6] S h Q = aW d 74 76 [l0, l1, l2, l3, .int (a + nI 1), l5, l6] S h Q := ax_iinc mt74 dX8_timeOf_73 rfl ic_1 rfl
theorem s74_76 : aW d 74 76 L S h Q = aW d 74 5 L S h Q := ax_goto mt74 dX8_timeOf_76 (by decide)
theorem s74_79 : aW d 74 79 [l0, l1, l2, .int a, l4, l5, l6] S h Q = aW d 74 80 [l0, l1, l2, .int a, l4, l5, l6] (.int a :: S) h Q := ax_iload_n mt74 dX8_timeOf_79 rfl
theorem s74_80 : aW d 74 80 L [.int a] h Q = Q (some (.int a)) h := ax_reti mt74 dX8_timeOf_80 rfl
-- method 75: BufferRoom$Sending.fits(II)Z
theorem dX8_fits_0 : decode cX8_fits 0 = .ok (.iconst 0, 1) := by decide +kernel
theorem dX8_fits_1 : decode cX8_fits 1 = .ok (.istore_n 3, 1) := by decide +kernel
theorem dX8_fits_2 : decode cX8_fits 2 = .ok (.iload_n 3, 1) := by decide +kernel
theorem dX8_fits_3 : decode cX8_fits 3 = .ok (.aload_n 0, 1) := by decide +kernel
theorem dX8_fits_4 : decode cX8_fits 4 = .ok (.getfield 9, 3) := by decide +kernel
theorem dX8_fits_7 : decode cX8_fits 7 = .ok (.getfield 62, 3) := by decide +kernel
theorem dX8_fits_10 : decode cX8_fits 10 = .ok (.getfield 66, 3) := by decide +kernel
theorem dX8_fits_13 : decode cX8_fits 13 = .ok (.if_icmp .ge 31, 3) := by decide +kernel
theorem dX8_fits_16 : decode cX8_fits 16 = .ok (.aload_n 0, 1) := by decide +kernel
theorem dX8_fits_17 : decode cX8_fits 17 = .ok (.getfield 9, 3) := by decide +kernel
theorem dX8_fits_20 : decode cX8_fits 20 = .ok (.getfield 71, 3) := by decide +kernel
theorem dX8_fits_23 : decode cX8_fits 23 = .ok (.iload_n 3, 1) := by decide +kernel
theorem dX8_fits_24 : decode cX8_fits 24 = .ok (.iaload, 1) := by decide +kernel
theorem dX8_fits_25 : decode cX8_fits 25 = .ok (.aload_n 0, 1) := by decide +kernel
theorem dX8_fits_26 : decode cX8_fits 26 = .ok (.iload_n 1, 1) := by decide +kernel
theorem dX8_fits_27 : decode cX8_fits 27 = .ok (.iload_n 3, 1) := by decide +kernel
theorem dX8_fits_28 : decode cX8_fits 28 = .ok (.invokevirtual 74, 3) := by decide +kernel
theorem dX8_fits_31 : decode cX8_fits 31 = .ok (.isub, 1) := by decide +kernel
theorem dX8_fits_32 : decode cX8_fits 32 = .ok (.iload_n 2, 1) := by decide +kernel
theorem dX8_fits_33 : decode cX8_fits 33 = .ok (.if_icmp .le 5, 3) := by decide +kernel
theorem dX8_fits_36 : decode cX8_fits 36 = .ok (.iconst 0, 1) := by decide +kernel
theorem dX8_fits_37 : decode cX8_fits 37 = .ok (.ireturn, 1) := by decide +kernel
theorem dX8_fits_38 : decode cX8_fits 38 = .ok (.iinc 3 1, 3) := by decide +kernel
theorem dX8_fits_41 : decode cX8_fits 41 = .ok (.goto (-39), 3) := by decide +kernel
theorem dX8_fits_44 : decode cX8_fits 44 = .ok (.iconst 1, 1) := by decide +kernel
theorem dX8_fits_45 : decode cX8_fits 45 = .ok (.ireturn, 1) := by decide +kernel
theorem s75_0 : aW d 75 0 L S h Q = aW d 75 1 L (.int (nI 0) :: S) h Q := ax_iconst mt75 dX8_fits_0 ic_0
theorem s75_1 : aW d 75 1 [l0, l1, l2, l3] (.int a :: S) h Q = aW d 75 2 [l0, l1, l2, .int a] S h Q := ax_istore_n mt75 dX8_fits_1 (Nat.le_of_ble_eq_true rfl) rfl
theorem s75_2 : aW d 75 2 [l0, l1, l2, .int a] S h Q = aW d 75 3 [l0, l1, l2, .int a] (.int a :: S) h Q := ax_iload_n mt75 dX8_fits_2 rfl
theorem s75_3 : aW d 75 3 [.ref o, l1, l2, l3] S h Q = aW d 75 4 [.ref o, l1, l2, l3] (.ref o :: S) h Q := ax_aload_n mt75 dX8_fits_3 rfl
theorem s75_4 (hT : gT h o = some (10, 3)) : aW d 75 4 L (.ref o :: S) h Q = (isRf (gR h o 1) = true ∧ aW d 75 7 L (gR h o 1 :: S) h Q) := ax_geta mt75 dX8_fits_4 (by decide) ft_32777 fk_32777 hT
theorem s75_7 (hT : gT h o = some (12, 9)) : aW d 75 7 L (.ref o :: S) h Q = (isRf (gR h o 1) = true ∧ aW d 75 10 L (gR h o 1 :: S) h Q) := ax_geta mt75 dX8_fits_7 (by decide) ft_32830 fk_32830 hT
theorem s75_10 (hT : gT h o = some (8, 12)) : aW d 75 10 L (.ref o :: S) h Q = aW d 75 13 L (.int (gI h o 6) :: S) h Q := ax_geti mt75 dX8_fits_10 (by decide) ft_32834 fk_32834 hT
theorem s75_13 : aW d 75 13 L (.int b :: .int a :: S) h Q = (if a < b then aW d 75 16 L S h Q else aW d 75 44 L S h Q) := ax_icmp_ge mt75 dX8_fits_13 (by decide)
theorem s75_16 : aW d 75 16 [.ref o, l1, l2, l3] S h Q = aW d 75 17 [.ref o, l1, l2, l3] (.ref o :: S) h Q := ax_aload_n mt75 dX8_fits_16 rfl
theorem s75_17 (hT : gT h o = some (10, 3)) : aW d 75 17 L (.ref o :: S) h Q = (isRf (gR h o 1) = true ∧ aW d 75 20 L (gR h o 1 :: S) h Q) := ax_geta mt75 dX8_fits_17 (by decide) ft_32777 fk_32777 hT
theorem s75_20 (hT : gT h o = some (12, 9)) : aW d 75 20 L (.ref o :: S) h Q = (isRf (gR h o 6) = true ∧ aW d 75 23 L (gR h o 6 :: S) h Q) := ax_geta mt75 dX8_fits_20 (by decide) ft_32839 fk_32839 hT
theorem s75_23 : aW d 75 23 [l0, l1, l2, .int a] S h Q = aW d 75 24 [l0, l1, l2, .int a] (.int a :: S) h Q := ax_iload_n mt75 dX8_fits_23 rfl
theorem s75_24 : aW d 75 24 L (.int a :: .ref o :: S) h Q = (inb a (aI h o) ∧ aW d 75 25 L (.int (gI h o a.toNatClampNeg) :: S) h Q) := ax_iald mt75 dX8_fits_24
theorem s75_25 : aW d 75 25 [.ref o, l1, l2, l3] S h Q = aW d 75 26 [.ref o, l1, l2, l3] (.ref o :: S) h Q := ax_aload_n mt75 dX8_fits_25 rfl
theorem s75_26 : aW d 75 26 [l0, .int a, l2, l3] S h Q = aW d 75 27 [l0, .int a, l2, l3] (.int a :: S) h Q := ax_iload_n mt75 dX8_fits_26 rfl
theorem s75_27 : aW d 75 27 [l0, l1, l2, .int a] S h Q = aW d 75 28 [l0, l1, l2, .int a] (.int a :: S) h Q := ax_iload_n mt75 dX8_fits_27 rfl
theorem s75_28 (hT : gT h o = some (10, 3)) : aW (d + 1) 75 28 L (.int x1 :: .int x0 :: .ref o :: [.int y0]) h Q = aM d 76 (.ref o :: [.int x0, .int x1]) h (fun v h1 => aW (d + 1) 75 31 L (ab_ps v [.int y0]) h1 Q) := ax_invv mt75 dX8_fits_28 (by decide) ct_32842 (.inl rfl) mt76 ⟨⟨Nat.le_of_ble_eq_true rfl, Nat.le_of_ble_eq_true rfl, Nat.le_of_ble_eq_true rfl⟩, rfl, rfl, rfl⟩ hT
theorem s75_31 : aW d 75 31 L (.int b :: .int a :: S) h Q = aW d 75 32 L (.int (a - b) :: S) h Q := ax_isub mt75 dX8_fits_31
theorem s75_32 : aW d 75 32 [l0, l1, .int a, l3] S h Q = aW d 75 33 [l0, l1, .int a, l3] (.int a :: S) h Q := ax_iload_n mt75 dX8_fits_32 rfl
theorem s75_33 : aW d 75 33 L (.int b :: .int a :: S) h Q = (if b < a then aW d 75 36 L S h Q else aW d 75 38 L S h Q) := ax_icmp_le mt75 dX8_fits_33 (by decide)
theorem s75_36 : aW d 75 36 L S h Q = aW d 75 37 L (.int (nI 0) :: S) h Q := ax_iconst mt75 dX8_fits_36 ic_0
theorem s75_37 : aW d 75 37 L [.int a] h Q = (b01 a ∧ Q (some (.int a)) h) := ax_retz mt75 dX8_fits_37 rfl
theorem s75_38 : aW d 75 38 [l0, l1, l2, .int a] S h Q = aW d 75 41 [l0, l1, l2, .int (a + nI 1)] S h Q := ax_iinc mt75 dX8_fits_38 rfl ic_1 rfl
theorem s75_41 : aW d 75 41 L S h Q = aW d 75 2 L S h Q := ax_goto mt75 dX8_fits_41 (by decide)
theorem s75_44 : aW d 75 44 L S h Q = aW d 75 45 L (.int (nI 1) :: S) h Q := ax_iconst mt75 dX8_fits_44 ic_1
theorem s75_45 : aW d 75 45 L [.int a] h Q = (b01 a ∧ Q (some (.int a)) h) := ax_retz mt75 dX8_fits_45 rfl
-- method 76: BufferRoom$Sending.outAt(II)I
theorem dX8_outAt_0 : decode cX8_outAt 0 = .ok (.iconst 0, 1) := by decide +kernel
theorem dX8_outAt_1 : decode cX8_outAt 1 = .ok (.istore_n 3, 1) := by decide +kernel
theorem dX8_outAt_2 : decode cX8_outAt 2 = .ok (.iconst 0, 1) := by decide +kernel
theorem dX8_outAt_3 : decode cX8_outAt 3 = .ok (.istore 4, 2) := by decide +kernel
theorem dX8_outAt_5 : decode cX8_outAt 5 = .ok (.iload 4, 2) := by decide +kernel
theorem dX8_outAt_7 : decode cX8_outAt 7 = .ok (.bipush 12, 2) := by decide +kernel
theorem dX8_outAt_9 : decode cX8_outAt 9 = .ok (.if_icmp .ge 50, 3) := by decide +kernel
theorem dX8_outAt_12 : decode cX8_outAt 12 = .ok (.iload_n 1, 1) := by decide +kernel
theorem dX8_outAt_13 : decode cX8_outAt 13 = .ok (.iload 4, 2) := by decide +kernel
theorem dX8_outAt_15 : decode cX8_outAt 15 = .ok (.ishr, 1) := by decide +kernel
theorem dX8_outAt_16 : decode cX8_outAt 16 = .ok (.iconst 1, 1) := by decide +kernel
theorem dX8_outAt_17 : decode cX8_outAt 17 = .ok (.iand, 1) := by decide +kernel
theorem dX8_outAt_18 : decode cX8_outAt 18 = .ok (.ifCond .eq 35, 3) := by decide +kernel
theorem dX8_outAt_21 : decode cX8_outAt 21 = .ok (.aload_n 0, 1) := by decide +kernel
theorem dX8_outAt_22 : decode cX8_outAt 22 = .ok (.getfield 9, 3) := by decide +kernel
theorem dX8_outAt_25 : decode cX8_outAt 25 = .ok (.iload 4, 2) := by decide +kernel
theorem dX8_outAt_27 : decode cX8_outAt 27 = .ok (.invokevirtual 44, 3) := by decide +kernel
theorem dX8_outAt_30 : decode cX8_outAt 30 = .ok (.iload_n 2, 1) := by decide +kernel
theorem dX8_outAt_31 : decode cX8_outAt 31 = .ok (.ishr, 1) := by decide +kernel
theorem dX8_outAt_32 : decode cX8_outAt 32 = .ok (.iconst 1, 1) := by decide +kernel
theorem dX8_outAt_33 : decode cX8_outAt 33 = .ok (.iand, 1) := by decide +kernel
theorem dX8_outAt_34 : decode cX8_outAt 34 = .ok (.ifCond .eq 19, 3) := by decide +kernel
theorem dX8_outAt_37 : decode cX8_outAt 37 = .ok (.iload_n 3, 1) := by decide +kernel
theorem dX8_outAt_38 : decode cX8_outAt 38 = .ok (.aload_n 0, 1) := by decide +kernel
theorem dX8_outAt_39 : decode cX8_outAt 39 = .ok (.getfield 9, 3) := by decide +kernel
theorem dX8_outAt_42 : decode cX8_outAt 42 = .ok (.getfield 54, 3) := by decide +kernel
theorem dX8_outAt_45 : decode cX8_outAt 45 = .ok (.getfield 58, 3) := by decide +kernel
theorem dX8_outAt_48 : decode cX8_outAt 48 = .ok (.iload 4, 2) := by decide +kernel
theorem dX8_outAt_50 : decode cX8_outAt 50 = .ok (.iaload, 1) := by decide +kernel
theorem dX8_outAt_51 : decode cX8_outAt 51 = .ok (.iadd, 1) := by decide +kernel
theorem dX8_outAt_52 : decode cX8_outAt 52 = .ok (.istore_n 3, 1) := by decide +kernel
theorem dX8_outAt_53 : decode cX8_outAt 53 = .ok (.iinc 4 1, 3) := by decide +kernel
theorem dX8_outAt_56 : decode cX8_outAt 56 = .ok (.goto (-51), 3) := by decide +kernel
theorem dX8_outAt_59 : decode cX8_outAt 59 = .ok (.iload_n 3, 1) := by decide +kernel
theorem dX8_outAt_60 : decode cX8_outAt 60 = .ok (.ireturn, 1) := by decide +kernel
theorem s76_0 : aW d 76 0 L S h Q = aW d 76 1 L (.int (nI 0) :: S) h Q := ax_iconst mt76 dX8_outAt_0 ic_0
theorem s76_1 : aW d 76 1 [l0, l1, l2, l3, l4] (.int a :: S) h Q = aW d 76 2 [l0, l1, l2, .int a, l4] S h Q := ax_istore_n mt76 dX8_outAt_1 (Nat.le_of_ble_eq_true rfl) rfl
theorem s76_2 : aW d 76 2 L S h Q = aW d 76 3 L (.int (nI 0) :: S) h Q := ax_iconst mt76 dX8_outAt_2 ic_0
theorem s76_3 : aW d 76 3 [l0, l1, l2, l3, l4] (.int a :: S) h Q = aW d 76 5 [l0, l1, l2, l3, .int a] S h Q := ax_istore mt76 dX8_outAt_3 (Nat.le_of_ble_eq_true rfl) rfl
theorem s76_5 : aW d 76 5 [l0, l1, l2, l3, .int a] S h Q = aW d 76 7 [l0, l1, l2, l3, .int a] (.int a :: S) h Q := ax_iload mt76 dX8_outAt_5 rfl
theorem s76_7 : aW d 76 7 L S h Q = aW d 76 9 L (.int (nI 12) :: S) h Q := ax_bipush mt76 dX8_outAt_7 bp_12
theorem s76_9 : aW d 76 9 L (.int b :: .int a :: S) h Q = (if a < b then aW d 76 12 L S h Q else aW d 76 59 L S h Q) := ax_icmp_ge mt76 dX8_outAt_9 (by decide)
theorem s76_12 : aW d 76 12 [l0, .int a, l2, l3, l4] S h Q = aW d 76 13 [l0, .int a, l2, l3, l4] (.int a :: S) h Q := ax_iload_n mt76 dX8_outAt_12 rfl
theorem s76_13 : aW d 76 13 [l0, l1, l2, l3, .int a] S h Q = aW d 76 15 [l0, l1, l2, l3, .int a] (.int a :: S) h Q := ax_iload mt76 dX8_outAt_13 rfl
theorem s76_15 : aW d 76 15 L (.int b :: .int a :: S) h Q = aW d 76 16 L (.int (a >>> (b &&& 31)) :: S) h Q := ax_ishr mt76 dX8_outAt_15
theorem s76_16 : aW d 76 16 L S h Q = aW d 76 17 L (.int (nI 1) :: S) h Q := ax_iconst mt76 dX8_outAt_16 ic_1
theorem s76_17 : aW d 76 17 L (.int b :: .int a :: S) h Q = aW d 76 18 L (.int (a &&& b) :: S) h Q := ax_iand mt76 dX8_outAt_17
theorem s76_18 : aW d 76 18 L (.int a :: S) h Q = (if a = 0 then aW d 76 53 L S h Q else aW d 76 21 L S h Q) := ax_if_eq mt76 dX8_outAt_18 (by decide)
theorem s76_21 : aW d 76 21 [.ref o, l1, l2, l3, l4] S h Q = aW d 76 22 [.ref o, l1, l2, l3, l4] (.ref o :: S) h Q := ax_aload_n mt76 dX8_outAt_21 rfl
theorem s76_22 (hT : gT h o = some (10, 3)) : aW d 76 22 L (.ref o :: S) h Q = (isRf (gR h o 1) = true ∧ aW d 76 25 L (gR h o 1 :: S) h Q) := ax_geta mt76 dX8_outAt_22 (by decide) ft_32777 fk_32777 hT
theorem s76_25 : aW d 76 25 [l0, l1, l2, l3, .int a] S h Q = aW d 76 27 [l0, l1, l2, l3, .int a] (.int a :: S) h Q := ax_iload mt76 dX8_outAt_25 rfl
theorem s76_27 (hT : gT h o = some (12, 9)) : aW (d + 1) 76 27 L (.int x0 :: .ref o :: []) h Q = aM d 93 (.ref o :: [.int x0]) h (fun v h1 => aW (d + 1) 76 30 L (ab_ps v []) h1 Q) := ax_invv mt76 dX8_outAt_27 (by decide) ct_32812 (.inl rfl) mt93 ⟨⟨Nat.le_of_ble_eq_true rfl, Nat.le_of_ble_eq_true rfl, Nat.le_of_ble_eq_true rfl⟩, rfl, rfl, rfl⟩ hT
theorem s76_30 : aW d 76 30 [l0, l1, .int a, l3, l4] S h Q = aW d 76 31 [l0, l1, .int a, l3, l4] (.int a :: S) h Q := ax_iload_n mt76 dX8_outAt_30 rfl
theorem s76_31 : aW d 76 31 L (.int b :: .int a :: S) h Q = aW d 76 32 L (.int (a >>> (b &&& 31)) :: S) h Q := ax_ishr mt76 dX8_outAt_31
theorem s76_32 : aW d 76 32 L S h Q = aW d 76 33 L (.int (nI 1) :: S) h Q := ax_iconst mt76 dX8_outAt_32 ic_1
theorem s76_33 : aW d 76 33 L (.int b :: .int a :: S) h Q = aW d 76 34 L (.int (a &&& b) :: S) h Q := ax_iand mt76 dX8_outAt_33
theorem s76_34 : aW d 76 34 L (.int a :: S) h Q = (if a = 0 then aW d 76 53 L S h Q else aW d 76 37 L S h Q) := ax_if_eq mt76 dX8_outAt_34 (by decide)
theorem s76_37 : aW d 76 37 [l0, l1, l2, .int a, l4] S h Q = aW d 76 38 [l0, l1, l2, .int a, l4] (.int a :: S) h Q := ax_iload_n mt76 dX8_outAt_37 rfl
theorem s76_38 : aW d 76 38 [.ref o, l1, l2, l3, l4] S h Q = aW d 76 39 [.ref o, l1, l2, l3, l4] (.ref o :: S) h Q := ax_aload_n mt76 dX8_outAt_38 rfl
theorem s76_39 (hT : gT h o = some (10, 3)) : aW d 76 39 L (.ref o :: S) h Q = (isRf (gR h o 1) = true ∧ aW d 76 42 L (gR h o 1 :: S) h Q) := ax_geta mt76 dX8_outAt_39 (by decide) ft_32777 fk_32777 hT
theorem s76_42 (hT : gT h o = some (12, 9)) : aW d 76 42 L (.ref o :: S) h Q = (isRf (gR h o 0) = true ∧ aW d 76 45 L (gR h o 0 :: S) h Q) := ax_geta mt76 dX8_outAt_42 (by decide) ft_32822 fk_32822 hT
theorem s76_45 (hT : gT h o = some (5, 4)) : aW d 76 45 L (.ref o :: S) h Q = (isRf (gR h o 1) = true ∧ aW d 76 48 L (gR h o 1 :: S) h Q) := ax_geta mt76 dX8_outAt_45 (by decide) ft_32826 fk_32826 hT
theorem s76_48 : aW d 76 48 [l0, l1, l2, l3, .int a] S h Q = aW d 76 50 [l0, l1, l2, l3, .int a] (.int a :: S) h Q := ax_iload mt76 dX8_outAt_48 rfl
theorem s76_50 : aW d 76 50 L (.int a :: .ref o :: S) h Q = (inb a (aI h o) ∧ aW d 76 51 L (.int (gI h o a.toNatClampNeg) :: S) h Q) := ax_iald mt76 dX8_outAt_50
theorem s76_51 : aW d 76 51 L (.int b :: .int a :: S) h Q = aW d 76 52 L (.int (a + b) :: S) h Q := ax_iadd mt76 dX8_outAt_51
theorem s76_52 : aW d 76 52 [l0, l1, l2, l3, l4] (.int a :: S) h Q = aW d 76 53 [l0, l1, l2, .int a, l4] S h Q := ax_istore_n mt76 dX8_outAt_52 (Nat.le_of_ble_eq_true rfl) rfl
theorem s76_53 : aW d 76 53 [l0, l1, l2, l3, .int a] S h Q = aW d 76 56 [l0, l1, l2, l3, .int (a + nI 1)] S h Q := ax_iinc mt76 dX8_outAt_53 rfl ic_1 rfl
theorem s76_56 : aW d 76 56 L S h Q = aW d 76 5 L S h Q := ax_goto mt76 dX8_outAt_56 (by decide)
theorem s76_59 : aW d 76 59 [l0, l1, l2, .int a, l4] S h Q = aW d 76 60 [l0, l1, l2, .int a, l4] (.int a :: S) h Q := ax_iload_n mt76 dX8_outAt_59 rfl
theorem s76_60 : aW d 76 60 L [.int a] h Q = Q (some (.int a)) h := ax_reti mt76 dX8_outAt_60 rfl
-- method 77: BufferRoom$Sheet.<init>()V
theorem dX9_init_0 : decode cX9_init 0 = .ok (.aload_n 0, 1) := by decide +kernel
theorem dX9_init_1 : decode cX9_init 1 = .ok (.invokespecial 3, 3) := by decide +kernel
theorem dX9_init_4 : decode cX9_init 4 = .ok (.aload_n 0, 1) := by decide +kernel
theorem dX9_init_5 : decode cX9_init 5 = .ok (.iconst (-1), 1) := by decide +kernel
theorem dX9_init_6 : decode cX9_init 6 = .ok (.putfield 9, 3) := by decide +kernel
theorem dX9_init_9 : decode cX9_init 9 = .ok (.aload_n 0, 1) := by decide +kernel
theorem dX9_init_10 : decode cX9_init 10 = .ok (.bipush 40, 2) := by decide +kernel
theorem dX9_init_12 : decode cX9_init 12 = .ok (.newarray .int, 2) := by decide +kernel
theorem dX9_init_14 : decode cX9_init 14 = .ok (.putfield 15, 3) := by decide +kernel
theorem dX9_init_17 : decode cX9_init 17 = .ok (.return_, 1) := by decide +kernel
theorem s77_0 : aW d 77 0 [.ref o] S h Q = aW d 77 1 [.ref o] (.ref o :: S) h Q := ax_aload_n mt77 dX9_init_0 rfl
theorem s77_1 : aW (d + 1) 77 1 L (.ref o :: []) h Q = aW (d + 1) 77 4 L [] h Q := ax_obj mt77 dX9_init_1 (by decide) ct_36867 (Nat.le_of_ble_eq_true rfl)
theorem s77_4 : aW d 77 4 [.ref o] S h Q = aW d 77 5 [.ref o] (.ref o :: S) h Q := ax_aload_n mt77 dX9_init_4 rfl
theorem s77_5 : aW d 77 5 L S h Q = aW d 77 6 L (.int ((-1)) :: S) h Q := ax_iconst mt77 dX9_init_5 ic_m1
theorem s77_6 (hT : gT h o = some (11, 3)) : aW d 77 6 L (.int a :: .ref o :: S) h Q = aW d 77 9 L S (pI h o 0 a) Q := ax_puti mt77 dX9_init_6 (by decide) ft_36873 (fun q => fn_36873 q.1) fp_36873 hT
theorem s77_9 : aW d 77 9 [.ref o] S h Q = aW d 77 10 [.ref o] (.ref o :: S) h Q := ax_aload_n mt77 dX9_init_9 rfl
theorem s77_10 : aW d 77 10 L S h Q = aW d 77 12 L (.int (nI 40) :: S) h Q := ax_bipush mt77 dX9_init_10 bp_40
theorem s77_12 (hn : ¬ a < 0 ∧ a.toNatClampNeg ≤ 100000) : aW d 77 12 L (.int a :: S) h Q = aW d 77 14 L (.ref h.1.length :: S) (nO h 0 a.toNatClampNeg) Q := ax_newi mt77 dX9_init_12 hn
theorem s77_14 (hT : gT h o = some (11, 3)) : aW d 77 14 L (.ref o2 :: .ref o :: S) h Q = aW d 77 17 L S (pR h o 2 (.ref o2)) Q := ax_puta mt77 dX9_init_14 (by decide) ft_36879 (fun q => q.2 ⟨rfl, rfl, rfl⟩) fp_36879 hT
theorem s77_17 : aW d 77 17 L [] h Q = Q none h := ax_retv mt77 dX9_init_17 rfl
-- method 78: BufferRoom$Sheet.become(II)V
theorem dX9_become_0 : decode cX9_become 0 = .ok (.aload_n 0, 1) := by decide +kernel
theorem dX9_become_1 : decode cX9_become 1 = .ok (.iload_n 1, 1) := by decide +kernel
theorem dX9_become_2 : decode cX9_become 2 = .ok (.putfield 9, 3) := by decide +kernel
theorem dX9_become_5 : decode cX9_become 5 = .ok (.aload_n 0, 1) := by decide +kernel
theorem dX9_become_6 : decode cX9_become 6 = .ok (.iload_n 2, 1) := by decide +kernel
theorem dX9_become_7 : decode cX9_become 7 = .ok (.putfield 19, 3) := by decide +kernel
theorem dX9_become_10 : decode cX9_become 10 = .ok (.iconst 0, 1) := by decide +kernel
theorem dX9_become_11 : decode cX9_become 11 = .ok (.istore_n 3, 1) := by decide +kernel
theorem dX9_become_12 : decode cX9_become 12 = .ok (.iload_n 3, 1) := by decide +kernel
theorem dX9_become_13 : decode cX9_become 13 = .ok (.bipush 40, 2) := by decide +kernel
theorem dX9_become_15 : decode cX9_become 15 = .ok (.if_icmp .ge 16, 3) := by decide +kernel
theorem dX9_become_18 : decode cX9_become 18 = .ok (.aload_n 0, 1) := by decide +kernel
theorem dX9_become_19 : decode cX9_become 19 = .ok (.getfield 15, 3) := by decide +kernel
theorem dX9_become_22 : decode cX9_become 22 = .ok (.iload_n 3, 1) := by decide +kernel
theorem dX9_become_23 : decode cX9_become 23 = .ok (.iconst 0, 1) := by decide +kernel
theorem dX9_become_24 : decode cX9_become 24 = .ok (.iastore, 1) := by decide +kernel
theorem dX9_become_25 : decode cX9_become 25 = .ok (.iinc 3 1, 3) := by decide +kernel
theorem dX9_become_28 : decode cX9_become 28 = .ok (.goto (-16), 3) := by decide +kernel
theorem dX9_become_31 : decode cX9_become 31 = .ok (.return_, 1) := by decide +kernel
theorem s78_0 : aW d 78 0 [.ref o, l1, l2, l3] S h Q = aW d 78 1 [.ref o, l1, l2, l3] (.ref o :: S) h Q := ax_aload_n mt78 dX9_become_0 rfl
theorem s78_1 : aW d 78 1 [l0, .int a, l2, l3] S h Q = aW d 78 2 [l0, .int a, l2, l3] (.int a :: S) h Q := ax_iload_n mt78 dX9_become_1 rfl
theorem s78_2 (hT : gT h o = some (11, 3)) : aW d 78 2 L (.int a :: .ref o :: S) h Q = aW d 78 5 L S (pI h o 0 a) Q := ax_puti mt78 dX9_become_2 (by decide) ft_36873 (fun q => fn_36873 q.1) fp_36873 hT
theorem s78_5 : aW d 78 5 [.ref o, l1, l2, l3] S h Q = aW d 78 6 [.ref o, l1, l2, l3] (.ref o :: S) h Q := ax_aload_n mt78 dX9_become_5 rfl
theorem s78_6 : aW d 78 6 [l0, l1, .int a, l3] S h Q = aW d 78 7 [l0, l1, .int a, l3] (.int a :: S) h Q := ax_iload_n mt78 dX9_become_6 rfl
theorem s78_7 (hT : gT h o = some (11, 3)) : aW d 78 7 L (.int a :: .ref o :: S) h Q = aW d 78 10 L S (pI h o 1 a) Q := ax_puti mt78 dX9_become_7 (by decide) ft_36883 (fun q => fn_36883 q.1) fp_36883 hT
theorem s78_10 : aW d 78 10 L S h Q = aW d 78 11 L (.int (nI 0) :: S) h Q := ax_iconst mt78 dX9_become_10 ic_0
theorem s78_11 : aW d 78 11 [l0, l1, l2, l3] (.int a :: S) h Q = aW d 78 12 [l0, l1, l2, .int a] S h Q := ax_istore_n mt78 dX9_become_11 (Nat.le_of_ble_eq_true rfl) rfl
theorem s78_12 : aW d 78 12 [l0, l1, l2, .int a] S h Q = aW d 78 13 [l0, l1, l2, .int a] (.int a :: S) h Q := ax_iload_n mt78 dX9_become_12 rfl
theorem s78_13 : aW d 78 13 L S h Q = aW d 78 15 L (.int (nI 40) :: S) h Q := ax_bipush mt78 dX9_become_13 bp_40
theorem s78_15 : aW d 78 15 L (.int b :: .int a :: S) h Q = (if a < b then aW d 78 18 L S h Q else aW d 78 31 L S h Q) := ax_icmp_ge mt78 dX9_become_15 (by decide)
theorem s78_18 : aW d 78 18 [.ref o, l1, l2, l3] S h Q = aW d 78 19 [.ref o, l1, l2, l3] (.ref o :: S) h Q := ax_aload_n mt78 dX9_become_18 rfl
theorem s78_19 (hT : gT h o = some (11, 3)) : aW d 78 19 L (.ref o :: S) h Q = (isRf (gR h o 2) = true ∧ aW d 78 22 L (gR h o 2 :: S) h Q) := ax_geta mt78 dX9_become_19 (by decide) ft_36879 fk_36879 hT
theorem s78_22 : aW d 78 22 [l0, l1, l2, .int a] S h Q = aW d 78 23 [l0, l1, l2, .int a] (.int a :: S) h Q := ax_iload_n mt78 dX9_become_22 rfl
theorem s78_23 : aW d 78 23 L S h Q = aW d 78 24 L (.int (nI 0) :: S) h Q := ax_iconst mt78 dX9_become_23 ic_0
theorem s78_24 : aW d 78 24 L (.int b :: .int a :: .ref o :: S) h Q = (inb a (aJ h o) ∧ aW d 78 25 L S (pI h o a.toNatClampNeg b) Q) := ax_iast mt78 dX9_become_24
theorem s78_25 : aW d 78 25 [l0, l1, l2, .int a] S h Q = aW d 78 28 [l0, l1, l2, .int (a + nI 1)] S h Q := ax_iinc mt78 dX9_become_25 rfl ic_1 rfl
theorem s78_28 : aW d 78 28 L S h Q = aW d 78 12 L S h Q := ax_goto mt78 dX9_become_28 (by decide)
theorem s78_31 : aW d 78 31 L [] h Q = Q none h := ax_retv mt78 dX9_become_31 rfl
-- method 79: BufferRoom$Sheet.put(II)V
theorem dX9_put_0 : decode cX9_put 0 = .ok (.aload_n 0, 1) := by decide +kernel
theorem dX9_put_1 : decode cX9_put 1 = .ok (.getfield 9, 3) := by decide +kernel
theorem dX9_put_4 : decode cX9_put 4 = .ok (.lookupswitch 50 #[(0, 28), (1, 39)], 28) := by decide +kernel
theorem dX9_put_32 : decode cX9_put 32 = .ok (.aload_n 0, 1) := by decide +kernel
theorem dX9_put_33 : decode cX9_put 33 = .ok (.getfield 15, 3) := by decide +kernel
theorem dX9_put_36 : decode cX9_put 36 = .ok (.iload_n 1, 1) := by decide +kernel
theorem dX9_put_37 : decode cX9_put 37 = .ok (.iload_n 2, 1) := by decide +kernel
theorem dX9_put_38 : decode cX9_put 38 = .ok (.i2b, 1) := by decide +kernel
theorem dX9_put_39 : decode cX9_put 39 = .ok (.iastore, 1) := by decide +kernel
theorem dX9_put_40 : decode cX9_put 40 = .ok (.goto 21, 3) := by decide +kernel
theorem dX9_put_43 : decode cX9_put 43 = .ok (.aload_n 0, 1) := by decide +kernel
theorem dX9_put_44 : decode cX9_put 44 = .ok (.getfield 15, 3) := by decide +kernel
theorem dX9_put_47 : decode cX9_put 47 = .ok (.iload_n 1, 1) := by decide +kernel
theorem dX9_put_48 : decode cX9_put 48 = .ok (.iload_n 2, 1) := by decide +kernel
theorem dX9_put_49 : decode cX9_put 49 = .ok (.i2s, 1) := by decide +kernel
theorem dX9_put_50 : decode cX9_put 50 = .ok (.iastore, 1) := by decide +kernel
theorem dX9_put_51 : decode cX9_put 51 = .ok (.goto 10, 3) := by decide +kernel
theorem dX9_put_54 : decode cX9_put 54 = .ok (.aload_n 0, 1) := by decide +kernel
theorem dX9_put_55 : decode cX9_put 55 = .ok (.getfield 15, 3) := by decide +kernel
theorem dX9_put_58 : decode cX9_put 58 = .ok (.iload_n 1, 1) := by decide +kernel
theorem dX9_put_59 : decode cX9_put 59 = .ok (.iload_n 2, 1) := by decide +kernel
theorem dX9_put_60 : decode cX9_put 60 = .ok (.iastore, 1) := by decide +kernel
theorem dX9_put_61 : decode cX9_put 61 = .ok (.return_, 1) := by decide +kernel
theorem s79_0 : aW d 79 0 [.ref o, l1, l2] S h Q = aW d 79 1 [.ref o, l1, l2] (.ref o :: S) h Q := ax_aload_n mt79 dX9_put_0 rfl
theorem s79_1 (hT : gT h o = some (11, 3)) : aW d 79 1 L (.ref o :: S) h Q = aW d 79 4 L (.int (gI h o 0) :: S) h Q := ax_geti mt79 dX9_put_1 (by decide) ft_36873 fk_36873 hT
theorem s79_4 : aW d 79 4 L (.int a :: S) h Q = (if a = nI 0 then aW d 79 32 L S h Q else (if a = nI 1 then aW d 79 43 L S h Q else aW d 79 54 L S h Q)) := by
  by_cases e0 : a = nI 0
  · rw [if_pos e0]
    subst e0
    exact ax_look (off := 28) mt79 dX9_put_4 (by decide +kernel) (by decide +kernel) (by decide)
  rw [if_neg e0]
  by_cases e1 : a = nI 1
  · rw [if_pos e1]
    subst e1
    exact ax_look (off := 39) mt79 dX9_put_4 (by decide +kernel) (by decide +kernel) (by decide)
  rw [if_neg e1]
  refine ax_look (off := 50) mt79 dX9_put_4 (by decide +kernel) ?_ (by decide)
  show Op.lookupswitch.offset [(0, 28), (1, 39)] 50 a.toInt = 50
  rw [lv_osw e0 (show (nI 0 : Int32).toInt = 0 by decide +kernel), lv_osw e1 (show (nI 1 : Int32).toInt = 1 by decide +kernel)]
  rfl
theorem s79_43 : aW d 79 43 [.ref o, l1, l2] S h Q = aW d 79 44 [.ref o, l1, l2] (.ref o :: S) h Q := ax_aload_n mt79 dX9_put_43 rfl
theorem s79_44 (hT : gT h o = some (11, 3)) : aW d 79 44 L (.ref o :: S) h Q = (isRf (gR h o 2) = true ∧ aW d 79 47 L (gR h o 2 :: S) h Q) := ax_geta mt79 dX9_put_44 (by decide) ft_36879 fk_36879 hT
theorem s79_47 : aW d 79 47 [l0, .int a, l2] S h Q = aW d 79 48 [l0, .int a, l2] (.int a :: S) h Q := ax_iload_n mt79 dX9_put_47 rfl
theorem s79_48 : aW d 79 48 [l0, l1, .int a] S h Q = aW d 79 49 [l0, l1, .int a] (.int a :: S) h Q := ax_iload_n mt79 dX9_put_48 rfl
theorem s79_49 : aW d 79 49 L (.int a :: S) h Q = aW d 79 50 L (.int a.toInt16.toInt32 :: S) h Q := ax_i2s mt79 dX9_put_49
theorem s79_50 : aW d 79 50 L (.int b :: .int a :: .ref o :: S) h Q = (inb a (aJ h o) ∧ aW d 79 51 L S (pI h o a.toNatClampNeg b) Q) := ax_iast mt79 dX9_put_50
theorem s79_51 : aW d 79 51 L S h Q = aW d 79 61 L S h Q := ax_goto mt79 dX9_put_51 (by decide)
theorem s79_61 : aW d 79 61 L [] h Q = Q none h := ax_retv mt79 dX9_put_61 rfl
theorem s79_32 : aW d 79 32 [.ref o, l1, l2] S h Q = aW d 79 33 [.ref o, l1, l2] (.ref o :: S) h Q := ax_aload_n mt79 dX9_put_32 rfl
theorem s79_33 (hT : gT h o = some (11, 3)) : aW d 79 33 L (.ref o :: S) h Q = (isRf (gR h o 2) = true ∧ aW d 79 36 L (gR h o 2 :: S) h Q) := ax_geta mt79 dX9_put_33 (by decide) ft_36879 fk_36879 hT
theorem s79_36 : aW d 79 36 [l0, .int a, l2] S h Q = aW d 79 37 [l0, .int a, l2] (.int a :: S) h Q := ax_iload_n mt79 dX9_put_36 rfl
theorem s79_37 : aW d 79 37 [l0, l1, .int a] S h Q = aW d 79 38 [l0, l1, .int a] (.int a :: S) h Q := ax_iload_n mt79 dX9_put_37 rfl
theorem s79_38 : aW d 79 38 L (.int a :: S) h Q = aW d 79 39 L (.int a.toInt8.toInt32 :: S) h Q := ax_i2b mt79 dX9_put_38
theorem s79_39 : aW d 79 39 L (.int b :: .int a :: .ref o :: S) h Q = (inb a (aJ h o) ∧ aW d 79 40 L S (pI h o a.toNatClampNeg b) Q) := ax_iast mt79 dX9_put_39
theorem s79_40 : aW d 79 40 L S h Q = aW d 79 61 L S h Q := ax_goto mt79 dX9_put_40 (by decide)
theorem s79_54 : aW d 79 54 [.ref o, l1, l2] S h Q = aW d 79 55 [.ref o, l1, l2] (.ref o :: S) h Q := ax_aload_n mt79 dX9_put_54 rfl
theorem s79_55 (hT : gT h o = some (11, 3)) : aW d 79 55 L (.ref o :: S) h Q = (isRf (gR h o 2) = true ∧ aW d 79 58 L (gR h o 2 :: S) h Q) := ax_geta mt79 dX9_put_55 (by decide) ft_36879 fk_36879 hT
theorem s79_58 : aW d 79 58 [l0, .int a, l2] S h Q = aW d 79 59 [l0, .int a, l2] (.int a :: S) h Q := ax_iload_n mt79 dX9_put_58 rfl
theorem s79_59 : aW d 79 59 [l0, l1, .int a] S h Q = aW d 79 60 [l0, l1, .int a] (.int a :: S) h Q := ax_iload_n mt79 dX9_put_59 rfl
theorem s79_60 : aW d 79 60 L (.int b :: .int a :: .ref o :: S) h Q = (inb a (aJ h o) ∧ aW d 79 61 L S (pI h o a.toNatClampNeg b) Q) := ax_iast mt79 dX9_put_60
-- method 80: BufferRoom$Sheet.spans(II)Z
theorem dX9_spans_0 : decode cX9_spans 0 = .ok (.iload_n 2, 1) := by decide +kernel
theorem dX9_spans_1 : decode cX9_spans 1 = .ok (.ifCond .lt 21, 3) := by decide +kernel
theorem dX9_spans_4 : decode cX9_spans 4 = .ok (.iload_n 1, 1) := by decide +kernel
theorem dX9_spans_5 : decode cX9_spans 5 = .ok (.ifCond .lt 17, 3) := by decide +kernel
theorem dX9_spans_8 : decode cX9_spans 8 = .ok (.iload_n 1, 1) := by decide +kernel
theorem dX9_spans_9 : decode cX9_spans 9 = .ok (.aload_n 0, 1) := by decide +kernel
theorem dX9_spans_10 : decode cX9_spans 10 = .ok (.getfield 19, 3) := by decide +kernel
theorem dX9_spans_13 : decode cX9_spans 13 = .ok (.iload_n 2, 1) := by decide +kernel
theorem dX9_spans_14 : decode cX9_spans 14 = .ok (.isub, 1) := by decide +kernel
theorem dX9_spans_15 : decode cX9_spans 15 = .ok (.if_icmp .gt 7, 3) := by decide +kernel
theorem dX9_spans_18 : decode cX9_spans 18 = .ok (.iconst 1, 1) := by decide +kernel
theorem dX9_spans_19 : decode cX9_spans 19 = .ok (.goto 4, 3) := by decide +kernel
theorem dX9_spans_22 : decode cX9_spans 22 = .ok (.iconst 0, 1) := by decide +kernel
theorem dX9_spans_23 : decode cX9_spans 23 = .ok (.ireturn, 1) := by decide +kernel
theorem s80_0 : aW d 80 0 [l0, l1, .int a] S h Q = aW d 80 1 [l0, l1, .int a] (.int a :: S) h Q := ax_iload_n mt80 dX9_spans_0 rfl
theorem s80_1 : aW d 80 1 L (.int a :: S) h Q = (if a < 0 then aW d 80 22 L S h Q else aW d 80 4 L S h Q) := ax_if_lt mt80 dX9_spans_1 (by decide)
theorem s80_4 : aW d 80 4 [l0, .int a, l2] S h Q = aW d 80 5 [l0, .int a, l2] (.int a :: S) h Q := ax_iload_n mt80 dX9_spans_4 rfl
theorem s80_5 : aW d 80 5 L (.int a :: S) h Q = (if a < 0 then aW d 80 22 L S h Q else aW d 80 8 L S h Q) := ax_if_lt mt80 dX9_spans_5 (by decide)
theorem s80_8 : aW d 80 8 [l0, .int a, l2] S h Q = aW d 80 9 [l0, .int a, l2] (.int a :: S) h Q := ax_iload_n mt80 dX9_spans_8 rfl
theorem s80_9 : aW d 80 9 [.ref o, l1, l2] S h Q = aW d 80 10 [.ref o, l1, l2] (.ref o :: S) h Q := ax_aload_n mt80 dX9_spans_9 rfl
theorem s80_10 (hT : gT h o = some (11, 3)) : aW d 80 10 L (.ref o :: S) h Q = aW d 80 13 L (.int (gI h o 1) :: S) h Q := ax_geti mt80 dX9_spans_10 (by decide) ft_36883 fk_36883 hT
theorem s80_13 : aW d 80 13 [l0, l1, .int a] S h Q = aW d 80 14 [l0, l1, .int a] (.int a :: S) h Q := ax_iload_n mt80 dX9_spans_13 rfl
theorem s80_14 : aW d 80 14 L (.int b :: .int a :: S) h Q = aW d 80 15 L (.int (a - b) :: S) h Q := ax_isub mt80 dX9_spans_14
theorem s80_15 : aW d 80 15 L (.int b :: .int a :: S) h Q = (if b < a then aW d 80 22 L S h Q else aW d 80 18 L S h Q) := ax_icmp_gt mt80 dX9_spans_15 (by decide)
theorem s80_18 : aW d 80 18 L S h Q = aW d 80 19 L (.int (nI 1) :: S) h Q := ax_iconst mt80 dX9_spans_18 ic_1
theorem s80_19 : aW d 80 19 L S h Q = aW d 80 23 L S h Q := ax_goto mt80 dX9_spans_19 (by decide)
theorem s80_23 : aW d 80 23 L [.int a] h Q = (b01 a ∧ Q (some (.int a)) h) := ax_retz mt80 dX9_spans_23 rfl
theorem s80_22 : aW d 80 22 L S h Q = aW d 80 23 L (.int (nI 0) :: S) h Q := ax_iconst mt80 dX9_spans_22 ic_0
-- method 81: BufferRoom$Timeline.<init>()V
theorem dX10_init_0 : decode cX10_init 0 = .ok (.aload_n 0, 1) := by decide +kernel
theorem dX10_init_1 : decode cX10_init 1 = .ok (.invokespecial 3, 3) := by decide +kernel
theorem dX10_init_4 : decode cX10_init 4 = .ok (.aload_n 0, 1) := by decide +kernel
theorem dX10_init_5 : decode cX10_init 5 = .ok (.new 9, 3) := by decide +kernel
theorem dX10_init_8 : decode cX10_init 8 = .ok (.dup, 1) := by decide +kernel
theorem dX10_init_9 : decode cX10_init 9 = .ok (.invokespecial 11, 3) := by decide +kernel
theorem dX10_init_12 : decode cX10_init 12 = .ok (.putfield 12, 3) := by decide +kernel
theorem dX10_init_15 : decode cX10_init 15 = .ok (.aload_n 0, 1) := by decide +kernel
theorem dX10_init_16 : decode cX10_init 16 = .ok (.bipush 10, 2) := by decide +kernel
theorem dX10_init_18 : decode cX10_init 18 = .ok (.newarray .int, 2) := by decide +kernel
theorem dX10_init_20 : decode cX10_init 20 = .ok (.putfield 18, 3) := by decide +kernel
theorem dX10_init_23 : decode cX10_init 23 = .ok (.aload_n 0, 1) := by decide +kernel
theorem dX10_init_24 : decode cX10_init 24 = .ok (.bipush 10, 2) := by decide +kernel
theorem dX10_init_26 : decode cX10_init 26 = .ok (.newarray .int, 2) := by decide +kernel
theorem dX10_init_28 : decode cX10_init 28 = .ok (.putfield 22, 3) := by decide +kernel
theorem dX10_init_31 : decode cX10_init 31 = .ok (.aload_n 0, 1) := by decide +kernel
theorem dX10_init_32 : decode cX10_init 32 = .ok (.bipush 10, 2) := by decide +kernel
theorem dX10_init_34 : decode cX10_init 34 = .ok (.newarray .int, 2) := by decide +kernel
theorem dX10_init_36 : decode cX10_init 36 = .ok (.putfield 25, 3) := by decide +kernel
theorem dX10_init_39 : decode cX10_init 39 = .ok (.aload_n 0, 1) := by decide +kernel
theorem dX10_init_40 : decode cX10_init 40 = .ok (.bipush 12, 2) := by decide +kernel
theorem dX10_init_42 : decode cX10_init 42 = .ok (.newarray .int, 2) := by decide +kernel
theorem dX10_init_44 : decode cX10_init 44 = .ok (.putfield 28, 3) := by decide +kernel
theorem dX10_init_47 : decode cX10_init 47 = .ok (.aload_n 0, 1) := by decide +kernel
theorem dX10_init_48 : decode cX10_init 48 = .ok (.bipush 12, 2) := by decide +kernel
theorem dX10_init_50 : decode cX10_init 50 = .ok (.newarray .int, 2) := by decide +kernel
theorem dX10_init_52 : decode cX10_init 52 = .ok (.putfield 31, 3) := by decide +kernel
theorem dX10_init_55 : decode cX10_init 55 = .ok (.return_, 1) := by decide +kernel
theorem s81_0 : aW d 81 0 [.ref o] S h Q = aW d 81 1 [.ref o] (.ref o :: S) h Q := ax_aload_n mt81 dX10_init_0 rfl
theorem s81_1 : aW (d + 1) 81 1 L (.ref o :: []) h Q = aW (d + 1) 81 4 L [] h Q := ax_obj mt81 dX10_init_1 (by decide) ct_40963 (Nat.le_of_ble_eq_true rfl)
theorem s81_4 : aW d 81 4 [.ref o] S h Q = aW d 81 5 [.ref o] (.ref o :: S) h Q := ax_aload_n mt81 dX10_init_4 rfl
theorem s81_5 : aW d 81 5 L S h Q = aW d 81 8 L (.ref h.1.length :: S) (nO h 5 4) Q := ax_new mt81 dX10_init_5 (by decide) nt_40969 (by decide)
theorem s81_8 : aW d 81 8 L (.ref o :: S) h Q = aW d 81 9 L (.ref o :: .ref o :: S) h Q := ax_dupa mt81 dX10_init_8
theorem s81_9 : aW (d + 1) 81 9 L (.ref o :: [.ref q0, .ref q1]) h Q = aM d 25 (.ref o :: []) h (fun v h1 => aW (d + 1) 81 12 L (ab_ps v [.ref q0, .ref q1]) h1 Q) := ax_invi mt81 dX10_init_9 (by decide) ct_40971 (.inr rfl) mt25 ⟨⟨Nat.le_of_ble_eq_true rfl, Nat.le_of_ble_eq_true rfl, Nat.le_of_ble_eq_true rfl⟩, rfl, rfl⟩
theorem s81_12 (hT : gT h o = some (12, 9)) : aW d 81 12 L (.ref o2 :: .ref o :: S) h Q = aW d 81 15 L S (pR h o 0 (.ref o2)) Q := ax_puta mt81 dX10_init_12 (by decide) ft_40972 (fun q => q.2 ⟨rfl, rfl, rfl⟩) fp_40972 hT
theorem s81_15 : aW d 81 15 [.ref o] S h Q = aW d 81 16 [.ref o] (.ref o :: S) h Q := ax_aload_n mt81 dX10_init_15 rfl
theorem s81_16 : aW d 81 16 L S h Q = aW d 81 18 L (.int (nI 10) :: S) h Q := ax_bipush mt81 dX10_init_16 bp_10
theorem s81_18 (hn : ¬ a < 0 ∧ a.toNatClampNeg ≤ 100000) : aW d 81 18 L (.int a :: S) h Q = aW d 81 20 L (.ref h.1.length :: S) (nO h 0 a.toNatClampNeg) Q := ax_newi mt81 dX10_init_18 hn
theorem s81_20 (hT : gT h o = some (12, 9)) : aW d 81 20 L (.ref o2 :: .ref o :: S) h Q = aW d 81 23 L S (pR h o 4 (.ref o2)) Q := ax_puta mt81 dX10_init_20 (by decide) ft_40978 (fun q => q.2 ⟨rfl, rfl, rfl⟩) fp_40978 hT
theorem s81_23 : aW d 81 23 [.ref o] S h Q = aW d 81 24 [.ref o] (.ref o :: S) h Q := ax_aload_n mt81 dX10_init_23 rfl
theorem s81_24 : aW d 81 24 L S h Q = aW d 81 26 L (.int (nI 10) :: S) h Q := ax_bipush mt81 dX10_init_24 bp_10
theorem s81_26 (hn : ¬ a < 0 ∧ a.toNatClampNeg ≤ 100000) : aW d 81 26 L (.int a :: S) h Q = aW d 81 28 L (.ref h.1.length :: S) (nO h 0 a.toNatClampNeg) Q := ax_newi mt81 dX10_init_26 hn
theorem s81_28 (hT : gT h o = some (12, 9)) : aW d 81 28 L (.ref o2 :: .ref o :: S) h Q = aW d 81 31 L S (pR h o 5 (.ref o2)) Q := ax_puta mt81 dX10_init_28 (by decide) ft_40982 (fun q => q.2 ⟨rfl, rfl, rfl⟩) fp_40982 hT
theorem s81_31 : aW d 81 31 [.ref o] S h Q = aW d 81 32 [.ref o] (.ref o :: S) h Q := ax_aload_n mt81 dX10_init_31 rfl
theorem s81_32 : aW d 81 32 L S h Q = aW d 81 34 L (.int (nI 10) :: S) h Q := ax_bipush mt81 dX10_init_32 bp_10
theorem s81_34 (hn : ¬ a < 0 ∧ a.toNatClampNeg ≤ 100000) : aW d 81 34 L (.int a :: S) h Q = aW d 81 36 L (.ref h.1.length :: S) (nO h 0 a.toNatClampNeg) Q := ax_newi mt81 dX10_init_34 hn
theorem s81_36 (hT : gT h o = some (12, 9)) : aW d 81 36 L (.ref o2 :: .ref o :: S) h Q = aW d 81 39 L S (pR h o 6 (.ref o2)) Q := ax_puta mt81 dX10_init_36 (by decide) ft_40985 (fun q => q.2 ⟨rfl, rfl, rfl⟩) fp_40985 hT
theorem s81_39 : aW d 81 39 [.ref o] S h Q = aW d 81 40 [.ref o] (.ref o :: S) h Q := ax_aload_n mt81 dX10_init_39 rfl
theorem s81_40 : aW d 81 40 L S h Q = aW d 81 42 L (.int (nI 12) :: S) h Q := ax_bipush mt81 dX10_init_40 bp_12
theorem s81_42 (hn : ¬ a < 0 ∧ a.toNatClampNeg ≤ 100000) : aW d 81 42 L (.int a :: S) h Q = aW d 81 44 L (.ref h.1.length :: S) (nO h 0 a.toNatClampNeg) Q := ax_newi mt81 dX10_init_42 hn
theorem s81_44 (hT : gT h o = some (12, 9)) : aW d 81 44 L (.ref o2 :: .ref o :: S) h Q = aW d 81 47 L S (pR h o 7 (.ref o2)) Q := ax_puta mt81 dX10_init_44 (by decide) ft_40988 (fun q => q.2 ⟨rfl, rfl, rfl⟩) fp_40988 hT
theorem s81_47 : aW d 81 47 [.ref o] S h Q = aW d 81 48 [.ref o] (.ref o :: S) h Q := ax_aload_n mt81 dX10_init_47 rfl
theorem s81_48 : aW d 81 48 L S h Q = aW d 81 50 L (.int (nI 12) :: S) h Q := ax_bipush mt81 dX10_init_48 bp_12
theorem s81_50 (hn : ¬ a < 0 ∧ a.toNatClampNeg ≤ 100000) : aW d 81 50 L (.int a :: S) h Q = aW d 81 52 L (.ref h.1.length :: S) (nO h 0 a.toNatClampNeg) Q := ax_newi mt81 dX10_init_50 hn
theorem s81_52 (hT : gT h o = some (12, 9)) : aW d 81 52 L (.ref o2 :: .ref o :: S) h Q = aW d 81 55 L S (pR h o 8 (.ref o2)) Q := ax_puta mt81 dX10_init_52 (by decide) ft_40991 (fun q => q.2 ⟨rfl, rfl, rfl⟩) fp_40991 hT
theorem s81_55 : aW d 81 55 L [] h Q = Q none h := ax_retv mt81 dX10_init_55 rfl
-- method 82: BufferRoom$Timeline.renew(LBufferRoom$Program;[I)V
theorem dX10_renew_0 : decode cX10_renew 0 = .ok (.aload_n 0, 1) := by decide +kernel
theorem dX10_renew_1 : decode cX10_renew 1 = .ok (.aload_n 1, 1) := by decide +kernel
theorem dX10_renew_2 : decode cX10_renew 2 = .ok (.putfield 34, 3) := by decide +kernel
theorem dX10_renew_5 : decode cX10_renew 5 = .ok (.aload_n 0, 1) := by decide +kernel
theorem dX10_renew_6 : decode cX10_renew 6 = .ok (.getfield 12, 3) := by decide +kernel
theorem dX10_renew_9 : decode cX10_renew 9 = .ok (.aload_n 0, 1) := by decide +kernel
theorem dX10_renew_10 : decode cX10_renew 10 = .ok (.getfield 34, 3) := by decide +kernel
theorem dX10_renew_13 : decode cX10_renew 13 = .ok (.aload_n 2, 1) := by decide +kernel
theorem dX10_renew_14 : decode cX10_renew 14 = .ok (.invokevirtual 38, 3) := by decide +kernel
theorem dX10_renew_17 : decode cX10_renew 17 = .ok (.aload_n 0, 1) := by decide +kernel
theorem dX10_renew_18 : decode cX10_renew 18 = .ok (.getfield 42, 3) := by decide +kernel
theorem dX10_renew_21 : decode cX10_renew 21 = .ok (.ifCond .ne 11, 3) := by decide +kernel
theorem dX10_renew_24 : decode cX10_renew 24 = .ok (.aload_n 0, 1) := by decide +kernel
theorem dX10_renew_25 : decode cX10_renew 25 = .ok (.aload_n 0, 1) := by decide +kernel
theorem dX10_renew_26 : decode cX10_renew 26 = .ok (.invokevirtual 46, 3) := by decide +kernel
theorem dX10_renew_29 : decode cX10_renew 29 = .ok (.putfield 50, 3) := by decide +kernel
theorem dX10_renew_32 : decode cX10_renew 32 = .ok (.aload_n 0, 1) := by decide +kernel
theorem dX10_renew_33 : decode cX10_renew 33 = .ok (.getfield 50, 3) := by decide +kernel
theorem dX10_renew_36 : decode cX10_renew 36 = .ok (.ifCond .eq 11, 3) := by decide +kernel
theorem dX10_renew_39 : decode cX10_renew 39 = .ok (.aload_n 0, 1) := by decide +kernel
theorem dX10_renew_40 : decode cX10_renew 40 = .ok (.invokevirtual 53, 3) := by decide +kernel
theorem dX10_renew_43 : decode cX10_renew 43 = .ok (.aload_n 0, 1) := by decide +kernel
theorem dX10_renew_44 : decode cX10_renew 44 = .ok (.invokevirtual 56, 3) := by decide +kernel
theorem dX10_renew_47 : decode cX10_renew 47 = .ok (.return_, 1) := by decide +kernel
theorem s82_0 : aW d 82 0 [.ref o, l1, l2] S h Q = aW d 82 1 [.ref o, l1, l2] (.ref o :: S) h Q := ax_aload_n mt82 dX10_renew_0 rfl
theorem s82_1 : aW d 82 1 [l0, .ref o, l2] S h Q = aW d 82 2 [l0, .ref o, l2] (.ref o :: S) h Q := ax_aload_n mt82 dX10_renew_1 rfl
theorem s82_2 (hT : gT h o = some (12, 9)) : aW d 82 2 L (.ref o2 :: .ref o :: S) h Q = aW d 82 5 L S (pR h o 1 (.ref o2)) Q := ax_puta mt82 dX10_renew_2 (by decide) ft_40994 (fun q => fn_40994 q.1) fp_40994 hT
theorem s82_5 : aW d 82 5 [.ref o, l1, l2] S h Q = aW d 82 6 [.ref o, l1, l2] (.ref o :: S) h Q := ax_aload_n mt82 dX10_renew_5 rfl
theorem s82_6 (hT : gT h o = some (12, 9)) : aW d 82 6 L (.ref o :: S) h Q = (isRf (gR h o 0) = true ∧ aW d 82 9 L (gR h o 0 :: S) h Q) := ax_geta mt82 dX10_renew_6 (by decide) ft_40972 fk_40972 hT
theorem s82_9 : aW d 82 9 [.ref o, l1, l2] S h Q = aW d 82 10 [.ref o, l1, l2] (.ref o :: S) h Q := ax_aload_n mt82 dX10_renew_9 rfl
theorem s82_10 (hT : gT h o = some (12, 9)) : aW d 82 10 L (.ref o :: S) h Q = (isRf (gR h o 1) = true ∧ aW d 82 13 L (gR h o 1 :: S) h Q) := ax_geta mt82 dX10_renew_10 (by decide) ft_40994 fk_40994 hT
theorem s82_13 : aW d 82 13 [l0, l1, .ref o] S h Q = aW d 82 14 [l0, l1, .ref o] (.ref o :: S) h Q := ax_aload_n mt82 dX10_renew_13 rfl
theorem s82_14 (hT : gT h o = some (5, 4)) : aW (d + 1) 82 14 L (.ref p1 :: .ref p0 :: .ref o :: []) h Q = aM d 26 (.ref o :: [.ref p0, .ref p1]) h (fun v h1 => aW (d + 1) 82 17 L (ab_ps v []) h1 Q) := ax_invv mt82 dX10_renew_14 (by decide) ct_40998 (.inl rfl) mt26 ⟨⟨Nat.le_of_ble_eq_true rfl, Nat.le_of_ble_eq_true rfl, Nat.le_of_ble_eq_true rfl⟩, rfl, rfl, rfl⟩ hT
theorem s82_17 : aW d 82 17 [.ref o, l1, l2] S h Q = aW d 82 18 [.ref o, l1, l2] (.ref o :: S) h Q := ax_aload_n mt82 dX10_renew_17 rfl
theorem s82_18 (hT : gT h o = some (12, 9)) : aW d 82 18 L (.ref o :: S) h Q = aW d 82 21 L (.int (gI h o 2) :: S) h Q := ax_geti mt82 dX10_renew_18 (by decide) ft_41002 fk_41002 hT
theorem s82_21 : aW d 82 21 L (.int a :: S) h Q = (if a = 0 then aW d 82 24 L S h Q else aW d 82 32 L S h Q) := ax_if_ne mt82 dX10_renew_21 (by decide)
theorem s82_24 : aW d 82 24 [.ref o, l1, l2] S h Q = aW d 82 25 [.ref o, l1, l2] (.ref o :: S) h Q := ax_aload_n mt82 dX10_renew_24 rfl
theorem s82_25 : aW d 82 25 [.ref o, l1, l2] S h Q = aW d 82 26 [.ref o, l1, l2] (.ref o :: S) h Q := ax_aload_n mt82 dX10_renew_25 rfl
theorem s82_26 (hT : gT h o = some (12, 9)) : aW (d + 1) 82 26 L (.ref o :: [.ref q0]) h Q = aM d 85 (.ref o :: []) h (fun v h1 => aW (d + 1) 82 29 L (ab_ps v [.ref q0]) h1 Q) := ax_invv mt82 dX10_renew_26 (by decide) ct_41006 (.inl rfl) mt85 ⟨⟨Nat.le_of_ble_eq_true rfl, Nat.le_of_ble_eq_true rfl, Nat.le_of_ble_eq_true rfl⟩, rfl, rfl, rfl⟩ hT
theorem s82_29 (hT : gT h o = some (12, 9)) : aW d 82 29 L (.int a :: .ref o :: S) h Q = (b01 a ∧ aW d 82 32 L S (pI h o 3 a) Q) := ax_putz mt82 dX10_renew_29 (by decide) ft_41010 (fun q => fn_41010 q.1) fp_41010 hT
theorem s82_32 : aW d 82 32 [.ref o, l1, l2] S h Q = aW d 82 33 [.ref o, l1, l2] (.ref o :: S) h Q := ax_aload_n mt82 dX10_renew_32 rfl
theorem s82_33 (hT : gT h o = some (12, 9)) : aW d 82 33 L (.ref o :: S) h Q = aW d 82 36 L (.int (gI h o 3) :: S) h Q := ax_geti mt82 dX10_renew_33 (by decide) ft_41010 fk_41010 hT
theorem s82_36 : aW d 82 36 L (.int a :: S) h Q = (if a = 0 then aW d 82 47 L S h Q else aW d 82 39 L S h Q) := ax_if_eq mt82 dX10_renew_36 (by decide)
theorem s82_39 : aW d 82 39 [.ref o, l1, l2] S h Q = aW d 82 40 [.ref o, l1, l2] (.ref o :: S) h Q := ax_aload_n mt82 dX10_renew_39 rfl
theorem s82_40 (hT : gT h o = some (12, 9)) : aW (d + 1) 82 40 L (.ref o :: []) h Q = aM d 87 (.ref o :: []) h (fun v h1 => aW (d + 1) 82 43 L (ab_ps v []) h1 Q) := ax_invv mt82 dX10_renew_40 (by decide) ct_41013 (.inl rfl) mt87 ⟨⟨Nat.le_of_ble_eq_true rfl, Nat.le_of_ble_eq_true rfl, Nat.le_of_ble_eq_true rfl⟩, rfl, rfl, rfl⟩ hT
theorem s82_43 : aW d 82 43 [.ref o, l1, l2] S h Q = aW d 82 44 [.ref o, l1, l2] (.ref o :: S) h Q := ax_aload_n mt82 dX10_renew_43 rfl
theorem s82_44 (hT : gT h o = some (12, 9)) : aW (d + 1) 82 44 L (.ref o :: []) h Q = aM d 88 (.ref o :: []) h (fun v h1 => aW (d + 1) 82 47 L (ab_ps v []) h1 Q) := ax_invv mt82 dX10_renew_44 (by decide) ct_41016 (.inl rfl) mt88 ⟨⟨Nat.le_of_ble_eq_true rfl, Nat.le_of_ble_eq_true rfl, Nat.le_of_ble_eq_true rfl⟩, rfl, rfl, rfl⟩ hT
theorem s82_47 : aW d 82 47 L [] h Q = Q none h := ax_retv mt82 dX10_renew_47 rfl
-- method 83: BufferRoom$Timeline.firstWrong(LBufferRoom$Program;LBufferRoom$Sheet;)I
theorem dX10_firstWrong_0 : decode cX10_firstWrong 0 = .ok (.iconst 0, 1) := by decide +kernel
theorem dX10_firstWrong_1 : decode cX10_firstWrong 1 = .ok (.istore_n 3, 1) := by decide +kernel
theorem dX10_firstWrong_2 : decode cX10_firstWrong 2 = .ok (.iconst 0, 1) := by decide +kernel
theorem dX10_firstWrong_3 : decode cX10_firstWrong 3 = .ok (.istore 4, 2) := by decide +kernel
theorem dX10_firstWrong_5 : decode cX10_firstWrong 5 = .ok (.iload 4, 2) := by decide +kernel
theorem dX10_firstWrong_7 : decode cX10_firstWrong 7 = .ok (.aload_n 2, 1) := by decide +kernel
theorem dX10_firstWrong_8 : decode cX10_firstWrong 8 = .ok (.getfield 59, 3) := by decide +kernel
theorem dX10_firstWrong_11 : decode cX10_firstWrong 11 = .ok (.if_icmp .ge 56, 3) := by decide +kernel
theorem dX10_firstWrong_14 : decode cX10_firstWrong 14 = .ok (.aload_n 2, 1) := by decide +kernel
theorem dX10_firstWrong_15 : decode cX10_firstWrong 15 = .ok (.getfield 65, 3) := by decide +kernel
theorem dX10_firstWrong_18 : decode cX10_firstWrong 18 = .ok (.iload 4, 2) := by decide +kernel
theorem dX10_firstWrong_20 : decode cX10_firstWrong 20 = .ok (.iaload, 1) := by decide +kernel
theorem dX10_firstWrong_21 : decode cX10_firstWrong 21 = .ok (.istore 5, 2) := by decide +kernel
theorem dX10_firstWrong_23 : decode cX10_firstWrong 23 = .ok (.aload_n 1, 1) := by decide +kernel
theorem dX10_firstWrong_24 : decode cX10_firstWrong 24 = .ok (.iload 5, 2) := by decide +kernel
theorem dX10_firstWrong_26 : decode cX10_firstWrong 26 = .ok (.invokevirtual 68, 3) := by decide +kernel
theorem dX10_firstWrong_29 : decode cX10_firstWrong 29 = .ok (.ifCond .eq 22, 3) := by decide +kernel
theorem dX10_firstWrong_32 : decode cX10_firstWrong 32 = .ok (.iload_n 3, 1) := by decide +kernel
theorem dX10_firstWrong_33 : decode cX10_firstWrong 33 = .ok (.iload 5, 2) := by decide +kernel
theorem dX10_firstWrong_35 : decode cX10_firstWrong 35 = .ok (.ishr, 1) := by decide +kernel
theorem dX10_firstWrong_36 : decode cX10_firstWrong 36 = .ok (.iconst 1, 1) := by decide +kernel
theorem dX10_firstWrong_37 : decode cX10_firstWrong 37 = .ok (.iand, 1) := by decide +kernel
theorem dX10_firstWrong_38 : decode cX10_firstWrong 38 = .ok (.ifCond .ne 13, 3) := by decide +kernel
theorem dX10_firstWrong_41 : decode cX10_firstWrong 41 = .ok (.aload_n 1, 1) := by decide +kernel
theorem dX10_firstWrong_42 : decode cX10_firstWrong 42 = .ok (.iload 5, 2) := by decide +kernel
theorem dX10_firstWrong_44 : decode cX10_firstWrong 44 = .ok (.iload_n 3, 1) := by decide +kernel
theorem dX10_firstWrong_45 : decode cX10_firstWrong 45 = .ok (.invokevirtual 74, 3) := by decide +kernel
theorem dX10_firstWrong_48 : decode cX10_firstWrong 48 = .ok (.ifCond .ne 6, 3) := by decide +kernel
theorem dX10_firstWrong_51 : decode cX10_firstWrong 51 = .ok (.iload 4, 2) := by decide +kernel
theorem dX10_firstWrong_53 : decode cX10_firstWrong 53 = .ok (.ireturn, 1) := by decide +kernel
theorem dX10_firstWrong_54 : decode cX10_firstWrong 54 = .ok (.iload_n 3, 1) := by decide +kernel
theorem dX10_firstWrong_55 : decode cX10_firstWrong 55 = .ok (.iconst 1, 1) := by decide +kernel
theorem dX10_firstWrong_56 : decode cX10_firstWrong 56 = .ok (.iload 5, 2) := by decide +kernel
theorem dX10_firstWrong_58 : decode cX10_firstWrong 58 = .ok (.ishl, 1) := by decide +kernel
theorem dX10_firstWrong_59 : decode cX10_firstWrong 59 = .ok (.ior, 1) := by decide +kernel
theorem dX10_firstWrong_60 : decode cX10_firstWrong 60 = .ok (.istore_n 3, 1) := by decide +kernel
theorem dX10_firstWrong_61 : decode cX10_firstWrong 61 = .ok (.iinc 4 1, 3) := by decide +kernel
theorem dX10_firstWrong_64 : decode cX10_firstWrong 64 = .ok (.goto (-59), 3) := by decide +kernel
theorem dX10_firstWrong_67 : decode cX10_firstWrong 67 = .ok (.iconst (-1), 1) := by decide +kernel
theorem dX10_firstWrong_68 : decode cX10_firstWrong 68 = .ok (.ireturn, 1) := by decide +kernel
theorem s83_0 : aW d 83 0 L S h Q = aW d 83 1 L (.int (nI 0) :: S) h Q := ax_iconst mt83 dX10_firstWrong_0 ic_0
theorem s83_1 : aW d 83 1 [l0, l1, l2, l3, l4, l5] (.int a :: S) h Q = aW d 83 2 [l0, l1, l2, .int a, l4, l5] S h Q := ax_istore_n mt83 dX10_firstWrong_1 (Nat.le_of_ble_eq_true rfl) rfl
theorem s83_2 : aW d 83 2 L S h Q = aW d 83 3 L (.int (nI 0) :: S) h Q := ax_iconst mt83 dX10_firstWrong_2 ic_0
theorem s83_3 : aW d 83 3 [l0, l1, l2, l3, l4, l5] (.int a :: S) h Q = aW d 83 5 [l0, l1, l2, l3, .int a, l5] S h Q := ax_istore mt83 dX10_firstWrong_3 (Nat.le_of_ble_eq_true rfl) rfl
theorem s83_5 : aW d 83 5 [l0, l1, l2, l3, .int a, l5] S h Q = aW d 83 7 [l0, l1, l2, l3, .int a, l5] (.int a :: S) h Q := ax_iload mt83 dX10_firstWrong_5 rfl
theorem s83_7 : aW d 83 7 [l0, l1, .ref o, l3, l4, l5] S h Q = aW d 83 8 [l0, l1, .ref o, l3, l4, l5] (.ref o :: S) h Q := ax_aload_n mt83 dX10_firstWrong_7 rfl
theorem s83_8 (hT : gT h o = some (11, 3)) : aW d 83 8 L (.ref o :: S) h Q = aW d 83 11 L (.int (gI h o 1) :: S) h Q := ax_geti mt83 dX10_firstWrong_8 (by decide) ft_41019 fk_41019 hT
theorem s83_11 : aW d 83 11 L (.int b :: .int a :: S) h Q = (if a < b then aW d 83 14 L S h Q else aW d 83 67 L S h Q) := ax_icmp_ge mt83 dX10_firstWrong_11 (by decide)
theorem s83_14 : aW d 83 14 [l0, l1, .ref o, l3, l4, l5] S h Q = aW d 83 15 [l0, l1, .ref o, l3, l4, l5] (.ref o :: S) h Q := ax_aload_n mt83 dX10_firstWrong_14 rfl
theorem s83_15 (hT : gT h o = some (11, 3)) : aW d 83 15 L (.ref o :: S) h Q = (isRf (gR h o 2) = true ∧ aW d 83 18 L (gR h o 2 :: S) h Q) := ax_geta mt83 dX10_firstWrong_15 (by decide) ft_41025 fk_41025 hT
theorem s83_18 : aW d 83 18 [l0, l1, l2, l3, .int a, l5] S h Q = aW d 83 20 [l0, l1, l2, l3, .int a, l5] (.int a :: S) h Q := ax_iload mt83 dX10_firstWrong_18 rfl
theorem s83_20 : aW d 83 20 L (.int a :: .ref o :: S) h Q = (inb a (aI h o) ∧ aW d 83 21 L (.int (gI h o a.toNatClampNeg) :: S) h Q) := ax_iald mt83 dX10_firstWrong_20
theorem s83_21 : aW d 83 21 [l0, l1, l2, l3, l4, l5] (.int a :: S) h Q = aW d 83 23 [l0, l1, l2, l3, l4, .int a] S h Q := ax_istore mt83 dX10_firstWrong_21 (Nat.le_of_ble_eq_true rfl) rfl
theorem s83_23 : aW d 83 23 [l0, .ref o, l2, l3, l4, l5] S h Q = aW d 83 24 [l0, .ref o, l2, l3, l4, l5] (.ref o :: S) h Q := ax_aload_n mt83 dX10_firstWrong_23 rfl
theorem s83_24 : aW d 83 24 [l0, l1, l2, l3, l4, .int a] S h Q = aW d 83 26 [l0, l1, l2, l3, l4, .int a] (.int a :: S) h Q := ax_iload mt83 dX10_firstWrong_24 rfl
theorem s83_26 (hT : gT h o = some (8, 12)) : aW (d + 1) 83 26 L (.int x0 :: .ref o :: []) h Q = aM d 45 (.ref o :: [.int x0]) h (fun v h1 => aW (d + 1) 83 29 L (ab_ps v []) h1 Q) := ax_invv mt83 dX10_firstWrong_26 (by decide) ct_41028 (.inl rfl) mt45 ⟨⟨Nat.le_of_ble_eq_true rfl, Nat.le_of_ble_eq_true rfl, Nat.le_of_ble_eq_true rfl⟩, rfl, rfl, rfl⟩ hT
theorem s83_29 : aW d 83 29 L (.int a :: S) h Q = (if a = 0 then aW d 83 51 L S h Q else aW d 83 32 L S h Q) := ax_if_eq mt83 dX10_firstWrong_29 (by decide)
theorem s83_32 : aW d 83 32 [l0, l1, l2, .int a, l4, l5] S h Q = aW d 83 33 [l0, l1, l2, .int a, l4, l5] (.int a :: S) h Q := ax_iload_n mt83 dX10_firstWrong_32 rfl
theorem s83_33 : aW d 83 33 [l0, l1, l2, l3, l4, .int a] S h Q = aW d 83 35 [l0, l1, l2, l3, l4, .int a] (.int a :: S) h Q := ax_iload mt83 dX10_firstWrong_33 rfl
theorem s83_35 : aW d 83 35 L (.int b :: .int a :: S) h Q = aW d 83 36 L (.int (a >>> (b &&& 31)) :: S) h Q := ax_ishr mt83 dX10_firstWrong_35
theorem s83_36 : aW d 83 36 L S h Q = aW d 83 37 L (.int (nI 1) :: S) h Q := ax_iconst mt83 dX10_firstWrong_36 ic_1
theorem s83_37 : aW d 83 37 L (.int b :: .int a :: S) h Q = aW d 83 38 L (.int (a &&& b) :: S) h Q := ax_iand mt83 dX10_firstWrong_37
theorem s83_38 : aW d 83 38 L (.int a :: S) h Q = (if a = 0 then aW d 83 41 L S h Q else aW d 83 51 L S h Q) := ax_if_ne mt83 dX10_firstWrong_38 (by decide)
theorem s83_41 : aW d 83 41 [l0, .ref o, l2, l3, l4, l5] S h Q = aW d 83 42 [l0, .ref o, l2, l3, l4, l5] (.ref o :: S) h Q := ax_aload_n mt83 dX10_firstWrong_41 rfl
theorem s83_42 : aW d 83 42 [l0, l1, l2, l3, l4, .int a] S h Q = aW d 83 44 [l0, l1, l2, l3, l4, .int a] (.int a :: S) h Q := ax_iload mt83 dX10_firstWrong_42 rfl
theorem s83_44 : aW d 83 44 [l0, l1, l2, .int a, l4, l5] S h Q = aW d 83 45 [l0, l1, l2, .int a, l4, l5] (.int a :: S) h Q := ax_iload_n mt83 dX10_firstWrong_44 rfl
theorem s83_45 (hT : gT h o = some (8, 12)) : aW (d + 1) 83 45 L (.int x1 :: .int x0 :: .ref o :: []) h Q = aM d 54 (.ref o :: [.int x0, .int x1]) h (fun v h1 => aW (d + 1) 83 48 L (ab_ps v []) h1 Q) := ax_invv mt83 dX10_firstWrong_45 (by decide) ct_41034 (.inl rfl) mt54 ⟨⟨Nat.le_of_ble_eq_true rfl, Nat.le_of_ble_eq_true rfl, Nat.le_of_ble_eq_true rfl⟩, rfl, rfl, rfl⟩ hT
theorem s83_48 : aW d 83 48 L (.int a :: S) h Q = (if a = 0 then aW d 83 51 L S h Q else aW d 83 54 L S h Q) := ax_if_ne mt83 dX10_firstWrong_48 (by decide)
theorem s83_54 : aW d 83 54 [l0, l1, l2, .int a, l4, l5] S h Q = aW d 83 55 [l0, l1, l2, .int a, l4, l5] (.int a :: S) h Q := ax_iload_n mt83 dX10_firstWrong_54 rfl
theorem s83_55 : aW d 83 55 L S h Q = aW d 83 56 L (.int (nI 1) :: S) h Q := ax_iconst mt83 dX10_firstWrong_55 ic_1
theorem s83_56 : aW d 83 56 [l0, l1, l2, l3, l4, .int a] S h Q = aW d 83 58 [l0, l1, l2, l3, l4, .int a] (.int a :: S) h Q := ax_iload mt83 dX10_firstWrong_56 rfl
theorem s83_58 : aW d 83 58 L (.int b :: .int a :: S) h Q = aW d 83 59 L (.int (a <<< (b &&& 31)) :: S) h Q := ax_ishl mt83 dX10_firstWrong_58
theorem s83_59 : aW d 83 59 L (.int b :: .int a :: S) h Q = aW d 83 60 L (.int (a ||| b) :: S) h Q := ax_ior mt83 dX10_firstWrong_59
theorem s83_60 : aW d 83 60 [l0, l1, l2, l3, l4, l5] (.int a :: S) h Q = aW d 83 61 [l0, l1, l2, .int a, l4, l5] S h Q := ax_istore_n mt83 dX10_firstWrong_60 (Nat.le_of_ble_eq_true rfl) rfl
theorem s83_61 : aW d 83 61 [l0, l1, l2, l3, .int a, l5] S h Q = aW d 83 64 [l0, l1, l2, l3, .int (a + nI 1), l5] S h Q := ax_iinc mt83 dX10_firstWrong_61 rfl ic_1 rfl
theorem s83_64 : aW d 83 64 L S h Q = aW d 83 5 L S h Q := ax_goto mt83 dX10_firstWrong_64 (by decide)
theorem s83_51 : aW d 83 51 [l0, l1, l2, l3, .int a, l5] S h Q = aW d 83 53 [l0, l1, l2, l3, .int a, l5] (.int a :: S) h Q := ax_iload mt83 dX10_firstWrong_51 rfl
theorem s83_53 : aW d 83 53 L [.int a] h Q = Q (some (.int a)) h := ax_reti mt83 dX10_firstWrong_53 rfl
theorem s83_67 : aW d 83 67 L S h Q = aW d 83 68 L (.int ((-1)) :: S) h Q := ax_iconst mt83 dX10_firstWrong_67 ic_m1
theorem s83_68 : aW d 83 68 L [.int a] h Q = Q (some (.int a)) h := ax_reti mt83 dX10_firstWrong_68 rfl
-- method 84: BufferRoom$Timeline.tell(LBufferRoom$Sheet;)V
theorem dX10_tell_0 : decode cX10_tell 0 = .ok (.iconst 0, 1) := by decide +kernel
theorem dX10_tell_1 : decode cX10_tell 1 = .ok (.istore_n 2, 1) := by decide +kernel
theorem dX10_tell_2 : decode cX10_tell 2 = .ok (.iload_n 2, 1) := by decide +kernel
theorem dX10_tell_3 : decode cX10_tell 3 = .ok (.bipush 10, 2) := by decide +kernel
theorem dX10_tell_5 : decode cX10_tell 5 = .ok (.if_icmp .ge 29, 3) := by decide +kernel
theorem dX10_tell_8 : decode cX10_tell 8 = .ok (.iload_n 2, 1) := by decide +kernel
theorem dX10_tell_9 : decode cX10_tell 9 = .ok (.aload_n 1, 1) := by decide +kernel
theorem dX10_tell_10 : decode cX10_tell 10 = .ok (.getfield 59, 3) := by decide +kernel
theorem dX10_tell_13 : decode cX10_tell 13 = .ok (.if_icmp .ge 21, 3) := by decide +kernel
theorem dX10_tell_16 : decode cX10_tell 16 = .ok (.aload_n 0, 1) := by decide +kernel
theorem dX10_tell_17 : decode cX10_tell 17 = .ok (.getfield 18, 3) := by decide +kernel
theorem dX10_tell_20 : decode cX10_tell 20 = .ok (.iload_n 2, 1) := by decide +kernel
theorem dX10_tell_21 : decode cX10_tell 21 = .ok (.aload_n 1, 1) := by decide +kernel
theorem dX10_tell_22 : decode cX10_tell 22 = .ok (.getfield 65, 3) := by decide +kernel
theorem dX10_tell_25 : decode cX10_tell 25 = .ok (.iload_n 2, 1) := by decide +kernel
theorem dX10_tell_26 : decode cX10_tell 26 = .ok (.iaload, 1) := by decide +kernel
theorem dX10_tell_27 : decode cX10_tell 27 = .ok (.iastore, 1) := by decide +kernel
theorem dX10_tell_28 : decode cX10_tell 28 = .ok (.iinc 2 1, 3) := by decide +kernel
theorem dX10_tell_31 : decode cX10_tell 31 = .ok (.goto (-29), 3) := by decide +kernel
theorem dX10_tell_34 : decode cX10_tell 34 = .ok (.aload_n 0, 1) := by decide +kernel
theorem dX10_tell_35 : decode cX10_tell 35 = .ok (.iconst 1, 1) := by decide +kernel
theorem dX10_tell_36 : decode cX10_tell 36 = .ok (.putfield 42, 3) := by decide +kernel
theorem dX10_tell_39 : decode cX10_tell 39 = .ok (.aload_n 0, 1) := by decide +kernel
theorem dX10_tell_40 : decode cX10_tell 40 = .ok (.iconst 1, 1) := by decide +kernel
theorem dX10_tell_41 : decode cX10_tell 41 = .ok (.putfield 50, 3) := by decide +kernel
theorem dX10_tell_44 : decode cX10_tell 44 = .ok (.return_, 1) := by decide +kernel
theorem s84_0 : aW d 84 0 L S h Q = aW d 84 1 L (.int (nI 0) :: S) h Q := ax_iconst mt84 dX10_tell_0 ic_0
theorem s84_1 : aW d 84 1 [l0, l1, l2] (.int a :: S) h Q = aW d 84 2 [l0, l1, .int a] S h Q := ax_istore_n mt84 dX10_tell_1 (Nat.le_of_ble_eq_true rfl) rfl
theorem s84_2 : aW d 84 2 [l0, l1, .int a] S h Q = aW d 84 3 [l0, l1, .int a] (.int a :: S) h Q := ax_iload_n mt84 dX10_tell_2 rfl
theorem s84_3 : aW d 84 3 L S h Q = aW d 84 5 L (.int (nI 10) :: S) h Q := ax_bipush mt84 dX10_tell_3 bp_10
theorem s84_5 : aW d 84 5 L (.int b :: .int a :: S) h Q = (if a < b then aW d 84 8 L S h Q else aW d 84 34 L S h Q) := ax_icmp_ge mt84 dX10_tell_5 (by decide)
theorem s84_8 : aW d 84 8 [l0, l1, .int a] S h Q = aW d 84 9 [l0, l1, .int a] (.int a :: S) h Q := ax_iload_n mt84 dX10_tell_8 rfl
theorem s84_9 : aW d 84 9 [l0, .ref o, l2] S h Q = aW d 84 10 [l0, .ref o, l2] (.ref o :: S) h Q := ax_aload_n mt84 dX10_tell_9 rfl
theorem s84_10 (hT : gT h o = some (11, 3)) : aW d 84 10 L (.ref o :: S) h Q = aW d 84 13 L (.int (gI h o 1) :: S) h Q := ax_geti mt84 dX10_tell_10 (by decide) ft_41019 fk_41019 hT
theorem s84_13 : aW d 84 13 L (.int b :: .int a :: S) h Q = (if a < b then aW d 84 16 L S h Q else aW d 84 34 L S h Q) := ax_icmp_ge mt84 dX10_tell_13 (by decide)
theorem s84_16 : aW d 84 16 [.ref o, l1, l2] S h Q = aW d 84 17 [.ref o, l1, l2] (.ref o :: S) h Q := ax_aload_n mt84 dX10_tell_16 rfl
theorem s84_17 (hT : gT h o = some (12, 9)) : aW d 84 17 L (.ref o :: S) h Q = (isRf (gR h o 4) = true ∧ aW d 84 20 L (gR h o 4 :: S) h Q) := ax_geta mt84 dX10_tell_17 (by decide) ft_40978 fk_40978 hT
theorem s84_20 : aW d 84 20 [l0, l1, .int a] S h Q = aW d 84 21 [l0, l1, .int a] (.int a :: S) h Q := ax_iload_n mt84 dX10_tell_20 rfl
theorem s84_21 : aW d 84 21 [l0, .ref o, l2] S h Q = aW d 84 22 [l0, .ref o, l2] (.ref o :: S) h Q := ax_aload_n mt84 dX10_tell_21 rfl
theorem s84_22 (hT : gT h o = some (11, 3)) : aW d 84 22 L (.ref o :: S) h Q = (isRf (gR h o 2) = true ∧ aW d 84 25 L (gR h o 2 :: S) h Q) := ax_geta mt84 dX10_tell_22 (by decide) ft_41025 fk_41025 hT
theorem s84_25 : aW d 84 25 [l0, l1, .int a] S h Q = aW d 84 26 [l0, l1, .int a] (.int a :: S) h Q := ax_iload_n mt84 dX10_tell_25 rfl
theorem s84_26 : aW d 84 26 L (.int a :: .ref o :: S) h Q = (inb a (aI h o) ∧ aW d 84 27 L (.int (gI h o a.toNatClampNeg) :: S) h Q) := ax_iald mt84 dX10_tell_26
theorem s84_27 : aW d 84 27 L (.int b :: .int a :: .ref o :: S) h Q = (inb a (aJ h o) ∧ aW d 84 28 L S (pI h o a.toNatClampNeg b) Q) := ax_iast mt84 dX10_tell_27
theorem s84_28 : aW d 84 28 [l0, l1, .int a] S h Q = aW d 84 31 [l0, l1, .int (a + nI 1)] S h Q := ax_iinc mt84 dX10_tell_28 rfl ic_1 rfl
theorem s84_31 : aW d 84 31 L S h Q = aW d 84 2 L S h Q := ax_goto mt84 dX10_tell_31 (by decide)
theorem s84_34 : aW d 84 34 [.ref o, l1, l2] S h Q = aW d 84 35 [.ref o, l1, l2] (.ref o :: S) h Q := ax_aload_n mt84 dX10_tell_34 rfl
theorem s84_35 : aW d 84 35 L S h Q = aW d 84 36 L (.int (nI 1) :: S) h Q := ax_iconst mt84 dX10_tell_35 ic_1
theorem s84_36 (hT : gT h o = some (12, 9)) : aW d 84 36 L (.int a :: .ref o :: S) h Q = (b01 a ∧ aW d 84 39 L S (pI h o 2 a) Q) := ax_putz mt84 dX10_tell_36 (by decide) ft_41002 (fun q => fn_41002 q.1) fp_41002 hT
theorem s84_39 : aW d 84 39 [.ref o, l1, l2] S h Q = aW d 84 40 [.ref o, l1, l2] (.ref o :: S) h Q := ax_aload_n mt84 dX10_tell_39 rfl
theorem s84_40 : aW d 84 40 L S h Q = aW d 84 41 L (.int (nI 1) :: S) h Q := ax_iconst mt84 dX10_tell_40 ic_1
theorem s84_41 (hT : gT h o = some (12, 9)) : aW d 84 41 L (.int a :: .ref o :: S) h Q = (b01 a ∧ aW d 84 44 L S (pI h o 3 a) Q) := ax_putz mt84 dX10_tell_41 (by decide) ft_41010 (fun q => fn_41010 q.1) fp_41010 hT
theorem s84_44 : aW d 84 44 L [] h Q = Q none h := ax_retv mt84 dX10_tell_44 rfl
-- method 85: BufferRoom$Timeline.findOrder()Z
theorem dX10_findOrder_0 : decode cX10_findOrder 0 = .ok (.iconst 0, 1) := by decide +kernel
theorem dX10_findOrder_1 : decode cX10_findOrder 1 = .ok (.istore_n 1, 1) := by decide +kernel
theorem dX10_findOrder_2 : decode cX10_findOrder 2 = .ok (.iconst 0, 1) := by decide +kernel
theorem dX10_findOrder_3 : decode cX10_findOrder 3 = .ok (.istore_n 2, 1) := by decide +kernel
theorem dX10_findOrder_4 : decode cX10_findOrder 4 = .ok (.iload_n 2, 1) := by decide +kernel
theorem dX10_findOrder_5 : decode cX10_findOrder 5 = .ok (.aload_n 0, 1) := by decide +kernel
theorem dX10_findOrder_6 : decode cX10_findOrder 6 = .ok (.getfield 34, 3) := by decide +kernel
theorem dX10_findOrder_9 : decode cX10_findOrder 9 = .ok (.getfield 78, 3) := by decide +kernel
theorem dX10_findOrder_12 : decode cX10_findOrder 12 = .ok (.if_icmp .ge 34, 3) := by decide +kernel
theorem dX10_findOrder_15 : decode cX10_findOrder 15 = .ok (.aload_n 0, 1) := by decide +kernel
theorem dX10_findOrder_16 : decode cX10_findOrder 16 = .ok (.iload_n 1, 1) := by decide +kernel
theorem dX10_findOrder_17 : decode cX10_findOrder 17 = .ok (.invokevirtual 81, 3) := by decide +kernel
theorem dX10_findOrder_20 : decode cX10_findOrder 20 = .ok (.istore_n 3, 1) := by decide +kernel
theorem dX10_findOrder_21 : decode cX10_findOrder 21 = .ok (.iload_n 3, 1) := by decide +kernel
theorem dX10_findOrder_22 : decode cX10_findOrder 22 = .ok (.ifCond .ge 5, 3) := by decide +kernel
theorem dX10_findOrder_25 : decode cX10_findOrder 25 = .ok (.iconst 0, 1) := by decide +kernel
theorem dX10_findOrder_26 : decode cX10_findOrder 26 = .ok (.ireturn, 1) := by decide +kernel
theorem dX10_findOrder_27 : decode cX10_findOrder 27 = .ok (.aload_n 0, 1) := by decide +kernel
theorem dX10_findOrder_28 : decode cX10_findOrder 28 = .ok (.getfield 18, 3) := by decide +kernel
theorem dX10_findOrder_31 : decode cX10_findOrder 31 = .ok (.iload_n 2, 1) := by decide +kernel
theorem dX10_findOrder_32 : decode cX10_findOrder 32 = .ok (.iload_n 3, 1) := by decide +kernel
theorem dX10_findOrder_33 : decode cX10_findOrder 33 = .ok (.iastore, 1) := by decide +kernel
theorem dX10_findOrder_34 : decode cX10_findOrder 34 = .ok (.iload_n 1, 1) := by decide +kernel
theorem dX10_findOrder_35 : decode cX10_findOrder 35 = .ok (.iconst 1, 1) := by decide +kernel
theorem dX10_findOrder_36 : decode cX10_findOrder 36 = .ok (.iload_n 3, 1) := by decide +kernel
theorem dX10_findOrder_37 : decode cX10_findOrder 37 = .ok (.ishl, 1) := by decide +kernel
theorem dX10_findOrder_38 : decode cX10_findOrder 38 = .ok (.ior, 1) := by decide +kernel
theorem dX10_findOrder_39 : decode cX10_findOrder 39 = .ok (.istore_n 1, 1) := by decide +kernel
theorem dX10_findOrder_40 : decode cX10_findOrder 40 = .ok (.iinc 2 1, 3) := by decide +kernel
theorem dX10_findOrder_43 : decode cX10_findOrder 43 = .ok (.goto (-39), 3) := by decide +kernel
theorem dX10_findOrder_46 : decode cX10_findOrder 46 = .ok (.iconst 1, 1) := by decide +kernel
theorem dX10_findOrder_47 : decode cX10_findOrder 47 = .ok (.ireturn, 1) := by decide +kernel
theorem s85_0 : aW d 85 0 L S h Q = aW d 85 1 L (.int (nI 0) :: S) h Q := ax_iconst mt85 dX10_findOrder_0 ic_0
theorem s85_1 : aW d 85 1 [l0, l1, l2, l3] (.int a :: S) h Q = aW d 85 2 [l0, .int a, l2, l3] S h Q := ax_istore_n mt85 dX10_findOrder_1 (Nat.le_of_ble_eq_true rfl) rfl
theorem s85_2 : aW d 85 2 L S h Q = aW d 85 3 L (.int (nI 0) :: S) h Q := ax_iconst mt85 dX10_findOrder_2 ic_0
theorem s85_3 : aW d 85 3 [l0, l1, l2, l3] (.int a :: S) h Q = aW d 85 4 [l0, l1, .int a, l3] S h Q := ax_istore_n mt85 dX10_findOrder_3 (Nat.le_of_ble_eq_true rfl) rfl
theorem s85_4 : aW d 85 4 [l0, l1, .int a, l3] S h Q = aW d 85 5 [l0, l1, .int a, l3] (.int a :: S) h Q := ax_iload_n mt85 dX10_findOrder_4 rfl
theorem s85_5 : aW d 85 5 [.ref o, l1, l2, l3] S h Q = aW d 85 6 [.ref o, l1, l2, l3] (.ref o :: S) h Q := ax_aload_n mt85 dX10_findOrder_5 rfl
theorem s85_6 (hT : gT h o = some (12, 9)) : aW d 85 6 L (.ref o :: S) h Q = (isRf (gR h o 1) = true ∧ aW d 85 9 L (gR h o 1 :: S) h Q) := ax_geta mt85 dX10_findOrder_6 (by decide) ft_40994 fk_40994 hT
theorem s85_9 (hT : gT h o = some (8, 12)) : aW d 85 9 L (.ref o :: S) h Q = aW d 85 12 L (.int (gI h o 6) :: S) h Q := ax_geti mt85 dX10_findOrder_9 (by decide) ft_41038 fk_41038 hT
theorem s85_12 : aW d 85 12 L (.int b :: .int a :: S) h Q = (if a < b then aW d 85 15 L S h Q else aW d 85 46 L S h Q) := ax_icmp_ge mt85 dX10_findOrder_12 (by decide)
theorem s85_15 : aW d 85 15 [.ref o, l1, l2, l3] S h Q = aW d 85 16 [.ref o, l1, l2, l3] (.ref o :: S) h Q := ax_aload_n mt85 dX10_findOrder_15 rfl
theorem s85_16 : aW d 85 16 [l0, .int a, l2, l3] S h Q = aW d 85 17 [l0, .int a, l2, l3] (.int a :: S) h Q := ax_iload_n mt85 dX10_findOrder_16 rfl
theorem s85_17 (hT : gT h o = some (12, 9)) : aW (d + 1) 85 17 L (.int x0 :: .ref o :: []) h Q = aM d 86 (.ref o :: [.int x0]) h (fun v h1 => aW (d + 1) 85 20 L (ab_ps v []) h1 Q) := ax_invv mt85 dX10_findOrder_17 (by decide) ct_41041 (.inl rfl) mt86 ⟨⟨Nat.le_of_ble_eq_true rfl, Nat.le_of_ble_eq_true rfl, Nat.le_of_ble_eq_true rfl⟩, rfl, rfl, rfl⟩ hT
theorem s85_20 : aW d 85 20 [l0, l1, l2, l3] (.int a :: S) h Q = aW d 85 21 [l0, l1, l2, .int a] S h Q := ax_istore_n mt85 dX10_findOrder_20 (Nat.le_of_ble_eq_true rfl) rfl
theorem s85_21 : aW d 85 21 [l0, l1, l2, .int a] S h Q = aW d 85 22 [l0, l1, l2, .int a] (.int a :: S) h Q := ax_iload_n mt85 dX10_findOrder_21 rfl
theorem s85_22 : aW d 85 22 L (.int a :: S) h Q = (if a < 0 then aW d 85 25 L S h Q else aW d 85 27 L S h Q) := ax_if_ge mt85 dX10_findOrder_22 (by decide)
theorem s85_25 : aW d 85 25 L S h Q = aW d 85 26 L (.int (nI 0) :: S) h Q := ax_iconst mt85 dX10_findOrder_25 ic_0
theorem s85_26 : aW d 85 26 L [.int a] h Q = (b01 a ∧ Q (some (.int a)) h) := ax_retz mt85 dX10_findOrder_26 rfl
theorem s85_27 : aW d 85 27 [.ref o, l1, l2, l3] S h Q = aW d 85 28 [.ref o, l1, l2, l3] (.ref o :: S) h Q := ax_aload_n mt85 dX10_findOrder_27 rfl
theorem s85_28 (hT : gT h o = some (12, 9)) : aW d 85 28 L (.ref o :: S) h Q = (isRf (gR h o 4) = true ∧ aW d 85 31 L (gR h o 4 :: S) h Q) := ax_geta mt85 dX10_findOrder_28 (by decide) ft_40978 fk_40978 hT
theorem s85_31 : aW d 85 31 [l0, l1, .int a, l3] S h Q = aW d 85 32 [l0, l1, .int a, l3] (.int a :: S) h Q := ax_iload_n mt85 dX10_findOrder_31 rfl
theorem s85_32 : aW d 85 32 [l0, l1, l2, .int a] S h Q = aW d 85 33 [l0, l1, l2, .int a] (.int a :: S) h Q := ax_iload_n mt85 dX10_findOrder_32 rfl
theorem s85_33 : aW d 85 33 L (.int b :: .int a :: .ref o :: S) h Q = (inb a (aJ h o) ∧ aW d 85 34 L S (pI h o a.toNatClampNeg b) Q) := ax_iast mt85 dX10_findOrder_33
theorem s85_34 : aW d 85 34 [l0, .int a, l2, l3] S h Q = aW d 85 35 [l0, .int a, l2, l3] (.int a :: S) h Q := ax_iload_n mt85 dX10_findOrder_34 rfl
theorem s85_35 : aW d 85 35 L S h Q = aW d 85 36 L (.int (nI 1) :: S) h Q := ax_iconst mt85 dX10_findOrder_35 ic_1
theorem s85_36 : aW d 85 36 [l0, l1, l2, .int a] S h Q = aW d 85 37 [l0, l1, l2, .int a] (.int a :: S) h Q := ax_iload_n mt85 dX10_findOrder_36 rfl
theorem s85_37 : aW d 85 37 L (.int b :: .int a :: S) h Q = aW d 85 38 L (.int (a <<< (b &&& 31)) :: S) h Q := ax_ishl mt85 dX10_findOrder_37
theorem s85_38 : aW d 85 38 L (.int b :: .int a :: S) h Q = aW d 85 39 L (.int (a ||| b) :: S) h Q := ax_ior mt85 dX10_findOrder_38
theorem s85_39 : aW d 85 39 [l0, l1, l2, l3] (.int a :: S) h Q = aW d 85 40 [l0, .int a, l2, l3] S h Q := ax_istore_n mt85 dX10_findOrder_39 (Nat.le_of_ble_eq_true rfl) rfl
theorem s85_40 : aW d 85 40 [l0, l1, .int a, l3] S h Q = aW d 85 43 [l0, l1, .int (a + nI 1), l3] S h Q := ax_iinc mt85 dX10_findOrder_40 rfl ic_1 rfl
theorem s85_43 : aW d 85 43 L S h Q = aW d 85 4 L S h Q := ax_goto mt85 dX10_findOrder_43 (by decide)
theorem s85_46 : aW d 85 46 L S h Q = aW d 85 47 L (.int (nI 1) :: S) h Q := ax_iconst mt85 dX10_findOrder_46 ic_1
theorem s85_47 : aW d 85 47 L [.int a] h Q = (b01 a ∧ Q (some (.int a)) h) := ax_retz mt85 dX10_findOrder_47 rfl
-- method 86: BufferRoom$Timeline.leastReady(I)I
theorem dX10_leastReady_0 : decode cX10_leastReady 0 = .ok (.iconst 0, 1) := by decide +kernel
theorem dX10_leastReady_1 : decode cX10_leastReady 1 = .ok (.istore_n 2, 1) := by decide +kernel
theorem dX10_leastReady_2 : decode cX10_leastReady 2 = .ok (.iload_n 2, 1) := by decide +kernel
theorem dX10_leastReady_3 : decode cX10_leastReady 3 = .ok (.aload_n 0, 1) := by decide +kernel
theorem dX10_leastReady_4 : decode cX10_leastReady 4 = .ok (.getfield 34, 3) := by decide +kernel
theorem dX10_leastReady_7 : decode cX10_leastReady 7 = .ok (.getfield 78, 3) := by decide +kernel
theorem dX10_leastReady_10 : decode cX10_leastReady 10 = .ok (.if_icmp .ge 31, 3) := by decide +kernel
theorem dX10_leastReady_13 : decode cX10_leastReady 13 = .ok (.iload_n 1, 1) := by decide +kernel
theorem dX10_leastReady_14 : decode cX10_leastReady 14 = .ok (.iload_n 2, 1) := by decide +kernel
theorem dX10_leastReady_15 : decode cX10_leastReady 15 = .ok (.ishr, 1) := by decide +kernel
theorem dX10_leastReady_16 : decode cX10_leastReady 16 = .ok (.iconst 1, 1) := by decide +kernel
theorem dX10_leastReady_17 : decode cX10_leastReady 17 = .ok (.iand, 1) := by decide +kernel
theorem dX10_leastReady_18 : decode cX10_leastReady 18 = .ok (.ifCond .ne 17, 3) := by decide +kernel
theorem dX10_leastReady_21 : decode cX10_leastReady 21 = .ok (.aload_n 0, 1) := by decide +kernel
theorem dX10_leastReady_22 : decode cX10_leastReady 22 = .ok (.getfield 34, 3) := by decide +kernel
theorem dX10_leastReady_25 : decode cX10_leastReady 25 = .ok (.iload_n 2, 1) := by decide +kernel
theorem dX10_leastReady_26 : decode cX10_leastReady 26 = .ok (.iload_n 1, 1) := by decide +kernel
theorem dX10_leastReady_27 : decode cX10_leastReady 27 = .ok (.invokevirtual 74, 3) := by decide +kernel
theorem dX10_leastReady_30 : decode cX10_leastReady 30 = .ok (.ifCond .eq 5, 3) := by decide +kernel
theorem dX10_leastReady_33 : decode cX10_leastReady 33 = .ok (.iload_n 2, 1) := by decide +kernel
theorem dX10_leastReady_34 : decode cX10_leastReady 34 = .ok (.ireturn, 1) := by decide +kernel
theorem dX10_leastReady_35 : decode cX10_leastReady 35 = .ok (.iinc 2 1, 3) := by decide +kernel
theorem dX10_leastReady_38 : decode cX10_leastReady 38 = .ok (.goto (-36), 3) := by decide +kernel
theorem dX10_leastReady_41 : decode cX10_leastReady 41 = .ok (.iconst (-1), 1) := by decide +kernel
theorem dX10_leastReady_42 : decode cX10_leastReady 42 = .ok (.ireturn, 1) := by decide +kernel
theorem s86_0 : aW d 86 0 L S h Q = aW d 86 1 L (.int (nI 0) :: S) h Q := ax_iconst mt86 dX10_leastReady_0 ic_0
theorem s86_1 : aW d 86 1 [l0, l1, l2] (.int a :: S) h Q = aW d 86 2 [l0, l1, .int a] S h Q := ax_istore_n mt86 dX10_leastReady_1 (Nat.le_of_ble_eq_true rfl) rfl
theorem s86_2 : aW d 86 2 [l0, l1, .int a] S h Q = aW d 86 3 [l0, l1, .int a] (.int a :: S) h Q := ax_iload_n mt86 dX10_leastReady_2 rfl
theorem s86_3 : aW d 86 3 [.ref o, l1, l2] S h Q = aW d 86 4 [.ref o, l1, l2] (.ref o :: S) h Q := ax_aload_n mt86 dX10_leastReady_3 rfl
theorem s86_4 (hT : gT h o = some (12, 9)) : aW d 86 4 L (.ref o :: S) h Q = (isRf (gR h o 1) = true ∧ aW d 86 7 L (gR h o 1 :: S) h Q) := ax_geta mt86 dX10_leastReady_4 (by decide) ft_40994 fk_40994 hT
theorem s86_7 (hT : gT h o = some (8, 12)) : aW d 86 7 L (.ref o :: S) h Q = aW d 86 10 L (.int (gI h o 6) :: S) h Q := ax_geti mt86 dX10_leastReady_7 (by decide) ft_41038 fk_41038 hT
theorem s86_10 : aW d 86 10 L (.int b :: .int a :: S) h Q = (if a < b then aW d 86 13 L S h Q else aW d 86 41 L S h Q) := ax_icmp_ge mt86 dX10_leastReady_10 (by decide)
theorem s86_13 : aW d 86 13 [l0, .int a, l2] S h Q = aW d 86 14 [l0, .int a, l2] (.int a :: S) h Q := ax_iload_n mt86 dX10_leastReady_13 rfl
theorem s86_14 : aW d 86 14 [l0, l1, .int a] S h Q = aW d 86 15 [l0, l1, .int a] (.int a :: S) h Q := ax_iload_n mt86 dX10_leastReady_14 rfl
theorem s86_15 : aW d 86 15 L (.int b :: .int a :: S) h Q = aW d 86 16 L (.int (a >>> (b &&& 31)) :: S) h Q := ax_ishr mt86 dX10_leastReady_15
theorem s86_16 : aW d 86 16 L S h Q = aW d 86 17 L (.int (nI 1) :: S) h Q := ax_iconst mt86 dX10_leastReady_16 ic_1
theorem s86_17 : aW d 86 17 L (.int b :: .int a :: S) h Q = aW d 86 18 L (.int (a &&& b) :: S) h Q := ax_iand mt86 dX10_leastReady_17
theorem s86_18 : aW d 86 18 L (.int a :: S) h Q = (if a = 0 then aW d 86 21 L S h Q else aW d 86 35 L S h Q) := ax_if_ne mt86 dX10_leastReady_18 (by decide)
theorem s86_21 : aW d 86 21 [.ref o, l1, l2] S h Q = aW d 86 22 [.ref o, l1, l2] (.ref o :: S) h Q := ax_aload_n mt86 dX10_leastReady_21 rfl
theorem s86_22 (hT : gT h o = some (12, 9)) : aW d 86 22 L (.ref o :: S) h Q = (isRf (gR h o 1) = true ∧ aW d 86 25 L (gR h o 1 :: S) h Q) := ax_geta mt86 dX10_leastReady_22 (by decide) ft_40994 fk_40994 hT
theorem s86_25 : aW d 86 25 [l0, l1, .int a] S h Q = aW d 86 26 [l0, l1, .int a] (.int a :: S) h Q := ax_iload_n mt86 dX10_leastReady_25 rfl
theorem s86_26 : aW d 86 26 [l0, .int a, l2] S h Q = aW d 86 27 [l0, .int a, l2] (.int a :: S) h Q := ax_iload_n mt86 dX10_leastReady_26 rfl
theorem s86_27 (hT : gT h o = some (8, 12)) : aW (d + 1) 86 27 L (.int x1 :: .int x0 :: .ref o :: []) h Q = aM d 54 (.ref o :: [.int x0, .int x1]) h (fun v h1 => aW (d + 1) 86 30 L (ab_ps v []) h1 Q) := ax_invv mt86 dX10_leastReady_27 (by decide) ct_41034 (.inl rfl) mt54 ⟨⟨Nat.le_of_ble_eq_true rfl, Nat.le_of_ble_eq_true rfl, Nat.le_of_ble_eq_true rfl⟩, rfl, rfl, rfl⟩ hT
theorem s86_30 : aW d 86 30 L (.int a :: S) h Q = (if a = 0 then aW d 86 35 L S h Q else aW d 86 33 L S h Q) := ax_if_eq mt86 dX10_leastReady_30 (by decide)
theorem s86_33 : aW d 86 33 [l0, l1, .int a] S h Q = aW d 86 34 [l0, l1, .int a] (.int a :: S) h Q := ax_iload_n mt86 dX10_leastReady_33 rfl
theorem s86_34 : aW d 86 34 L [.int a] h Q = Q (some (.int a)) h := ax_reti mt86 dX10_leastReady_34 rfl
theorem s86_35 : aW d 86 35 [l0, l1, .int a] S h Q = aW d 86 38 [l0, l1, .int (a + nI 1)] S h Q := ax_iinc mt86 dX10_leastReady_35 rfl ic_1 rfl
theorem s86_38 : aW d 86 38 L S h Q = aW d 86 2 L S h Q := ax_goto mt86 dX10_leastReady_38 (by decide)
theorem s86_41 : aW d 86 41 L S h Q = aW d 86 42 L (.int ((-1)) :: S) h Q := ax_iconst mt86 dX10_leastReady_41 ic_m1
theorem s86_42 : aW d 86 42 L [.int a] h Q = Q (some (.int a)) h := ax_reti mt86 dX10_leastReady_42 rfl
-- method 87: BufferRoom$Timeline.findLives()V
theorem dX10_findLives_0 : decode cX10_findLives 0 = .ok (.iconst 0, 1) := by decide +kernel
theorem dX10_findLives_1 : decode cX10_findLives 1 = .ok (.istore_n 1, 1) := by decide +kernel
theorem dX10_findLives_2 : decode cX10_findLives 2 = .ok (.iload_n 1, 1) := by decide +kernel
theorem dX10_findLives_3 : decode cX10_findLives 3 = .ok (.bipush 12, 2) := by decide +kernel
theorem dX10_findLives_5 : decode cX10_findLives 5 = .ok (.if_icmp .ge 23, 3) := by decide +kernel
theorem dX10_findLives_8 : decode cX10_findLives 8 = .ok (.aload_n 0, 1) := by decide +kernel
theorem dX10_findLives_9 : decode cX10_findLives 9 = .ok (.getfield 28, 3) := by decide +kernel
theorem dX10_findLives_12 : decode cX10_findLives 12 = .ok (.iload_n 1, 1) := by decide +kernel
theorem dX10_findLives_13 : decode cX10_findLives 13 = .ok (.iconst 0, 1) := by decide +kernel
theorem dX10_findLives_14 : decode cX10_findLives 14 = .ok (.iastore, 1) := by decide +kernel
theorem dX10_findLives_15 : decode cX10_findLives 15 = .ok (.aload_n 0, 1) := by decide +kernel
theorem dX10_findLives_16 : decode cX10_findLives 16 = .ok (.getfield 31, 3) := by decide +kernel
theorem dX10_findLives_19 : decode cX10_findLives 19 = .ok (.iload_n 1, 1) := by decide +kernel
theorem dX10_findLives_20 : decode cX10_findLives 20 = .ok (.iconst (-1), 1) := by decide +kernel
theorem dX10_findLives_21 : decode cX10_findLives 21 = .ok (.iastore, 1) := by decide +kernel
theorem dX10_findLives_22 : decode cX10_findLives 22 = .ok (.iinc 1 1, 3) := by decide +kernel
theorem dX10_findLives_25 : decode cX10_findLives 25 = .ok (.goto (-23), 3) := by decide +kernel
theorem dX10_findLives_28 : decode cX10_findLives 28 = .ok (.iconst 0, 1) := by decide +kernel
theorem dX10_findLives_29 : decode cX10_findLives 29 = .ok (.istore_n 1, 1) := by decide +kernel
theorem dX10_findLives_30 : decode cX10_findLives 30 = .ok (.iload_n 1, 1) := by decide +kernel
theorem dX10_findLives_31 : decode cX10_findLives 31 = .ok (.aload_n 0, 1) := by decide +kernel
theorem dX10_findLives_32 : decode cX10_findLives 32 = .ok (.getfield 34, 3) := by decide +kernel
theorem dX10_findLives_35 : decode cX10_findLives 35 = .ok (.getfield 78, 3) := by decide +kernel
theorem dX10_findLives_38 : decode cX10_findLives 38 = .ok (.if_icmp .ge 88, 3) := by decide +kernel
theorem dX10_findLives_41 : decode cX10_findLives 41 = .ok (.aload_n 0, 1) := by decide +kernel
theorem dX10_findLives_42 : decode cX10_findLives 42 = .ok (.getfield 18, 3) := by decide +kernel
theorem dX10_findLives_45 : decode cX10_findLives 45 = .ok (.iload_n 1, 1) := by decide +kernel
theorem dX10_findLives_46 : decode cX10_findLives 46 = .ok (.iaload, 1) := by decide +kernel
theorem dX10_findLives_47 : decode cX10_findLives 47 = .ok (.istore_n 2, 1) := by decide +kernel
theorem dX10_findLives_48 : decode cX10_findLives 48 = .ok (.aload_n 0, 1) := by decide +kernel
theorem dX10_findLives_49 : decode cX10_findLives 49 = .ok (.getfield 28, 3) := by decide +kernel
theorem dX10_findLives_52 : decode cX10_findLives 52 = .ok (.aload_n 0, 1) := by decide +kernel
theorem dX10_findLives_53 : decode cX10_findLives 53 = .ok (.getfield 34, 3) := by decide +kernel
theorem dX10_findLives_56 : decode cX10_findLives 56 = .ok (.getfield 85, 3) := by decide +kernel
theorem dX10_findLives_59 : decode cX10_findLives 59 = .ok (.iload_n 2, 1) := by decide +kernel
theorem dX10_findLives_60 : decode cX10_findLives 60 = .ok (.iaload, 1) := by decide +kernel
theorem dX10_findLives_61 : decode cX10_findLives 61 = .ok (.iload_n 1, 1) := by decide +kernel
theorem dX10_findLives_62 : decode cX10_findLives 62 = .ok (.iastore, 1) := by decide +kernel
theorem dX10_findLives_63 : decode cX10_findLives 63 = .ok (.aload_n 0, 1) := by decide +kernel
theorem dX10_findLives_64 : decode cX10_findLives 64 = .ok (.getfield 31, 3) := by decide +kernel
theorem dX10_findLives_67 : decode cX10_findLives 67 = .ok (.aload_n 0, 1) := by decide +kernel
theorem dX10_findLives_68 : decode cX10_findLives 68 = .ok (.getfield 34, 3) := by decide +kernel
theorem dX10_findLives_71 : decode cX10_findLives 71 = .ok (.getfield 85, 3) := by decide +kernel
theorem dX10_findLives_74 : decode cX10_findLives 74 = .ok (.iload_n 2, 1) := by decide +kernel
theorem dX10_findLives_75 : decode cX10_findLives 75 = .ok (.iaload, 1) := by decide +kernel
theorem dX10_findLives_76 : decode cX10_findLives 76 = .ok (.iload_n 1, 1) := by decide +kernel
theorem dX10_findLives_77 : decode cX10_findLives 77 = .ok (.iastore, 1) := by decide +kernel
theorem dX10_findLives_78 : decode cX10_findLives 78 = .ok (.iload_n 2, 1) := by decide +kernel
theorem dX10_findLives_79 : decode cX10_findLives 79 = .ok (.iconst 4, 1) := by decide +kernel
theorem dX10_findLives_80 : decode cX10_findLives 80 = .ok (.imul, 1) := by decide +kernel
theorem dX10_findLives_81 : decode cX10_findLives 81 = .ok (.istore_n 3, 1) := by decide +kernel
theorem dX10_findLives_82 : decode cX10_findLives 82 = .ok (.iload_n 3, 1) := by decide +kernel
theorem dX10_findLives_83 : decode cX10_findLives 83 = .ok (.iload_n 2, 1) := by decide +kernel
theorem dX10_findLives_84 : decode cX10_findLives 84 = .ok (.iconst 4, 1) := by decide +kernel
theorem dX10_findLives_85 : decode cX10_findLives 85 = .ok (.imul, 1) := by decide +kernel
theorem dX10_findLives_86 : decode cX10_findLives 86 = .ok (.aload_n 0, 1) := by decide +kernel
theorem dX10_findLives_87 : decode cX10_findLives 87 = .ok (.getfield 34, 3) := by decide +kernel
theorem dX10_findLives_90 : decode cX10_findLives 90 = .ok (.getfield 88, 3) := by decide +kernel
theorem dX10_findLives_93 : decode cX10_findLives 93 = .ok (.iload_n 2, 1) := by decide +kernel
theorem dX10_findLives_94 : decode cX10_findLives 94 = .ok (.iaload, 1) := by decide +kernel
theorem dX10_findLives_95 : decode cX10_findLives 95 = .ok (.iadd, 1) := by decide +kernel
theorem dX10_findLives_96 : decode cX10_findLives 96 = .ok (.if_icmp .ge 24, 3) := by decide +kernel
theorem dX10_findLives_99 : decode cX10_findLives 99 = .ok (.aload_n 0, 1) := by decide +kernel
theorem dX10_findLives_100 : decode cX10_findLives 100 = .ok (.getfield 31, 3) := by decide +kernel
theorem dX10_findLives_103 : decode cX10_findLives 103 = .ok (.aload_n 0, 1) := by decide +kernel
theorem dX10_findLives_104 : decode cX10_findLives 104 = .ok (.getfield 34, 3) := by decide +kernel
theorem dX10_findLives_107 : decode cX10_findLives 107 = .ok (.getfield 91, 3) := by decide +kernel
theorem dX10_findLives_110 : decode cX10_findLives 110 = .ok (.iload_n 3, 1) := by decide +kernel
theorem dX10_findLives_111 : decode cX10_findLives 111 = .ok (.iaload, 1) := by decide +kernel
theorem dX10_findLives_112 : decode cX10_findLives 112 = .ok (.iload_n 1, 1) := by decide +kernel
theorem dX10_findLives_113 : decode cX10_findLives 113 = .ok (.iastore, 1) := by decide +kernel
theorem dX10_findLives_114 : decode cX10_findLives 114 = .ok (.iinc 3 1, 3) := by decide +kernel
theorem dX10_findLives_117 : decode cX10_findLives 117 = .ok (.goto (-35), 3) := by decide +kernel
theorem dX10_findLives_120 : decode cX10_findLives 120 = .ok (.iinc 1 1, 3) := by decide +kernel
theorem dX10_findLives_123 : decode cX10_findLives 123 = .ok (.goto (-93), 3) := by decide +kernel
theorem dX10_findLives_126 : decode cX10_findLives 126 = .ok (.iconst 0, 1) := by decide +kernel
theorem dX10_findLives_127 : decode cX10_findLives 127 = .ok (.istore_n 1, 1) := by decide +kernel
theorem dX10_findLives_128 : decode cX10_findLives 128 = .ok (.iload_n 1, 1) := by decide +kernel
theorem dX10_findLives_129 : decode cX10_findLives 129 = .ok (.bipush 12, 2) := by decide +kernel
theorem dX10_findLives_131 : decode cX10_findLives 131 = .ok (.if_icmp .ge 36, 3) := by decide +kernel
theorem dX10_findLives_134 : decode cX10_findLives 134 = .ok (.aload_n 0, 1) := by decide +kernel
theorem dX10_findLives_135 : decode cX10_findLives 135 = .ok (.getfield 34, 3) := by decide +kernel
theorem dX10_findLives_138 : decode cX10_findLives 138 = .ok (.getfield 94, 3) := by decide +kernel
theorem dX10_findLives_141 : decode cX10_findLives 141 = .ok (.iload_n 1, 1) := by decide +kernel
theorem dX10_findLives_142 : decode cX10_findLives 142 = .ok (.baload, 1) := by decide +kernel
theorem dX10_findLives_143 : decode cX10_findLives 143 = .ok (.ifCond .eq 18, 3) := by decide +kernel
theorem dX10_findLives_146 : decode cX10_findLives 146 = .ok (.aload_n 0, 1) := by decide +kernel
theorem dX10_findLives_147 : decode cX10_findLives 147 = .ok (.getfield 31, 3) := by decide +kernel
theorem dX10_findLives_150 : decode cX10_findLives 150 = .ok (.iload_n 1, 1) := by decide +kernel
theorem dX10_findLives_151 : decode cX10_findLives 151 = .ok (.aload_n 0, 1) := by decide +kernel
theorem dX10_findLives_152 : decode cX10_findLives 152 = .ok (.getfield 34, 3) := by decide +kernel
theorem dX10_findLives_155 : decode cX10_findLives 155 = .ok (.getfield 78, 3) := by decide +kernel
theorem dX10_findLives_158 : decode cX10_findLives 158 = .ok (.iconst 1, 1) := by decide +kernel
theorem dX10_findLives_159 : decode cX10_findLives 159 = .ok (.isub, 1) := by decide +kernel
theorem dX10_findLives_160 : decode cX10_findLives 160 = .ok (.iastore, 1) := by decide +kernel
theorem dX10_findLives_161 : decode cX10_findLives 161 = .ok (.iinc 1 1, 3) := by decide +kernel
theorem dX10_findLives_164 : decode cX10_findLives 164 = .ok (.goto (-36), 3) := by decide +kernel
theorem dX10_findLives_167 : decode cX10_findLives 167 = .ok (.return_, 1) := by decide +kernel
theorem s87_0 : aW d 87 0 L S h Q = aW d 87 1 L (.int (nI 0) :: S) h Q := ax_iconst mt87 dX10_findLives_0 ic_0
theorem s87_1 : aW d 87 1 [l0, l1, l2, l3] (.int a :: S) h Q = aW d 87 2 [l0, .int a, l2, l3] S h Q := ax_istore_n mt87 dX10_findLives_1 (Nat.le_of_ble_eq_true rfl) rfl
theorem s87_2 : aW d 87 2 [l0, .int a, l2, l3] S h Q = aW d 87 3 [l0, .int a, l2, l3] (.int a :: S) h Q := ax_iload_n mt87 dX10_findLives_2 rfl
theorem s87_3 : aW d 87 3 L S h Q = aW d 87 5 L (.int (nI 12) :: S) h Q := ax_bipush mt87 dX10_findLives_3 bp_12
theorem s87_5 : aW d 87 5 L (.int b :: .int a :: S) h Q = (if a < b then aW d 87 8 L S h Q else aW d 87 28 L S h Q) := ax_icmp_ge mt87 dX10_findLives_5 (by decide)
theorem s87_8 : aW d 87 8 [.ref o, l1, l2, l3] S h Q = aW d 87 9 [.ref o, l1, l2, l3] (.ref o :: S) h Q := ax_aload_n mt87 dX10_findLives_8 rfl
theorem s87_9 (hT : gT h o = some (12, 9)) : aW d 87 9 L (.ref o :: S) h Q = (isRf (gR h o 7) = true ∧ aW d 87 12 L (gR h o 7 :: S) h Q) := ax_geta mt87 dX10_findLives_9 (by decide) ft_40988 fk_40988 hT
theorem s87_12 : aW d 87 12 [l0, .int a, l2, l3] S h Q = aW d 87 13 [l0, .int a, l2, l3] (.int a :: S) h Q := ax_iload_n mt87 dX10_findLives_12 rfl
theorem s87_13 : aW d 87 13 L S h Q = aW d 87 14 L (.int (nI 0) :: S) h Q := ax_iconst mt87 dX10_findLives_13 ic_0
theorem s87_14 : aW d 87 14 L (.int b :: .int a :: .ref o :: S) h Q = (inb a (aJ h o) ∧ aW d 87 15 L S (pI h o a.toNatClampNeg b) Q) := ax_iast mt87 dX10_findLives_14
theorem s87_15 : aW d 87 15 [.ref o, l1, l2, l3] S h Q = aW d 87 16 [.ref o, l1, l2, l3] (.ref o :: S) h Q := ax_aload_n mt87 dX10_findLives_15 rfl
theorem s87_16 (hT : gT h o = some (12, 9)) : aW d 87 16 L (.ref o :: S) h Q = (isRf (gR h o 8) = true ∧ aW d 87 19 L (gR h o 8 :: S) h Q) := ax_geta mt87 dX10_findLives_16 (by decide) ft_40991 fk_40991 hT
theorem s87_19 : aW d 87 19 [l0, .int a, l2, l3] S h Q = aW d 87 20 [l0, .int a, l2, l3] (.int a :: S) h Q := ax_iload_n mt87 dX10_findLives_19 rfl
theorem s87_20 : aW d 87 20 L S h Q = aW d 87 21 L (.int ((-1)) :: S) h Q := ax_iconst mt87 dX10_findLives_20 ic_m1
theorem s87_21 : aW d 87 21 L (.int b :: .int a :: .ref o :: S) h Q = (inb a (aJ h o) ∧ aW d 87 22 L S (pI h o a.toNatClampNeg b) Q) := ax_iast mt87 dX10_findLives_21
theorem s87_22 : aW d 87 22 [l0, .int a, l2, l3] S h Q = aW d 87 25 [l0, .int (a + nI 1), l2, l3] S h Q := ax_iinc mt87 dX10_findLives_22 rfl ic_1 rfl
theorem s87_25 : aW d 87 25 L S h Q = aW d 87 2 L S h Q := ax_goto mt87 dX10_findLives_25 (by decide)
theorem s87_28 : aW d 87 28 L S h Q = aW d 87 29 L (.int (nI 0) :: S) h Q := ax_iconst mt87 dX10_findLives_28 ic_0
theorem s87_29 : aW d 87 29 [l0, l1, l2, l3] (.int a :: S) h Q = aW d 87 30 [l0, .int a, l2, l3] S h Q := ax_istore_n mt87 dX10_findLives_29 (Nat.le_of_ble_eq_true rfl) rfl
theorem s87_30 : aW d 87 30 [l0, .int a, l2, l3] S h Q = aW d 87 31 [l0, .int a, l2, l3] (.int a :: S) h Q := ax_iload_n mt87 dX10_findLives_30 rfl
theorem s87_31 : aW d 87 31 [.ref o, l1, l2, l3] S h Q = aW d 87 32 [.ref o, l1, l2, l3] (.ref o :: S) h Q := ax_aload_n mt87 dX10_findLives_31 rfl
theorem s87_32 (hT : gT h o = some (12, 9)) : aW d 87 32 L (.ref o :: S) h Q = (isRf (gR h o 1) = true ∧ aW d 87 35 L (gR h o 1 :: S) h Q) := ax_geta mt87 dX10_findLives_32 (by decide) ft_40994 fk_40994 hT
theorem s87_35 (hT : gT h o = some (8, 12)) : aW d 87 35 L (.ref o :: S) h Q = aW d 87 38 L (.int (gI h o 6) :: S) h Q := ax_geti mt87 dX10_findLives_35 (by decide) ft_41038 fk_41038 hT
theorem s87_38 : aW d 87 38 L (.int b :: .int a :: S) h Q = (if a < b then aW d 87 41 L S h Q else aW d 87 126 L S h Q) := ax_icmp_ge mt87 dX10_findLives_38 (by decide)
theorem s87_41 : aW d 87 41 [.ref o, l1, l2, l3] S h Q = aW d 87 42 [.ref o, l1, l2, l3] (.ref o :: S) h Q := ax_aload_n mt87 dX10_findLives_41 rfl
theorem s87_42 (hT : gT h o = some (12, 9)) : aW d 87 42 L (.ref o :: S) h Q = (isRf (gR h o 4) = true ∧ aW d 87 45 L (gR h o 4 :: S) h Q) := ax_geta mt87 dX10_findLives_42 (by decide) ft_40978 fk_40978 hT
theorem s87_45 : aW d 87 45 [l0, .int a, l2, l3] S h Q = aW d 87 46 [l0, .int a, l2, l3] (.int a :: S) h Q := ax_iload_n mt87 dX10_findLives_45 rfl
theorem s87_46 : aW d 87 46 L (.int a :: .ref o :: S) h Q = (inb a (aI h o) ∧ aW d 87 47 L (.int (gI h o a.toNatClampNeg) :: S) h Q) := ax_iald mt87 dX10_findLives_46
theorem s87_47 : aW d 87 47 [l0, l1, l2, l3] (.int a :: S) h Q = aW d 87 48 [l0, l1, .int a, l3] S h Q := ax_istore_n mt87 dX10_findLives_47 (Nat.le_of_ble_eq_true rfl) rfl
theorem s87_48 : aW d 87 48 [.ref o, l1, l2, l3] S h Q = aW d 87 49 [.ref o, l1, l2, l3] (.ref o :: S) h Q := ax_aload_n mt87 dX10_findLives_48 rfl
theorem s87_49 (hT : gT h o = some (12, 9)) : aW d 87 49 L (.ref o :: S) h Q = (isRf (gR h o 7) = true ∧ aW d 87 52 L (gR h o 7 :: S) h Q) := ax_geta mt87 dX10_findLives_49 (by decide) ft_40988 fk_40988 hT
theorem s87_52 : aW d 87 52 [.ref o, l1, l2, l3] S h Q = aW d 87 53 [.ref o, l1, l2, l3] (.ref o :: S) h Q := ax_aload_n mt87 dX10_findLives_52 rfl
theorem s87_53 (hT : gT h o = some (12, 9)) : aW d 87 53 L (.ref o :: S) h Q = (isRf (gR h o 1) = true ∧ aW d 87 56 L (gR h o 1 :: S) h Q) := ax_geta mt87 dX10_findLives_53 (by decide) ft_40994 fk_40994 hT
theorem s87_56 (hT : gT h o = some (8, 12)) : aW d 87 56 L (.ref o :: S) h Q = (isRf (gR h o 9) = true ∧ aW d 87 59 L (gR h o 9 :: S) h Q) := ax_geta mt87 dX10_findLives_56 (by decide) ft_41045 fk_41045 hT
theorem s87_59 : aW d 87 59 [l0, l1, .int a, l3] S h Q = aW d 87 60 [l0, l1, .int a, l3] (.int a :: S) h Q := ax_iload_n mt87 dX10_findLives_59 rfl
theorem s87_60 : aW d 87 60 L (.int a :: .ref o :: S) h Q = (inb a (aI h o) ∧ aW d 87 61 L (.int (gI h o a.toNatClampNeg) :: S) h Q) := ax_iald mt87 dX10_findLives_60
theorem s87_61 : aW d 87 61 [l0, .int a, l2, l3] S h Q = aW d 87 62 [l0, .int a, l2, l3] (.int a :: S) h Q := ax_iload_n mt87 dX10_findLives_61 rfl
theorem s87_62 : aW d 87 62 L (.int b :: .int a :: .ref o :: S) h Q = (inb a (aJ h o) ∧ aW d 87 63 L S (pI h o a.toNatClampNeg b) Q) := ax_iast mt87 dX10_findLives_62
theorem s87_63 : aW d 87 63 [.ref o, l1, l2, l3] S h Q = aW d 87 64 [.ref o, l1, l2, l3] (.ref o :: S) h Q := ax_aload_n mt87 dX10_findLives_63 rfl
theorem s87_64 (hT : gT h o = some (12, 9)) : aW d 87 64 L (.ref o :: S) h Q = (isRf (gR h o 8) = true ∧ aW d 87 67 L (gR h o 8 :: S) h Q) := ax_geta mt87 dX10_findLives_64 (by decide) ft_40991 fk_40991 hT
theorem s87_67 : aW d 87 67 [.ref o, l1, l2, l3] S h Q = aW d 87 68 [.ref o, l1, l2, l3] (.ref o :: S) h Q := ax_aload_n mt87 dX10_findLives_67 rfl
theorem s87_68 (hT : gT h o = some (12, 9)) : aW d 87 68 L (.ref o :: S) h Q = (isRf (gR h o 1) = true ∧ aW d 87 71 L (gR h o 1 :: S) h Q) := ax_geta mt87 dX10_findLives_68 (by decide) ft_40994 fk_40994 hT
theorem s87_71 (hT : gT h o = some (8, 12)) : aW d 87 71 L (.ref o :: S) h Q = (isRf (gR h o 9) = true ∧ aW d 87 74 L (gR h o 9 :: S) h Q) := ax_geta mt87 dX10_findLives_71 (by decide) ft_41045 fk_41045 hT
theorem s87_74 : aW d 87 74 [l0, l1, .int a, l3] S h Q = aW d 87 75 [l0, l1, .int a, l3] (.int a :: S) h Q := ax_iload_n mt87 dX10_findLives_74 rfl
theorem s87_75 : aW d 87 75 L (.int a :: .ref o :: S) h Q = (inb a (aI h o) ∧ aW d 87 76 L (.int (gI h o a.toNatClampNeg) :: S) h Q) := ax_iald mt87 dX10_findLives_75
theorem s87_76 : aW d 87 76 [l0, .int a, l2, l3] S h Q = aW d 87 77 [l0, .int a, l2, l3] (.int a :: S) h Q := ax_iload_n mt87 dX10_findLives_76 rfl
theorem s87_77 : aW d 87 77 L (.int b :: .int a :: .ref o :: S) h Q = (inb a (aJ h o) ∧ aW d 87 78 L S (pI h o a.toNatClampNeg b) Q) := ax_iast mt87 dX10_findLives_77
theorem s87_78 : aW d 87 78 [l0, l1, .int a, l3] S h Q = aW d 87 79 [l0, l1, .int a, l3] (.int a :: S) h Q := ax_iload_n mt87 dX10_findLives_78 rfl
theorem s87_79 : aW d 87 79 L S h Q = aW d 87 80 L (.int (nI 4) :: S) h Q := ax_iconst mt87 dX10_findLives_79 ic_4
theorem s87_80 : aW d 87 80 L (.int b :: .int a :: S) h Q = aW d 87 81 L (.int (a * b) :: S) h Q := ax_imul mt87 dX10_findLives_80
theorem s87_81 : aW d 87 81 [l0, l1, l2, l3] (.int a :: S) h Q = aW d 87 82 [l0, l1, l2, .int a] S h Q := ax_istore_n mt87 dX10_findLives_81 (Nat.le_of_ble_eq_true rfl) rfl
theorem s87_82 : aW d 87 82 [l0, l1, l2, .int a] S h Q = aW d 87 83 [l0, l1, l2, .int a] (.int a :: S) h Q := ax_iload_n mt87 dX10_findLives_82 rfl
theorem s87_83 : aW d 87 83 [l0, l1, .int a, l3] S h Q = aW d 87 84 [l0, l1, .int a, l3] (.int a :: S) h Q := ax_iload_n mt87 dX10_findLives_83 rfl
theorem s87_84 : aW d 87 84 L S h Q = aW d 87 85 L (.int (nI 4) :: S) h Q := ax_iconst mt87 dX10_findLives_84 ic_4
theorem s87_85 : aW d 87 85 L (.int b :: .int a :: S) h Q = aW d 87 86 L (.int (a * b) :: S) h Q := ax_imul mt87 dX10_findLives_85
theorem s87_86 : aW d 87 86 [.ref o, l1, l2, l3] S h Q = aW d 87 87 [.ref o, l1, l2, l3] (.ref o :: S) h Q := ax_aload_n mt87 dX10_findLives_86 rfl
theorem s87_87 (hT : gT h o = some (12, 9)) : aW d 87 87 L (.ref o :: S) h Q = (isRf (gR h o 1) = true ∧ aW d 87 90 L (gR h o 1 :: S) h Q) := ax_geta mt87 dX10_findLives_87 (by decide) ft_40994 fk_40994 hT
theorem s87_90 (hT : gT h o = some (8, 12)) : aW d 87 90 L (.ref o :: S) h Q = (isRf (gR h o 10) = true ∧ aW d 87 93 L (gR h o 10 :: S) h Q) := ax_geta mt87 dX10_findLives_90 (by decide) ft_41048 fk_41048 hT
theorem s87_93 : aW d 87 93 [l0, l1, .int a, l3] S h Q = aW d 87 94 [l0, l1, .int a, l3] (.int a :: S) h Q := ax_iload_n mt87 dX10_findLives_93 rfl
theorem s87_94 : aW d 87 94 L (.int a :: .ref o :: S) h Q = (inb a (aI h o) ∧ aW d 87 95 L (.int (gI h o a.toNatClampNeg) :: S) h Q) := ax_iald mt87 dX10_findLives_94
theorem s87_95 : aW d 87 95 L (.int b :: .int a :: S) h Q = aW d 87 96 L (.int (a + b) :: S) h Q := ax_iadd mt87 dX10_findLives_95
theorem s87_96 : aW d 87 96 L (.int b :: .int a :: S) h Q = (if a < b then aW d 87 99 L S h Q else aW d 87 120 L S h Q) := ax_icmp_ge mt87 dX10_findLives_96 (by decide)
theorem s87_99 : aW d 87 99 [.ref o, l1, l2, l3] S h Q = aW d 87 100 [.ref o, l1, l2, l3] (.ref o :: S) h Q := ax_aload_n mt87 dX10_findLives_99 rfl
theorem s87_100 (hT : gT h o = some (12, 9)) : aW d 87 100 L (.ref o :: S) h Q = (isRf (gR h o 8) = true ∧ aW d 87 103 L (gR h o 8 :: S) h Q) := ax_geta mt87 dX10_findLives_100 (by decide) ft_40991 fk_40991 hT
theorem s87_103 : aW d 87 103 [.ref o, l1, l2, l3] S h Q = aW d 87 104 [.ref o, l1, l2, l3] (.ref o :: S) h Q := ax_aload_n mt87 dX10_findLives_103 rfl
theorem s87_104 (hT : gT h o = some (12, 9)) : aW d 87 104 L (.ref o :: S) h Q = (isRf (gR h o 1) = true ∧ aW d 87 107 L (gR h o 1 :: S) h Q) := ax_geta mt87 dX10_findLives_104 (by decide) ft_40994 fk_40994 hT
theorem s87_107 (hT : gT h o = some (8, 12)) : aW d 87 107 L (.ref o :: S) h Q = (isRf (gR h o 11) = true ∧ aW d 87 110 L (gR h o 11 :: S) h Q) := ax_geta mt87 dX10_findLives_107 (by decide) ft_41051 fk_41051 hT
theorem s87_110 : aW d 87 110 [l0, l1, l2, .int a] S h Q = aW d 87 111 [l0, l1, l2, .int a] (.int a :: S) h Q := ax_iload_n mt87 dX10_findLives_110 rfl
theorem s87_111 : aW d 87 111 L (.int a :: .ref o :: S) h Q = (inb a (aI h o) ∧ aW d 87 112 L (.int (gI h o a.toNatClampNeg) :: S) h Q) := ax_iald mt87 dX10_findLives_111
theorem s87_112 : aW d 87 112 [l0, .int a, l2, l3] S h Q = aW d 87 113 [l0, .int a, l2, l3] (.int a :: S) h Q := ax_iload_n mt87 dX10_findLives_112 rfl
theorem s87_113 : aW d 87 113 L (.int b :: .int a :: .ref o :: S) h Q = (inb a (aJ h o) ∧ aW d 87 114 L S (pI h o a.toNatClampNeg b) Q) := ax_iast mt87 dX10_findLives_113
theorem s87_114 : aW d 87 114 [l0, l1, l2, .int a] S h Q = aW d 87 117 [l0, l1, l2, .int (a + nI 1)] S h Q := ax_iinc mt87 dX10_findLives_114 rfl ic_1 rfl
theorem s87_117 : aW d 87 117 L S h Q = aW d 87 82 L S h Q := ax_goto mt87 dX10_findLives_117 (by decide)
theorem s87_120 : aW d 87 120 [l0, .int a, l2, l3] S h Q = aW d 87 123 [l0, .int (a + nI 1), l2, l3] S h Q := ax_iinc mt87 dX10_findLives_120 rfl ic_1 rfl
theorem s87_123 : aW d 87 123 L S h Q = aW d 87 30 L S h Q := ax_goto mt87 dX10_findLives_123 (by decide)
theorem s87_126 : aW d 87 126 L S h Q = aW d 87 127 L (.int (nI 0) :: S) h Q := ax_iconst mt87 dX10_findLives_126 ic_0
theorem s87_127 : aW d 87 127 [l0, l1, l2, l3] (.int a :: S) h Q = aW d 87 128 [l0, .int a, l2, l3] S h Q := ax_istore_n mt87 dX10_findLives_127 (Nat.le_of_ble_eq_true rfl) rfl
theorem s87_128 : aW d 87 128 [l0, .int a, l2, l3] S h Q = aW d 87 129 [l0, .int a, l2, l3] (.int a :: S) h Q := ax_iload_n mt87 dX10_findLives_128 rfl
theorem s87_129 : aW d 87 129 L S h Q = aW d 87 131 L (.int (nI 12) :: S) h Q := ax_bipush mt87 dX10_findLives_129 bp_12
theorem s87_131 : aW d 87 131 L (.int b :: .int a :: S) h Q = (if a < b then aW d 87 134 L S h Q else aW d 87 167 L S h Q) := ax_icmp_ge mt87 dX10_findLives_131 (by decide)
theorem s87_134 : aW d 87 134 [.ref o, l1, l2, l3] S h Q = aW d 87 135 [.ref o, l1, l2, l3] (.ref o :: S) h Q := ax_aload_n mt87 dX10_findLives_134 rfl
theorem s87_135 (hT : gT h o = some (12, 9)) : aW d 87 135 L (.ref o :: S) h Q = (isRf (gR h o 1) = true ∧ aW d 87 138 L (gR h o 1 :: S) h Q) := ax_geta mt87 dX10_findLives_135 (by decide) ft_40994 fk_40994 hT
theorem s87_138 (hT : gT h o = some (8, 12)) : aW d 87 138 L (.ref o :: S) h Q = (isRf (gR h o 3) = true ∧ aW d 87 141 L (gR h o 3 :: S) h Q) := ax_geta mt87 dX10_findLives_138 (by decide) ft_41054 fk_41054 hT
theorem s87_141 : aW d 87 141 [l0, .int a, l2, l3] S h Q = aW d 87 142 [l0, .int a, l2, l3] (.int a :: S) h Q := ax_iload_n mt87 dX10_findLives_141 rfl
theorem s87_142 : aW d 87 142 L (.int a :: .ref o :: S) h Q = (inb a (aZ h o) ∧ aW d 87 143 L (.int (gI h o a.toNatClampNeg) :: S) h Q) := ax_zald mt87 dX10_findLives_142
theorem s87_143 : aW d 87 143 L (.int a :: S) h Q = (if a = 0 then aW d 87 161 L S h Q else aW d 87 146 L S h Q) := ax_if_eq mt87 dX10_findLives_143 (by decide)
theorem s87_146 : aW d 87 146 [.ref o, l1, l2, l3] S h Q = aW d 87 147 [.ref o, l1, l2, l3] (.ref o :: S) h Q := ax_aload_n mt87 dX10_findLives_146 rfl
theorem s87_147 (hT : gT h o = some (12, 9)) : aW d 87 147 L (.ref o :: S) h Q = (isRf (gR h o 8) = true ∧ aW d 87 150 L (gR h o 8 :: S) h Q) := ax_geta mt87 dX10_findLives_147 (by decide) ft_40991 fk_40991 hT
theorem s87_150 : aW d 87 150 [l0, .int a, l2, l3] S h Q = aW d 87 151 [l0, .int a, l2, l3] (.int a :: S) h Q := ax_iload_n mt87 dX10_findLives_150 rfl
theorem s87_151 : aW d 87 151 [.ref o, l1, l2, l3] S h Q = aW d 87 152 [.ref o, l1, l2, l3] (.ref o :: S) h Q := ax_aload_n mt87 dX10_findLives_151 rfl
theorem s87_152 (hT : gT h o = some (12, 9)) : aW d 87 152 L (.ref o :: S) h Q = (isRf (gR h o 1) = true ∧ aW d 87 155 L (gR h o 1 :: S) h Q) := ax_geta mt87 dX10_findLives_152 (by decide) ft_40994 fk_40994 hT
theorem s87_155 (hT : gT h o = some (8, 12)) : aW d 87 155 L (.ref o :: S) h Q = aW d 87 158 L (.int (gI h o 6) :: S) h Q := ax_geti mt87 dX10_findLives_155 (by decide) ft_41038 fk_41038 hT
theorem s87_158 : aW d 87 158 L S h Q = aW d 87 159 L (.int (nI 1) :: S) h Q := ax_iconst mt87 dX10_findLives_158 ic_1
theorem s87_159 : aW d 87 159 L (.int b :: .int a :: S) h Q = aW d 87 160 L (.int (a - b) :: S) h Q := ax_isub mt87 dX10_findLives_159
theorem s87_160 : aW d 87 160 L (.int b :: .int a :: .ref o :: S) h Q = (inb a (aJ h o) ∧ aW d 87 161 L S (pI h o a.toNatClampNeg b) Q) := ax_iast mt87 dX10_findLives_160
theorem s87_161 : aW d 87 161 [l0, .int a, l2, l3] S h Q = aW d 87 164 [l0, .int (a + nI 1), l2, l3] S h Q := ax_iinc mt87 dX10_findLives_161 rfl ic_1 rfl
theorem s87_164 : aW d 87 164 L S h Q = aW d 87 128 L S h Q := ax_goto mt87 dX10_findLives_164 (by decide)
theorem s87_167 : aW d 87 167 L [] h Q = Q none h := ax_retv mt87 dX10_findLives_167 rfl
-- method 88: BufferRoom$Timeline.findLoads()V
theorem dX10_findLoads_0 : decode cX10_findLoads 0 = .ok (.iconst 0, 1) := by decide +kernel
theorem dX10_findLoads_1 : decode cX10_findLoads 1 = .ok (.istore_n 1, 1) := by decide +kernel
theorem dX10_findLoads_2 : decode cX10_findLoads 2 = .ok (.iconst 0, 1) := by decide +kernel
theorem dX10_findLoads_3 : decode cX10_findLoads 3 = .ok (.istore_n 2, 1) := by decide +kernel
theorem dX10_findLoads_4 : decode cX10_findLoads 4 = .ok (.iload_n 2, 1) := by decide +kernel
theorem dX10_findLoads_5 : decode cX10_findLoads 5 = .ok (.aload_n 0, 1) := by decide +kernel
theorem dX10_findLoads_6 : decode cX10_findLoads 6 = .ok (.getfield 34, 3) := by decide +kernel
theorem dX10_findLoads_9 : decode cX10_findLoads 9 = .ok (.getfield 78, 3) := by decide +kernel
theorem dX10_findLoads_12 : decode cX10_findLoads 12 = .ok (.if_icmp .ge 60, 3) := by decide +kernel
theorem dX10_findLoads_15 : decode cX10_findLoads 15 = .ok (.aload_n 0, 1) := by decide +kernel
theorem dX10_findLoads_16 : decode cX10_findLoads 16 = .ok (.getfield 18, 3) := by decide +kernel
theorem dX10_findLoads_19 : decode cX10_findLoads 19 = .ok (.iload_n 2, 1) := by decide +kernel
theorem dX10_findLoads_20 : decode cX10_findLoads 20 = .ok (.iaload, 1) := by decide +kernel
theorem dX10_findLoads_21 : decode cX10_findLoads 21 = .ok (.istore_n 3, 1) := by decide +kernel
theorem dX10_findLoads_22 : decode cX10_findLoads 22 = .ok (.aload_n 0, 1) := by decide +kernel
theorem dX10_findLoads_23 : decode cX10_findLoads 23 = .ok (.getfield 22, 3) := by decide +kernel
theorem dX10_findLoads_26 : decode cX10_findLoads 26 = .ok (.iload_n 2, 1) := by decide +kernel
theorem dX10_findLoads_27 : decode cX10_findLoads 27 = .ok (.aload_n 0, 1) := by decide +kernel
theorem dX10_findLoads_28 : decode cX10_findLoads 28 = .ok (.getfield 12, 3) := by decide +kernel
theorem dX10_findLoads_31 : decode cX10_findLoads 31 = .ok (.iload_n 1, 1) := by decide +kernel
theorem dX10_findLoads_32 : decode cX10_findLoads 32 = .ok (.iload_n 3, 1) := by decide +kernel
theorem dX10_findLoads_33 : decode cX10_findLoads 33 = .ok (.invokevirtual 98, 3) := by decide +kernel
theorem dX10_findLoads_36 : decode cX10_findLoads 36 = .ok (.iastore, 1) := by decide +kernel
theorem dX10_findLoads_37 : decode cX10_findLoads 37 = .ok (.aload_n 0, 1) := by decide +kernel
theorem dX10_findLoads_38 : decode cX10_findLoads 38 = .ok (.getfield 25, 3) := by decide +kernel
theorem dX10_findLoads_41 : decode cX10_findLoads 41 = .ok (.iload_n 2, 1) := by decide +kernel
theorem dX10_findLoads_42 : decode cX10_findLoads 42 = .ok (.aload_n 0, 1) := by decide +kernel
theorem dX10_findLoads_43 : decode cX10_findLoads 43 = .ok (.getfield 12, 3) := by decide +kernel
theorem dX10_findLoads_46 : decode cX10_findLoads 46 = .ok (.iload_n 1, 1) := by decide +kernel
theorem dX10_findLoads_47 : decode cX10_findLoads 47 = .ok (.iload_n 3, 1) := by decide +kernel
theorem dX10_findLoads_48 : decode cX10_findLoads 48 = .ok (.aload_n 0, 1) := by decide +kernel
theorem dX10_findLoads_49 : decode cX10_findLoads 49 = .ok (.getfield 12, 3) := by decide +kernel
theorem dX10_findLoads_52 : decode cX10_findLoads 52 = .ok (.iload_n 1, 1) := by decide +kernel
theorem dX10_findLoads_53 : decode cX10_findLoads 53 = .ok (.invokevirtual 102, 3) := by decide +kernel
theorem dX10_findLoads_56 : decode cX10_findLoads 56 = .ok (.invokevirtual 105, 3) := by decide +kernel
theorem dX10_findLoads_59 : decode cX10_findLoads 59 = .ok (.iastore, 1) := by decide +kernel
theorem dX10_findLoads_60 : decode cX10_findLoads 60 = .ok (.iload_n 1, 1) := by decide +kernel
theorem dX10_findLoads_61 : decode cX10_findLoads 61 = .ok (.iconst 1, 1) := by decide +kernel
theorem dX10_findLoads_62 : decode cX10_findLoads 62 = .ok (.iload_n 3, 1) := by decide +kernel
theorem dX10_findLoads_63 : decode cX10_findLoads 63 = .ok (.ishl, 1) := by decide +kernel
theorem dX10_findLoads_64 : decode cX10_findLoads 64 = .ok (.ior, 1) := by decide +kernel
theorem dX10_findLoads_65 : decode cX10_findLoads 65 = .ok (.istore_n 1, 1) := by decide +kernel
theorem dX10_findLoads_66 : decode cX10_findLoads 66 = .ok (.iinc 2 1, 3) := by decide +kernel
theorem dX10_findLoads_69 : decode cX10_findLoads 69 = .ok (.goto (-65), 3) := by decide +kernel
theorem dX10_findLoads_72 : decode cX10_findLoads 72 = .ok (.return_, 1) := by decide +kernel
theorem s88_0 : aW d 88 0 L S h Q = aW d 88 1 L (.int (nI 0) :: S) h Q := ax_iconst mt88 dX10_findLoads_0 ic_0
theorem s88_1 : aW d 88 1 [l0, l1, l2, l3] (.int a :: S) h Q = aW d 88 2 [l0, .int a, l2, l3] S h Q := ax_istore_n mt88 dX10_findLoads_1 (Nat.le_of_ble_eq_true rfl) rfl
theorem s88_2 : aW d 88 2 L S h Q = aW d 88 3 L (.int (nI 0) :: S) h Q := ax_iconst mt88 dX10_findLoads_2 ic_0
theorem s88_3 : aW d 88 3 [l0, l1, l2, l3] (.int a :: S) h Q = aW d 88 4 [l0, l1, .int a, l3] S h Q := ax_istore_n mt88 dX10_findLoads_3 (Nat.le_of_ble_eq_true rfl) rfl
theorem s88_4 : aW d 88 4 [l0, l1, .int a, l3] S h Q = aW d 88 5 [l0, l1, .int a, l3] (.int a :: S) h Q := ax_iload_n mt88 dX10_findLoads_4 rfl
theorem s88_5 : aW d 88 5 [.ref o, l1, l2, l3] S h Q = aW d 88 6 [.ref o, l1, l2, l3] (.ref o :: S) h Q := ax_aload_n mt88 dX10_findLoads_5 rfl
theorem s88_6 (hT : gT h o = some (12, 9)) : aW d 88 6 L (.ref o :: S) h Q = (isRf (gR h o 1) = true ∧ aW d 88 9 L (gR h o 1 :: S) h Q) := ax_geta mt88 dX10_findLoads_6 (by decide) ft_40994 fk_40994 hT
theorem s88_9 (hT : gT h o = some (8, 12)) : aW d 88 9 L (.ref o :: S) h Q = aW d 88 12 L (.int (gI h o 6) :: S) h Q := ax_geti mt88 dX10_findLoads_9 (by decide) ft_41038 fk_41038 hT
theorem s88_12 : aW d 88 12 L (.int b :: .int a :: S) h Q = (if a < b then aW d 88 15 L S h Q else aW d 88 72 L S h Q) := ax_icmp_ge mt88 dX10_findLoads_12 (by decide)
theorem s88_15 : aW d 88 15 [.ref o, l1, l2, l3] S h Q = aW d 88 16 [.ref o, l1, l2, l3] (.ref o :: S) h Q := ax_aload_n mt88 dX10_findLoads_15 rfl
theorem s88_16 (hT : gT h o = some (12, 9)) : aW d 88 16 L (.ref o :: S) h Q = (isRf (gR h o 4) = true ∧ aW d 88 19 L (gR h o 4 :: S) h Q) := ax_geta mt88 dX10_findLoads_16 (by decide) ft_40978 fk_40978 hT
theorem s88_19 : aW d 88 19 [l0, l1, .int a, l3] S h Q = aW d 88 20 [l0, l1, .int a, l3] (.int a :: S) h Q := ax_iload_n mt88 dX10_findLoads_19 rfl
theorem s88_20 : aW d 88 20 L (.int a :: .ref o :: S) h Q = (inb a (aI h o) ∧ aW d 88 21 L (.int (gI h o a.toNatClampNeg) :: S) h Q) := ax_iald mt88 dX10_findLoads_20
theorem s88_21 : aW d 88 21 [l0, l1, l2, l3] (.int a :: S) h Q = aW d 88 22 [l0, l1, l2, .int a] S h Q := ax_istore_n mt88 dX10_findLoads_21 (Nat.le_of_ble_eq_true rfl) rfl
theorem s88_22 : aW d 88 22 [.ref o, l1, l2, l3] S h Q = aW d 88 23 [.ref o, l1, l2, l3] (.ref o :: S) h Q := ax_aload_n mt88 dX10_findLoads_22 rfl
theorem s88_23 (hT : gT h o = some (12, 9)) : aW d 88 23 L (.ref o :: S) h Q = (isRf (gR h o 5) = true ∧ aW d 88 26 L (gR h o 5 :: S) h Q) := ax_geta mt88 dX10_findLoads_23 (by decide) ft_40982 fk_40982 hT
theorem s88_26 : aW d 88 26 [l0, l1, .int a, l3] S h Q = aW d 88 27 [l0, l1, .int a, l3] (.int a :: S) h Q := ax_iload_n mt88 dX10_findLoads_26 rfl
theorem s88_27 : aW d 88 27 [.ref o, l1, l2, l3] S h Q = aW d 88 28 [.ref o, l1, l2, l3] (.ref o :: S) h Q := ax_aload_n mt88 dX10_findLoads_27 rfl
theorem s88_28 (hT : gT h o = some (12, 9)) : aW d 88 28 L (.ref o :: S) h Q = (isRf (gR h o 0) = true ∧ aW d 88 31 L (gR h o 0 :: S) h Q) := ax_geta mt88 dX10_findLoads_28 (by decide) ft_40972 fk_40972 hT
theorem s88_31 : aW d 88 31 [l0, .int a, l2, l3] S h Q = aW d 88 32 [l0, .int a, l2, l3] (.int a :: S) h Q := ax_iload_n mt88 dX10_findLoads_31 rfl
theorem s88_32 : aW d 88 32 [l0, l1, l2, .int a] S h Q = aW d 88 33 [l0, l1, l2, .int a] (.int a :: S) h Q := ax_iload_n mt88 dX10_findLoads_32 rfl
theorem s88_33 (hT : gT h o = some (5, 4)) : aW (d + 1) 88 33 L (.int x1 :: .int x0 :: .ref o :: [.int y0, .ref q1]) h Q = aM d 27 (.ref o :: [.int x0, .int x1]) h (fun v h1 => aW (d + 1) 88 36 L (ab_ps v [.int y0, .ref q1]) h1 Q) := ax_invv mt88 dX10_findLoads_33 (by decide) ct_41058 (.inl rfl) mt27 ⟨⟨Nat.le_of_ble_eq_true rfl, Nat.le_of_ble_eq_true rfl, Nat.le_of_ble_eq_true rfl⟩, rfl, rfl, rfl⟩ hT
theorem s88_36 : aW d 88 36 L (.int b :: .int a :: .ref o :: S) h Q = (inb a (aJ h o) ∧ aW d 88 37 L S (pI h o a.toNatClampNeg b) Q) := ax_iast mt88 dX10_findLoads_36
theorem s88_37 : aW d 88 37 [.ref o, l1, l2, l3] S h Q = aW d 88 38 [.ref o, l1, l2, l3] (.ref o :: S) h Q := ax_aload_n mt88 dX10_findLoads_37 rfl
theorem s88_38 (hT : gT h o = some (12, 9)) : aW d 88 38 L (.ref o :: S) h Q = (isRf (gR h o 6) = true ∧ aW d 88 41 L (gR h o 6 :: S) h Q) := ax_geta mt88 dX10_findLoads_38 (by decide) ft_40985 fk_40985 hT
theorem s88_41 : aW d 88 41 [l0, l1, .int a, l3] S h Q = aW d 88 42 [l0, l1, .int a, l3] (.int a :: S) h Q := ax_iload_n mt88 dX10_findLoads_41 rfl
theorem s88_42 : aW d 88 42 [.ref o, l1, l2, l3] S h Q = aW d 88 43 [.ref o, l1, l2, l3] (.ref o :: S) h Q := ax_aload_n mt88 dX10_findLoads_42 rfl
theorem s88_43 (hT : gT h o = some (12, 9)) : aW d 88 43 L (.ref o :: S) h Q = (isRf (gR h o 0) = true ∧ aW d 88 46 L (gR h o 0 :: S) h Q) := ax_geta mt88 dX10_findLoads_43 (by decide) ft_40972 fk_40972 hT
theorem s88_46 : aW d 88 46 [l0, .int a, l2, l3] S h Q = aW d 88 47 [l0, .int a, l2, l3] (.int a :: S) h Q := ax_iload_n mt88 dX10_findLoads_46 rfl
theorem s88_47 : aW d 88 47 [l0, l1, l2, .int a] S h Q = aW d 88 48 [l0, l1, l2, .int a] (.int a :: S) h Q := ax_iload_n mt88 dX10_findLoads_47 rfl
theorem s88_48 : aW d 88 48 [.ref o, l1, l2, l3] S h Q = aW d 88 49 [.ref o, l1, l2, l3] (.ref o :: S) h Q := ax_aload_n mt88 dX10_findLoads_48 rfl
theorem s88_49 (hT : gT h o = some (12, 9)) : aW d 88 49 L (.ref o :: S) h Q = (isRf (gR h o 0) = true ∧ aW d 88 52 L (gR h o 0 :: S) h Q) := ax_geta mt88 dX10_findLoads_49 (by decide) ft_40972 fk_40972 hT
theorem s88_52 : aW d 88 52 [l0, .int a, l2, l3] S h Q = aW d 88 53 [l0, .int a, l2, l3] (.int a :: S) h Q := ax_iload_n mt88 dX10_findLoads_52 rfl
theorem s88_53 (hT : gT h o = some (5, 4)) : aW (d + 1) 88 53 L (.int x0 :: .ref o :: [.int y0, .int y1, .ref q2, .int y3, .ref q4]) h Q = aM d 29 (.ref o :: [.int x0]) h (fun v h1 => aW (d + 1) 88 56 L (ab_ps v [.int y0, .int y1, .ref q2, .int y3, .ref q4]) h1 Q) := ax_invv mt88 dX10_findLoads_53 (by decide) ct_41062 (.inl rfl) mt29 ⟨⟨Nat.le_of_ble_eq_true rfl, Nat.le_of_ble_eq_true rfl, Nat.le_of_ble_eq_true rfl⟩, rfl, rfl, rfl⟩ hT
theorem s88_56 (hT : gT h o = some (5, 4)) : aW (d + 1) 88 56 L (.int x2 :: .int x1 :: .int x0 :: .ref o :: [.int y0, .ref q1]) h Q = aM d 30 (.ref o :: [.int x0, .int x1, .int x2]) h (fun v h1 => aW (d + 1) 88 59 L (ab_ps v [.int y0, .ref q1]) h1 Q) := ax_invv mt88 dX10_findLoads_56 (by decide) ct_41065 (.inl rfl) mt30 ⟨⟨Nat.le_of_ble_eq_true rfl, Nat.le_of_ble_eq_true rfl, Nat.le_of_ble_eq_true rfl⟩, rfl, rfl, rfl⟩ hT
theorem s88_59 : aW d 88 59 L (.int b :: .int a :: .ref o :: S) h Q = (inb a (aJ h o) ∧ aW d 88 60 L S (pI h o a.toNatClampNeg b) Q) := ax_iast mt88 dX10_findLoads_59
theorem s88_60 : aW d 88 60 [l0, .int a, l2, l3] S h Q = aW d 88 61 [l0, .int a, l2, l3] (.int a :: S) h Q := ax_iload_n mt88 dX10_findLoads_60 rfl
theorem s88_61 : aW d 88 61 L S h Q = aW d 88 62 L (.int (nI 1) :: S) h Q := ax_iconst mt88 dX10_findLoads_61 ic_1
theorem s88_62 : aW d 88 62 [l0, l1, l2, .int a] S h Q = aW d 88 63 [l0, l1, l2, .int a] (.int a :: S) h Q := ax_iload_n mt88 dX10_findLoads_62 rfl
theorem s88_63 : aW d 88 63 L (.int b :: .int a :: S) h Q = aW d 88 64 L (.int (a <<< (b &&& 31)) :: S) h Q := ax_ishl mt88 dX10_findLoads_63
theorem s88_64 : aW d 88 64 L (.int b :: .int a :: S) h Q = aW d 88 65 L (.int (a ||| b) :: S) h Q := ax_ior mt88 dX10_findLoads_64
theorem s88_65 : aW d 88 65 [l0, l1, l2, l3] (.int a :: S) h Q = aW d 88 66 [l0, .int a, l2, l3] S h Q := ax_istore_n mt88 dX10_findLoads_65 (Nat.le_of_ble_eq_true rfl) rfl
theorem s88_66 : aW d 88 66 [l0, l1, .int a, l3] S h Q = aW d 88 69 [l0, l1, .int (a + nI 1), l3] S h Q := ax_iinc mt88 dX10_findLoads_66 rfl ic_1 rfl
theorem s88_69 : aW d 88 69 L S h Q = aW d 88 4 L S h Q := ax_goto mt88 dX10_findLoads_69 (by decide)
theorem s88_72 : aW d 88 72 L [] h Q = Q none h := ax_retv mt88 dX10_findLoads_72 rfl
-- method 89: BufferRoom$Timeline.placeOfPeak()I
theorem dX10_placeOfPeak_0 : decode cX10_placeOfPeak 0 = .ok (.iconst (-1), 1) := by decide +kernel
theorem dX10_placeOfPeak_1 : decode cX10_placeOfPeak 1 = .ok (.istore_n 1, 1) := by decide +kernel
theorem dX10_placeOfPeak_2 : decode cX10_placeOfPeak 2 = .ok (.iconst 0, 1) := by decide +kernel
theorem dX10_placeOfPeak_3 : decode cX10_placeOfPeak 3 = .ok (.istore_n 2, 1) := by decide +kernel
theorem dX10_placeOfPeak_4 : decode cX10_placeOfPeak 4 = .ok (.iload_n 2, 1) := by decide +kernel
theorem dX10_placeOfPeak_5 : decode cX10_placeOfPeak 5 = .ok (.aload_n 0, 1) := by decide +kernel
theorem dX10_placeOfPeak_6 : decode cX10_placeOfPeak 6 = .ok (.getfield 34, 3) := by decide +kernel
theorem dX10_placeOfPeak_9 : decode cX10_placeOfPeak 9 = .ok (.getfield 78, 3) := by decide +kernel
theorem dX10_placeOfPeak_12 : decode cX10_placeOfPeak 12 = .ok (.if_icmp .ge 30, 3) := by decide +kernel
theorem dX10_placeOfPeak_15 : decode cX10_placeOfPeak 15 = .ok (.iload_n 1, 1) := by decide +kernel
theorem dX10_placeOfPeak_16 : decode cX10_placeOfPeak 16 = .ok (.ifCond .lt 18, 3) := by decide +kernel
theorem dX10_placeOfPeak_19 : decode cX10_placeOfPeak 19 = .ok (.aload_n 0, 1) := by decide +kernel
theorem dX10_placeOfPeak_20 : decode cX10_placeOfPeak 20 = .ok (.getfield 25, 3) := by decide +kernel
theorem dX10_placeOfPeak_23 : decode cX10_placeOfPeak 23 = .ok (.iload_n 2, 1) := by decide +kernel
theorem dX10_placeOfPeak_24 : decode cX10_placeOfPeak 24 = .ok (.iaload, 1) := by decide +kernel
theorem dX10_placeOfPeak_25 : decode cX10_placeOfPeak 25 = .ok (.aload_n 0, 1) := by decide +kernel
theorem dX10_placeOfPeak_26 : decode cX10_placeOfPeak 26 = .ok (.getfield 25, 3) := by decide +kernel
theorem dX10_placeOfPeak_29 : decode cX10_placeOfPeak 29 = .ok (.iload_n 1, 1) := by decide +kernel
theorem dX10_placeOfPeak_30 : decode cX10_placeOfPeak 30 = .ok (.iaload, 1) := by decide +kernel
theorem dX10_placeOfPeak_31 : decode cX10_placeOfPeak 31 = .ok (.if_icmp .le 5, 3) := by decide +kernel
theorem dX10_placeOfPeak_34 : decode cX10_placeOfPeak 34 = .ok (.iload_n 2, 1) := by decide +kernel
theorem dX10_placeOfPeak_35 : decode cX10_placeOfPeak 35 = .ok (.istore_n 1, 1) := by decide +kernel
theorem dX10_placeOfPeak_36 : decode cX10_placeOfPeak 36 = .ok (.iinc 2 1, 3) := by decide +kernel
theorem dX10_placeOfPeak_39 : decode cX10_placeOfPeak 39 = .ok (.goto (-35), 3) := by decide +kernel
theorem dX10_placeOfPeak_42 : decode cX10_placeOfPeak 42 = .ok (.iload_n 1, 1) := by decide +kernel
theorem dX10_placeOfPeak_43 : decode cX10_placeOfPeak 43 = .ok (.ireturn, 1) := by decide +kernel
theorem s89_0 : aW d 89 0 L S h Q = aW d 89 1 L (.int ((-1)) :: S) h Q := ax_iconst mt89 dX10_placeOfPeak_0 ic_m1
theorem s89_1 : aW d 89 1 [l0, l1, l2] (.int a :: S) h Q = aW d 89 2 [l0, .int a, l2] S h Q := ax_istore_n mt89 dX10_placeOfPeak_1 (Nat.le_of_ble_eq_true rfl) rfl
theorem s89_2 : aW d 89 2 L S h Q = aW d 89 3 L (.int (nI 0) :: S) h Q := ax_iconst mt89 dX10_placeOfPeak_2 ic_0
theorem s89_3 : aW d 89 3 [l0, l1, l2] (.int a :: S) h Q = aW d 89 4 [l0, l1, .int a] S h Q := ax_istore_n mt89 dX10_placeOfPeak_3 (Nat.le_of_ble_eq_true rfl) rfl
theorem s89_4 : aW d 89 4 [l0, l1, .int a] S h Q = aW d 89 5 [l0, l1, .int a] (.int a :: S) h Q := ax_iload_n mt89 dX10_placeOfPeak_4 rfl
theorem s89_5 : aW d 89 5 [.ref o, l1, l2] S h Q = aW d 89 6 [.ref o, l1, l2] (.ref o :: S) h Q := ax_aload_n mt89 dX10_placeOfPeak_5 rfl
theorem s89_6 (hT : gT h o = some (12, 9)) : aW d 89 6 L (.ref o :: S) h Q = (isRf (gR h o 1) = true ∧ aW d 89 9 L (gR h o 1 :: S) h Q) := ax_geta mt89 dX10_placeOfPeak_6 (by decide) ft_40994 fk_40994 hT
theorem s89_9 (hT : gT h o = some (8, 12)) : aW d 89 9 L (.ref o :: S) h Q = aW d 89 12 L (.int (gI h o 6) :: S) h Q := ax_geti mt89 dX10_placeOfPeak_9 (by decide) ft_41038 fk_41038 hT
theorem s89_12 : aW d 89 12 L (.int b :: .int a :: S) h Q = (if a < b then aW d 89 15 L S h Q else aW d 89 42 L S h Q) := ax_icmp_ge mt89 dX10_placeOfPeak_12 (by decide)
theorem s89_15 : aW d 89 15 [l0, .int a, l2] S h Q = aW d 89 16 [l0, .int a, l2] (.int a :: S) h Q := ax_iload_n mt89 dX10_placeOfPeak_15 rfl
theorem s89_16 : aW d 89 16 L (.int a :: S) h Q = (if a < 0 then aW d 89 34 L S h Q else aW d 89 19 L S h Q) := ax_if_lt mt89 dX10_placeOfPeak_16 (by decide)
theorem s89_19 : aW d 89 19 [.ref o, l1, l2] S h Q = aW d 89 20 [.ref o, l1, l2] (.ref o :: S) h Q := ax_aload_n mt89 dX10_placeOfPeak_19 rfl
theorem s89_20 (hT : gT h o = some (12, 9)) : aW d 89 20 L (.ref o :: S) h Q = (isRf (gR h o 6) = true ∧ aW d 89 23 L (gR h o 6 :: S) h Q) := ax_geta mt89 dX10_placeOfPeak_20 (by decide) ft_40985 fk_40985 hT
theorem s89_23 : aW d 89 23 [l0, l1, .int a] S h Q = aW d 89 24 [l0, l1, .int a] (.int a :: S) h Q := ax_iload_n mt89 dX10_placeOfPeak_23 rfl
theorem s89_24 : aW d 89 24 L (.int a :: .ref o :: S) h Q = (inb a (aI h o) ∧ aW d 89 25 L (.int (gI h o a.toNatClampNeg) :: S) h Q) := ax_iald mt89 dX10_placeOfPeak_24
theorem s89_25 : aW d 89 25 [.ref o, l1, l2] S h Q = aW d 89 26 [.ref o, l1, l2] (.ref o :: S) h Q := ax_aload_n mt89 dX10_placeOfPeak_25 rfl
theorem s89_26 (hT : gT h o = some (12, 9)) : aW d 89 26 L (.ref o :: S) h Q = (isRf (gR h o 6) = true ∧ aW d 89 29 L (gR h o 6 :: S) h Q) := ax_geta mt89 dX10_placeOfPeak_26 (by decide) ft_40985 fk_40985 hT
theorem s89_29 : aW d 89 29 [l0, .int a, l2] S h Q = aW d 89 30 [l0, .int a, l2] (.int a :: S) h Q := ax_iload_n mt89 dX10_placeOfPeak_29 rfl
theorem s89_30 : aW d 89 30 L (.int a :: .ref o :: S) h Q = (inb a (aI h o) ∧ aW d 89 31 L (.int (gI h o a.toNatClampNeg) :: S) h Q) := ax_iald mt89 dX10_placeOfPeak_30
theorem s89_31 : aW d 89 31 L (.int b :: .int a :: S) h Q = (if b < a then aW d 89 34 L S h Q else aW d 89 36 L S h Q) := ax_icmp_le mt89 dX10_placeOfPeak_31 (by decide)
theorem s89_36 : aW d 89 36 [l0, l1, .int a] S h Q = aW d 89 39 [l0, l1, .int (a + nI 1)] S h Q := ax_iinc mt89 dX10_placeOfPeak_36 rfl ic_1 rfl
theorem s89_39 : aW d 89 39 L S h Q = aW d 89 4 L S h Q := ax_goto mt89 dX10_placeOfPeak_39 (by decide)
theorem s89_34 : aW d 89 34 [l0, l1, .int a] S h Q = aW d 89 35 [l0, l1, .int a] (.int a :: S) h Q := ax_iload_n mt89 dX10_placeOfPeak_34 rfl
theorem s89_35 : aW d 89 35 [l0, l1, l2] (.int a :: S) h Q = aW d 89 36 [l0, .int a, l2] S h Q := ax_istore_n mt89 dX10_placeOfPeak_35 (Nat.le_of_ble_eq_true rfl) rfl
theorem s89_42 : aW d 89 42 [l0, .int a, l2] S h Q = aW d 89 43 [l0, .int a, l2] (.int a :: S) h Q := ax_iload_n mt89 dX10_placeOfPeak_42 rfl
theorem s89_43 : aW d 89 43 L [.int a] h Q = Q (some (.int a)) h := ax_reti mt89 dX10_placeOfPeak_43 rfl
-- method 90: BufferRoom$Timeline.isAlive(I)Z
theorem dX10_isAlive_0 : decode cX10_isAlive 0 = .ok (.aload_n 0, 1) := by decide +kernel
theorem dX10_isAlive_1 : decode cX10_isAlive 1 = .ok (.getfield 28, 3) := by decide +kernel
theorem dX10_isAlive_4 : decode cX10_isAlive 4 = .ok (.iload_n 1, 1) := by decide +kernel
theorem dX10_isAlive_5 : decode cX10_isAlive 5 = .ok (.iaload, 1) := by decide +kernel
theorem dX10_isAlive_6 : decode cX10_isAlive 6 = .ok (.aload_n 0, 1) := by decide +kernel
theorem dX10_isAlive_7 : decode cX10_isAlive 7 = .ok (.getfield 31, 3) := by decide +kernel
theorem dX10_isAlive_10 : decode cX10_isAlive 10 = .ok (.iload_n 1, 1) := by decide +kernel
theorem dX10_isAlive_11 : decode cX10_isAlive 11 = .ok (.iaload, 1) := by decide +kernel
theorem dX10_isAlive_12 : decode cX10_isAlive 12 = .ok (.if_icmp .gt 7, 3) := by decide +kernel
theorem dX10_isAlive_15 : decode cX10_isAlive 15 = .ok (.iconst 1, 1) := by decide +kernel
theorem dX10_isAlive_16 : decode cX10_isAlive 16 = .ok (.goto 4, 3) := by decide +kernel
theorem dX10_isAlive_19 : decode cX10_isAlive 19 = .ok (.iconst 0, 1) := by decide +kernel
theorem dX10_isAlive_20 : decode cX10_isAlive 20 = .ok (.ireturn, 1) := by decide +kernel
theorem s90_0 : aW d 90 0 [.ref o, l1] S h Q = aW d 90 1 [.ref o, l1] (.ref o :: S) h Q := ax_aload_n mt90 dX10_isAlive_0 rfl
theorem s90_1 (hT : gT h o = some (12, 9)) : aW d 90 1 L (.ref o :: S) h Q = (isRf (gR h o 7) = true ∧ aW d 90 4 L (gR h o 7 :: S) h Q) := ax_geta mt90 dX10_isAlive_1 (by decide) ft_40988 fk_40988 hT
theorem s90_4 : aW d 90 4 [l0, .int a] S h Q = aW d 90 5 [l0, .int a] (.int a :: S) h Q := ax_iload_n mt90 dX10_isAlive_4 rfl
theorem s90_5 : aW d 90 5 L (.int a :: .ref o :: S) h Q = (inb a (aI h o) ∧ aW d 90 6 L (.int (gI h o a.toNatClampNeg) :: S) h Q) := ax_iald mt90 dX10_isAlive_5
theorem s90_6 : aW d 90 6 [.ref o, l1] S h Q = aW d 90 7 [.ref o, l1] (.ref o :: S) h Q := ax_aload_n mt90 dX10_isAlive_6 rfl
theorem s90_7 (hT : gT h o = some (12, 9)) : aW d 90 7 L (.ref o :: S) h Q = (isRf (gR h o 8) = true ∧ aW d 90 10 L (gR h o 8 :: S) h Q) := ax_geta mt90 dX10_isAlive_7 (by decide) ft_40991 fk_40991 hT
theorem s90_10 : aW d 90 10 [l0, .int a] S h Q = aW d 90 11 [l0, .int a] (.int a :: S) h Q := ax_iload_n mt90 dX10_isAlive_10 rfl
theorem s90_11 : aW d 90 11 L (.int a :: .ref o :: S) h Q = (inb a (aI h o) ∧ aW d 90 12 L (.int (gI h o a.toNatClampNeg) :: S) h Q) := ax_iald mt90 dX10_isAlive_11
theorem s90_12 : aW d 90 12 L (.int b :: .int a :: S) h Q = (if b < a then aW d 90 19 L S h Q else aW d 90 15 L S h Q) := ax_icmp_gt mt90 dX10_isAlive_12 (by decide)
theorem s90_15 : aW d 90 15 L S h Q = aW d 90 16 L (.int (nI 1) :: S) h Q := ax_iconst mt90 dX10_isAlive_15 ic_1
theorem s90_16 : aW d 90 16 L S h Q = aW d 90 20 L S h Q := ax_goto mt90 dX10_isAlive_16 (by decide)
theorem s90_20 : aW d 90 20 L [.int a] h Q = (b01 a ∧ Q (some (.int a)) h) := ax_retz mt90 dX10_isAlive_20 rfl
theorem s90_19 : aW d 90 19 L S h Q = aW d 90 20 L (.int (nI 0) :: S) h Q := ax_iconst mt90 dX10_isAlive_19 ic_0
-- method 91: BufferRoom$Timeline.areAlive(II)Z
theorem dX10_areAlive_0 : decode cX10_areAlive 0 = .ok (.aload_n 0, 1) := by decide +kernel
theorem dX10_areAlive_1 : decode cX10_areAlive 1 = .ok (.getfield 28, 3) := by decide +kernel
theorem dX10_areAlive_4 : decode cX10_areAlive 4 = .ok (.iload_n 1, 1) := by decide +kernel
theorem dX10_areAlive_5 : decode cX10_areAlive 5 = .ok (.iaload, 1) := by decide +kernel
theorem dX10_areAlive_6 : decode cX10_areAlive 6 = .ok (.aload_n 0, 1) := by decide +kernel
theorem dX10_areAlive_7 : decode cX10_areAlive 7 = .ok (.getfield 31, 3) := by decide +kernel
theorem dX10_areAlive_10 : decode cX10_areAlive 10 = .ok (.iload_n 2, 1) := by decide +kernel
theorem dX10_areAlive_11 : decode cX10_areAlive 11 = .ok (.iaload, 1) := by decide +kernel
theorem dX10_areAlive_12 : decode cX10_areAlive 12 = .ok (.if_icmp .gt 22, 3) := by decide +kernel
theorem dX10_areAlive_15 : decode cX10_areAlive 15 = .ok (.aload_n 0, 1) := by decide +kernel
theorem dX10_areAlive_16 : decode cX10_areAlive 16 = .ok (.getfield 28, 3) := by decide +kernel
theorem dX10_areAlive_19 : decode cX10_areAlive 19 = .ok (.iload_n 2, 1) := by decide +kernel
theorem dX10_areAlive_20 : decode cX10_areAlive 20 = .ok (.iaload, 1) := by decide +kernel
theorem dX10_areAlive_21 : decode cX10_areAlive 21 = .ok (.aload_n 0, 1) := by decide +kernel
theorem dX10_areAlive_22 : decode cX10_areAlive 22 = .ok (.getfield 31, 3) := by decide +kernel
theorem dX10_areAlive_25 : decode cX10_areAlive 25 = .ok (.iload_n 1, 1) := by decide +kernel
theorem dX10_areAlive_26 : decode cX10_areAlive 26 = .ok (.iaload, 1) := by decide +kernel
theorem dX10_areAlive_27 : decode cX10_areAlive 27 = .ok (.if_icmp .gt 7, 3) := by decide +kernel
theorem dX10_areAlive_30 : decode cX10_areAlive 30 = .ok (.iconst 1, 1) := by decide +kernel
theorem dX10_areAlive_31 : decode cX10_areAlive 31 = .ok (.goto 4, 3) := by decide +kernel
theorem dX10_areAlive_34 : decode cX10_areAlive 34 = .ok (.iconst 0, 1) := by decide +kernel
theorem dX10_areAlive_35 : decode cX10_areAlive 35 = .ok (.ireturn, 1) := by decide +kernel
theorem s91_0 : aW d 91 0 [.ref o, l1, l2] S h Q = aW d 91 1 [.ref o, l1, l2] (.ref o :: S) h Q := ax_aload_n mt91 dX10_areAlive_0 rfl
theorem s91_1 (hT : gT h o = some (12, 9)) : aW d 91 1 L (.ref o :: S) h Q = (isRf (gR h o 7) = true ∧ aW d 91 4 L (gR h o 7 :: S) h Q) := ax_geta mt91 dX10_areAlive_1 (by decide) ft_40988 fk_40988 hT
theorem s91_4 : aW d 91 4 [l0, .int a, l2] S h Q = aW d 91 5 [l0, .int a, l2] (.int a :: S) h Q := ax_iload_n mt91 dX10_areAlive_4 rfl
theorem s91_5 : aW d 91 5 L (.int a :: .ref o :: S) h Q = (inb a (aI h o) ∧ aW d 91 6 L (.int (gI h o a.toNatClampNeg) :: S) h Q) := ax_iald mt91 dX10_areAlive_5
theorem s91_6 : aW d 91 6 [.ref o, l1, l2] S h Q = aW d 91 7 [.ref o, l1, l2] (.ref o :: S) h Q := ax_aload_n mt91 dX10_areAlive_6 rfl
theorem s91_7 (hT : gT h o = some (12, 9)) : aW d 91 7 L (.ref o :: S) h Q = (isRf (gR h o 8) = true ∧ aW d 91 10 L (gR h o 8 :: S) h Q) := ax_geta mt91 dX10_areAlive_7 (by decide) ft_40991 fk_40991 hT
theorem s91_10 : aW d 91 10 [l0, l1, .int a] S h Q = aW d 91 11 [l0, l1, .int a] (.int a :: S) h Q := ax_iload_n mt91 dX10_areAlive_10 rfl
theorem s91_11 : aW d 91 11 L (.int a :: .ref o :: S) h Q = (inb a (aI h o) ∧ aW d 91 12 L (.int (gI h o a.toNatClampNeg) :: S) h Q) := ax_iald mt91 dX10_areAlive_11
theorem s91_12 : aW d 91 12 L (.int b :: .int a :: S) h Q = (if b < a then aW d 91 34 L S h Q else aW d 91 15 L S h Q) := ax_icmp_gt mt91 dX10_areAlive_12 (by decide)
theorem s91_15 : aW d 91 15 [.ref o, l1, l2] S h Q = aW d 91 16 [.ref o, l1, l2] (.ref o :: S) h Q := ax_aload_n mt91 dX10_areAlive_15 rfl
theorem s91_16 (hT : gT h o = some (12, 9)) : aW d 91 16 L (.ref o :: S) h Q = (isRf (gR h o 7) = true ∧ aW d 91 19 L (gR h o 7 :: S) h Q) := ax_geta mt91 dX10_areAlive_16 (by decide) ft_40988 fk_40988 hT
theorem s91_19 : aW d 91 19 [l0, l1, .int a] S h Q = aW d 91 20 [l0, l1, .int a] (.int a :: S) h Q := ax_iload_n mt91 dX10_areAlive_19 rfl
theorem s91_20 : aW d 91 20 L (.int a :: .ref o :: S) h Q = (inb a (aI h o) ∧ aW d 91 21 L (.int (gI h o a.toNatClampNeg) :: S) h Q) := ax_iald mt91 dX10_areAlive_20
theorem s91_21 : aW d 91 21 [.ref o, l1, l2] S h Q = aW d 91 22 [.ref o, l1, l2] (.ref o :: S) h Q := ax_aload_n mt91 dX10_areAlive_21 rfl
theorem s91_22 (hT : gT h o = some (12, 9)) : aW d 91 22 L (.ref o :: S) h Q = (isRf (gR h o 8) = true ∧ aW d 91 25 L (gR h o 8 :: S) h Q) := ax_geta mt91 dX10_areAlive_22 (by decide) ft_40991 fk_40991 hT
theorem s91_25 : aW d 91 25 [l0, .int a, l2] S h Q = aW d 91 26 [l0, .int a, l2] (.int a :: S) h Q := ax_iload_n mt91 dX10_areAlive_25 rfl
theorem s91_26 : aW d 91 26 L (.int a :: .ref o :: S) h Q = (inb a (aI h o) ∧ aW d 91 27 L (.int (gI h o a.toNatClampNeg) :: S) h Q) := ax_iald mt91 dX10_areAlive_26
theorem s91_27 : aW d 91 27 L (.int b :: .int a :: S) h Q = (if b < a then aW d 91 34 L S h Q else aW d 91 30 L S h Q) := ax_icmp_gt mt91 dX10_areAlive_27 (by decide)
theorem s91_30 : aW d 91 30 L S h Q = aW d 91 31 L (.int (nI 1) :: S) h Q := ax_iconst mt91 dX10_areAlive_30 ic_1
theorem s91_31 : aW d 91 31 L S h Q = aW d 91 35 L S h Q := ax_goto mt91 dX10_areAlive_31 (by decide)
theorem s91_35 : aW d 91 35 L [.int a] h Q = (b01 a ∧ Q (some (.int a)) h) := ax_retz mt91 dX10_areAlive_35 rfl
theorem s91_34 : aW d 91 34 L S h Q = aW d 91 35 L (.int (nI 0) :: S) h Q := ax_iconst mt91 dX10_areAlive_34 ic_0
-- method 92: BufferRoom$Timeline.hinder(II)Z
theorem dX10_hinder_0 : decode cX10_hinder 0 = .ok (.aload_n 0, 1) := by decide +kernel
theorem dX10_hinder_1 : decode cX10_hinder 1 = .ok (.iload_n 1, 1) := by decide +kernel
theorem dX10_hinder_2 : decode cX10_hinder 2 = .ok (.iload_n 2, 1) := by decide +kernel
theorem dX10_hinder_3 : decode cX10_hinder 3 = .ok (.invokevirtual 109, 3) := by decide +kernel
theorem dX10_hinder_6 : decode cX10_hinder 6 = .ok (.ifCond .ne 5, 3) := by decide +kernel
theorem dX10_hinder_9 : decode cX10_hinder 9 = .ok (.iconst 0, 1) := by decide +kernel
theorem dX10_hinder_10 : decode cX10_hinder 10 = .ok (.ireturn, 1) := by decide +kernel
theorem dX10_hinder_11 : decode cX10_hinder 11 = .ok (.aload_n 0, 1) := by decide +kernel
theorem dX10_hinder_12 : decode cX10_hinder 12 = .ok (.getfield 28, 3) := by decide +kernel
theorem dX10_hinder_15 : decode cX10_hinder 15 = .ok (.iload_n 1, 1) := by decide +kernel
theorem dX10_hinder_16 : decode cX10_hinder 16 = .ok (.iaload, 1) := by decide +kernel
theorem dX10_hinder_17 : decode cX10_hinder 17 = .ok (.aload_n 0, 1) := by decide +kernel
theorem dX10_hinder_18 : decode cX10_hinder 18 = .ok (.getfield 28, 3) := by decide +kernel
theorem dX10_hinder_21 : decode cX10_hinder 21 = .ok (.iload_n 2, 1) := by decide +kernel
theorem dX10_hinder_22 : decode cX10_hinder 22 = .ok (.iaload, 1) := by decide +kernel
theorem dX10_hinder_23 : decode cX10_hinder 23 = .ok (.invokestatic 112, 3) := by decide +kernel
theorem dX10_hinder_26 : decode cX10_hinder 26 = .ok (.istore_n 3, 1) := by decide +kernel
theorem dX10_hinder_27 : decode cX10_hinder 27 = .ok (.iload_n 3, 1) := by decide +kernel
theorem dX10_hinder_28 : decode cX10_hinder 28 = .ok (.aload_n 0, 1) := by decide +kernel
theorem dX10_hinder_29 : decode cX10_hinder 29 = .ok (.getfield 31, 3) := by decide +kernel
theorem dX10_hinder_32 : decode cX10_hinder 32 = .ok (.iload_n 1, 1) := by decide +kernel
theorem dX10_hinder_33 : decode cX10_hinder 33 = .ok (.iaload, 1) := by decide +kernel
theorem dX10_hinder_34 : decode cX10_hinder 34 = .ok (.aload_n 0, 1) := by decide +kernel
theorem dX10_hinder_35 : decode cX10_hinder 35 = .ok (.getfield 31, 3) := by decide +kernel
theorem dX10_hinder_38 : decode cX10_hinder 38 = .ok (.iload_n 2, 1) := by decide +kernel
theorem dX10_hinder_39 : decode cX10_hinder 39 = .ok (.iaload, 1) := by decide +kernel
theorem dX10_hinder_40 : decode cX10_hinder 40 = .ok (.invokestatic 117, 3) := by decide +kernel
theorem dX10_hinder_43 : decode cX10_hinder 43 = .ok (.if_icmp .ge 5, 3) := by decide +kernel
theorem dX10_hinder_46 : decode cX10_hinder 46 = .ok (.iconst 1, 1) := by decide +kernel
theorem dX10_hinder_47 : decode cX10_hinder 47 = .ok (.ireturn, 1) := by decide +kernel
theorem dX10_hinder_48 : decode cX10_hinder 48 = .ok (.aload_n 0, 1) := by decide +kernel
theorem dX10_hinder_49 : decode cX10_hinder 49 = .ok (.getfield 34, 3) := by decide +kernel
theorem dX10_hinder_52 : decode cX10_hinder 52 = .ok (.getfield 85, 3) := by decide +kernel
theorem dX10_hinder_55 : decode cX10_hinder 55 = .ok (.aload_n 0, 1) := by decide +kernel
theorem dX10_hinder_56 : decode cX10_hinder 56 = .ok (.getfield 18, 3) := by decide +kernel
theorem dX10_hinder_59 : decode cX10_hinder 59 = .ok (.iload_n 3, 1) := by decide +kernel
theorem dX10_hinder_60 : decode cX10_hinder 60 = .ok (.iaload, 1) := by decide +kernel
theorem dX10_hinder_61 : decode cX10_hinder 61 = .ok (.iaload, 1) := by decide +kernel
theorem dX10_hinder_62 : decode cX10_hinder 62 = .ok (.istore 4, 2) := by decide +kernel
theorem dX10_hinder_64 : decode cX10_hinder 64 = .ok (.aload_n 0, 1) := by decide +kernel
theorem dX10_hinder_65 : decode cX10_hinder 65 = .ok (.getfield 22, 3) := by decide +kernel
theorem dX10_hinder_68 : decode cX10_hinder 68 = .ok (.iload_n 3, 1) := by decide +kernel
theorem dX10_hinder_69 : decode cX10_hinder 69 = .ok (.iaload, 1) := by decide +kernel
theorem dX10_hinder_70 : decode cX10_hinder 70 = .ok (.iload_n 1, 1) := by decide +kernel
theorem dX10_hinder_71 : decode cX10_hinder 71 = .ok (.if_icmp .ne 9, 3) := by decide +kernel
theorem dX10_hinder_74 : decode cX10_hinder 74 = .ok (.iload 4, 2) := by decide +kernel
theorem dX10_hinder_76 : decode cX10_hinder 76 = .ok (.iload_n 2, 1) := by decide +kernel
theorem dX10_hinder_77 : decode cX10_hinder 77 = .ok (.if_icmp .eq 19, 3) := by decide +kernel
theorem dX10_hinder_80 : decode cX10_hinder 80 = .ok (.aload_n 0, 1) := by decide +kernel
theorem dX10_hinder_81 : decode cX10_hinder 81 = .ok (.getfield 22, 3) := by decide +kernel
theorem dX10_hinder_84 : decode cX10_hinder 84 = .ok (.iload_n 3, 1) := by decide +kernel
theorem dX10_hinder_85 : decode cX10_hinder 85 = .ok (.iaload, 1) := by decide +kernel
theorem dX10_hinder_86 : decode cX10_hinder 86 = .ok (.iload_n 2, 1) := by decide +kernel
theorem dX10_hinder_87 : decode cX10_hinder 87 = .ok (.if_icmp .ne 13, 3) := by decide +kernel
theorem dX10_hinder_90 : decode cX10_hinder 90 = .ok (.iload 4, 2) := by decide +kernel
theorem dX10_hinder_92 : decode cX10_hinder 92 = .ok (.iload_n 1, 1) := by decide +kernel
theorem dX10_hinder_93 : decode cX10_hinder 93 = .ok (.if_icmp .ne 7, 3) := by decide +kernel
theorem dX10_hinder_96 : decode cX10_hinder 96 = .ok (.iconst 1, 1) := by decide +kernel
theorem dX10_hinder_97 : decode cX10_hinder 97 = .ok (.goto 4, 3) := by decide +kernel
theorem dX10_hinder_100 : decode cX10_hinder 100 = .ok (.iconst 0, 1) := by decide +kernel
theorem dX10_hinder_101 : decode cX10_hinder 101 = .ok (.istore 5, 2) := by decide +kernel
theorem dX10_hinder_103 : decode cX10_hinder 103 = .ok (.iload 5, 2) := by decide +kernel
theorem dX10_hinder_105 : decode cX10_hinder 105 = .ok (.ifCond .ne 7, 3) := by decide +kernel
theorem dX10_hinder_108 : decode cX10_hinder 108 = .ok (.iconst 1, 1) := by decide +kernel
theorem dX10_hinder_109 : decode cX10_hinder 109 = .ok (.goto 4, 3) := by decide +kernel
theorem dX10_hinder_112 : decode cX10_hinder 112 = .ok (.iconst 0, 1) := by decide +kernel
theorem dX10_hinder_113 : decode cX10_hinder 113 = .ok (.ireturn, 1) := by decide +kernel
theorem s92_0 : aW d 92 0 [.ref o, l1, l2, l3, l4, l5] S h Q = aW d 92 1 [.ref o, l1, l2, l3, l4, l5] (.ref o :: S) h Q := ax_aload_n mt92 dX10_hinder_0 rfl
theorem s92_1 : aW d 92 1 [l0, .int a, l2, l3, l4, l5] S h Q = aW d 92 2 [l0, .int a, l2, l3, l4, l5] (.int a :: S) h Q := ax_iload_n mt92 dX10_hinder_1 rfl
theorem s92_2 : aW d 92 2 [l0, l1, .int a, l3, l4, l5] S h Q = aW d 92 3 [l0, l1, .int a, l3, l4, l5] (.int a :: S) h Q := ax_iload_n mt92 dX10_hinder_2 rfl
theorem s92_3 (hT : gT h o = some (12, 9)) : aW (d + 1) 92 3 L (.int x1 :: .int x0 :: .ref o :: []) h Q = aM d 91 (.ref o :: [.int x0, .int x1]) h (fun v h1 => aW (d + 1) 92 6 L (ab_ps v []) h1 Q) := ax_invv mt92 dX10_hinder_3 (by decide) ct_41069 (.inl rfl) mt91 ⟨⟨Nat.le_of_ble_eq_true rfl, Nat.le_of_ble_eq_true rfl, Nat.le_of_ble_eq_true rfl⟩, rfl, rfl, rfl⟩ hT
theorem s92_6 : aW d 92 6 L (.int a :: S) h Q = (if a = 0 then aW d 92 9 L S h Q else aW d 92 11 L S h Q) := ax_if_ne mt92 dX10_hinder_6 (by decide)
theorem s92_9 : aW d 92 9 L S h Q = aW d 92 10 L (.int (nI 0) :: S) h Q := ax_iconst mt92 dX10_hinder_9 ic_0
theorem s92_10 : aW d 92 10 L [.int a] h Q = (b01 a ∧ Q (some (.int a)) h) := ax_retz mt92 dX10_hinder_10 rfl
theorem s92_11 : aW d 92 11 [.ref o, l1, l2, l3, l4, l5] S h Q = aW d 92 12 [.ref o, l1, l2, l3, l4, l5] (.ref o :: S) h Q := ax_aload_n mt92 dX10_hinder_11 rfl
theorem s92_12 (hT : gT h o = some (12, 9)) : aW d 92 12 L (.ref o :: S) h Q = (isRf (gR h o 7) = true ∧ aW d 92 15 L (gR h o 7 :: S) h Q) := ax_geta mt92 dX10_hinder_12 (by decide) ft_40988 fk_40988 hT
theorem s92_15 : aW d 92 15 [l0, .int a, l2, l3, l4, l5] S h Q = aW d 92 16 [l0, .int a, l2, l3, l4, l5] (.int a :: S) h Q := ax_iload_n mt92 dX10_hinder_15 rfl
theorem s92_16 : aW d 92 16 L (.int a :: .ref o :: S) h Q = (inb a (aI h o) ∧ aW d 92 17 L (.int (gI h o a.toNatClampNeg) :: S) h Q) := ax_iald mt92 dX10_hinder_16
theorem s92_17 : aW d 92 17 [.ref o, l1, l2, l3, l4, l5] S h Q = aW d 92 18 [.ref o, l1, l2, l3, l4, l5] (.ref o :: S) h Q := ax_aload_n mt92 dX10_hinder_17 rfl
theorem s92_18 (hT : gT h o = some (12, 9)) : aW d 92 18 L (.ref o :: S) h Q = (isRf (gR h o 7) = true ∧ aW d 92 21 L (gR h o 7 :: S) h Q) := ax_geta mt92 dX10_hinder_18 (by decide) ft_40988 fk_40988 hT
theorem s92_21 : aW d 92 21 [l0, l1, .int a, l3, l4, l5] S h Q = aW d 92 22 [l0, l1, .int a, l3, l4, l5] (.int a :: S) h Q := ax_iload_n mt92 dX10_hinder_21 rfl
theorem s92_22 : aW d 92 22 L (.int a :: .ref o :: S) h Q = (inb a (aI h o) ∧ aW d 92 23 L (.int (gI h o a.toNatClampNeg) :: S) h Q) := ax_iald mt92 dX10_hinder_22
theorem s92_23 : aW (d + 1) 92 23 L (.int b :: .int a :: []) h Q = aW (d + 1) 92 26 L (.int (iMax a b) :: []) h Q := ax_max mt92 dX10_hinder_23 (by decide) ct_41072 (Nat.le_of_ble_eq_true rfl)
theorem s92_26 : aW d 92 26 [l0, l1, l2, l3, l4, l5] (.int a :: S) h Q = aW d 92 27 [l0, l1, l2, .int a, l4, l5] S h Q := ax_istore_n mt92 dX10_hinder_26 (Nat.le_of_ble_eq_true rfl) rfl
theorem s92_27 : aW d 92 27 [l0, l1, l2, .int a, l4, l5] S h Q = aW d 92 28 [l0, l1, l2, .int a, l4, l5] (.int a :: S) h Q := ax_iload_n mt92 dX10_hinder_27 rfl
theorem s92_28 : aW d 92 28 [.ref o, l1, l2, l3, l4, l5] S h Q = aW d 92 29 [.ref o, l1, l2, l3, l4, l5] (.ref o :: S) h Q := ax_aload_n mt92 dX10_hinder_28 rfl
theorem s92_29 (hT : gT h o = some (12, 9)) : aW d 92 29 L (.ref o :: S) h Q = (isRf (gR h o 8) = true ∧ aW d 92 32 L (gR h o 8 :: S) h Q) := ax_geta mt92 dX10_hinder_29 (by decide) ft_40991 fk_40991 hT
theorem s92_32 : aW d 92 32 [l0, .int a, l2, l3, l4, l5] S h Q = aW d 92 33 [l0, .int a, l2, l3, l4, l5] (.int a :: S) h Q := ax_iload_n mt92 dX10_hinder_32 rfl
theorem s92_33 : aW d 92 33 L (.int a :: .ref o :: S) h Q = (inb a (aI h o) ∧ aW d 92 34 L (.int (gI h o a.toNatClampNeg) :: S) h Q) := ax_iald mt92 dX10_hinder_33
theorem s92_34 : aW d 92 34 [.ref o, l1, l2, l3, l4, l5] S h Q = aW d 92 35 [.ref o, l1, l2, l3, l4, l5] (.ref o :: S) h Q := ax_aload_n mt92 dX10_hinder_34 rfl
theorem s92_35 (hT : gT h o = some (12, 9)) : aW d 92 35 L (.ref o :: S) h Q = (isRf (gR h o 8) = true ∧ aW d 92 38 L (gR h o 8 :: S) h Q) := ax_geta mt92 dX10_hinder_35 (by decide) ft_40991 fk_40991 hT
theorem s92_38 : aW d 92 38 [l0, l1, .int a, l3, l4, l5] S h Q = aW d 92 39 [l0, l1, .int a, l3, l4, l5] (.int a :: S) h Q := ax_iload_n mt92 dX10_hinder_38 rfl
theorem s92_39 : aW d 92 39 L (.int a :: .ref o :: S) h Q = (inb a (aI h o) ∧ aW d 92 40 L (.int (gI h o a.toNatClampNeg) :: S) h Q) := ax_iald mt92 dX10_hinder_39
theorem s92_40 : aW (d + 1) 92 40 L (.int b :: .int a :: [.int y0]) h Q = aW (d + 1) 92 43 L (.int (iMin a b) :: [.int y0]) h Q := ax_min mt92 dX10_hinder_40 (by decide) ct_41077 (Nat.le_of_ble_eq_true rfl)
theorem s92_43 : aW d 92 43 L (.int b :: .int a :: S) h Q = (if a < b then aW d 92 46 L S h Q else aW d 92 48 L S h Q) := ax_icmp_ge mt92 dX10_hinder_43 (by decide)
theorem s92_46 : aW d 92 46 L S h Q = aW d 92 47 L (.int (nI 1) :: S) h Q := ax_iconst mt92 dX10_hinder_46 ic_1
theorem s92_47 : aW d 92 47 L [.int a] h Q = (b01 a ∧ Q (some (.int a)) h) := ax_retz mt92 dX10_hinder_47 rfl
theorem s92_48 : aW d 92 48 [.ref o, l1, l2, l3, l4, l5] S h Q = aW d 92 49 [.ref o, l1, l2, l3, l4, l5] (.ref o :: S) h Q := ax_aload_n mt92 dX10_hinder_48 rfl
theorem s92_49 (hT : gT h o = some (12, 9)) : aW d 92 49 L (.ref o :: S) h Q = (isRf (gR h o 1) = true ∧ aW d 92 52 L (gR h o 1 :: S) h Q) := ax_geta mt92 dX10_hinder_49 (by decide) ft_40994 fk_40994 hT
theorem s92_52 (hT : gT h o = some (8, 12)) : aW d 92 52 L (.ref o :: S) h Q = (isRf (gR h o 9) = true ∧ aW d 92 55 L (gR h o 9 :: S) h Q) := ax_geta mt92 dX10_hinder_52 (by decide) ft_41045 fk_41045 hT
theorem s92_55 : aW d 92 55 [.ref o, l1, l2, l3, l4, l5] S h Q = aW d 92 56 [.ref o, l1, l2, l3, l4, l5] (.ref o :: S) h Q := ax_aload_n mt92 dX10_hinder_55 rfl
theorem s92_56 (hT : gT h o = some (12, 9)) : aW d 92 56 L (.ref o :: S) h Q = (isRf (gR h o 4) = true ∧ aW d 92 59 L (gR h o 4 :: S) h Q) := ax_geta mt92 dX10_hinder_56 (by decide) ft_40978 fk_40978 hT
theorem s92_59 : aW d 92 59 [l0, l1, l2, .int a, l4, l5] S h Q = aW d 92 60 [l0, l1, l2, .int a, l4, l5] (.int a :: S) h Q := ax_iload_n mt92 dX10_hinder_59 rfl
theorem s92_60 : aW d 92 60 L (.int a :: .ref o :: S) h Q = (inb a (aI h o) ∧ aW d 92 61 L (.int (gI h o a.toNatClampNeg) :: S) h Q) := ax_iald mt92 dX10_hinder_60
theorem s92_61 : aW d 92 61 L (.int a :: .ref o :: S) h Q = (inb a (aI h o) ∧ aW d 92 62 L (.int (gI h o a.toNatClampNeg) :: S) h Q) := ax_iald mt92 dX10_hinder_61
theorem s92_62 : aW d 92 62 [l0, l1, l2, l3, l4, l5] (.int a :: S) h Q = aW d 92 64 [l0, l1, l2, l3, .int a, l5] S h Q := ax_istore mt92 dX10_hinder_62 (Nat.le_of_ble_eq_true rfl) rfl
theorem s92_64 : aW d 92 64 [.ref o, l1, l2, l3, l4, l5] S h Q = aW d 92 65 [.ref o, l1, l2, l3, l4, l5] (.ref o :: S) h Q := ax_aload_n mt92 dX10_hinder_64 rfl
theorem s92_65 (hT : gT h o = some (12, 9)) : aW d 92 65 L (.ref o :: S) h Q = (isRf (gR h o 5) = true ∧ aW d 92 68 L (gR h o 5 :: S) h Q) := ax_geta mt92 dX10_hinder_65 (by decide) ft_40982 fk_40982 hT
theorem s92_68 : aW d 92 68 [l0, l1, l2, .int a, l4, l5] S h Q = aW d 92 69 [l0, l1, l2, .int a, l4, l5] (.int a :: S) h Q := ax_iload_n mt92 dX10_hinder_68 rfl
theorem s92_69 : aW d 92 69 L (.int a :: .ref o :: S) h Q = (inb a (aI h o) ∧ aW d 92 70 L (.int (gI h o a.toNatClampNeg) :: S) h Q) := ax_iald mt92 dX10_hinder_69
theorem s92_70 : aW d 92 70 [l0, .int a, l2, l3, l4, l5] S h Q = aW d 92 71 [l0, .int a, l2, l3, l4, l5] (.int a :: S) h Q := ax_iload_n mt92 dX10_hinder_70 rfl
theorem s92_71 : aW d 92 71 L (.int b :: .int a :: S) h Q = (if a = b then aW d 92 74 L S h Q else aW d 92 80 L S h Q) := ax_icmp_ne mt92 dX10_hinder_71 (by decide)
theorem s92_74 : aW d 92 74 [l0, l1, l2, l3, .int a, l5] S h Q = aW d 92 76 [l0, l1, l2, l3, .int a, l5] (.int a :: S) h Q := ax_iload mt92 dX10_hinder_74 rfl
theorem s92_76 : aW d 92 76 [l0, l1, .int a, l3, l4, l5] S h Q = aW d 92 77 [l0, l1, .int a, l3, l4, l5] (.int a :: S) h Q := ax_iload_n mt92 dX10_hinder_76 rfl
theorem s92_77 : aW d 92 77 L (.int b :: .int a :: S) h Q = (if a = b then aW d 92 96 L S h Q else aW d 92 80 L S h Q) := ax_icmp_eq mt92 dX10_hinder_77 (by decide)
theorem s92_96 : aW d 92 96 L S h Q = aW d 92 97 L (.int (nI 1) :: S) h Q := ax_iconst mt92 dX10_hinder_96 ic_1
theorem s92_97 : aW d 92 97 L S h Q = aW d 92 101 L S h Q := ax_goto mt92 dX10_hinder_97 (by decide)
theorem s92_101 : aW d 92 101 [l0, l1, l2, l3, l4, l5] (.int a :: S) h Q = aW d 92 103 [l0, l1, l2, l3, l4, .int a] S h Q := ax_istore mt92 dX10_hinder_101 (Nat.le_of_ble_eq_true rfl) rfl
theorem s92_103 : aW d 92 103 [l0, l1, l2, l3, l4, .int a] S h Q = aW d 92 105 [l0, l1, l2, l3, l4, .int a] (.int a :: S) h Q := ax_iload mt92 dX10_hinder_103 rfl
theorem s92_105 : aW d 92 105 L (.int a :: S) h Q = (if a = 0 then aW d 92 108 L S h Q else aW d 92 112 L S h Q) := ax_if_ne mt92 dX10_hinder_105 (by decide)
theorem s92_108 : aW d 92 108 L S h Q = aW d 92 109 L (.int (nI 1) :: S) h Q := ax_iconst mt92 dX10_hinder_108 ic_1
theorem s92_109 : aW d 92 109 L S h Q = aW d 92 113 L S h Q := ax_goto mt92 dX10_hinder_109 (by decide)
theorem s92_113 : aW d 92 113 L [.int a] h Q = (b01 a ∧ Q (some (.int a)) h) := ax_retz mt92 dX10_hinder_113 rfl
theorem s92_112 : aW d 92 112 L S h Q = aW d 92 113 L (.int (nI 0) :: S) h Q := ax_iconst mt92 dX10_hinder_112 ic_0
theorem s92_80 : aW d 92 80 [.ref o, l1, l2, l3, l4, l5] S h Q = aW d 92 81 [.ref o, l1, l2, l3, l4, l5] (.ref o :: S) h Q := ax_aload_n mt92 dX10_hinder_80 rfl
theorem s92_81 (hT : gT h o = some (12, 9)) : aW d 92 81 L (.ref o :: S) h Q = (isRf (gR h o 5) = true ∧ aW d 92 84 L (gR h o 5 :: S) h Q) := ax_geta mt92 dX10_hinder_81 (by decide) ft_40982 fk_40982 hT
theorem s92_84 : aW d 92 84 [l0, l1, l2, .int a, l4, l5] S h Q = aW d 92 85 [l0, l1, l2, .int a, l4, l5] (.int a :: S) h Q := ax_iload_n mt92 dX10_hinder_84 rfl
theorem s92_85 : aW d 92 85 L (.int a :: .ref o :: S) h Q = (inb a (aI h o) ∧ aW d 92 86 L (.int (gI h o a.toNatClampNeg) :: S) h Q) := ax_iald mt92 dX10_hinder_85
theorem s92_86 : aW d 92 86 [l0, l1, .int a, l3, l4, l5] S h Q = aW d 92 87 [l0, l1, .int a, l3, l4, l5] (.int a :: S) h Q := ax_iload_n mt92 dX10_hinder_86 rfl
theorem s92_87 : aW d 92 87 L (.int b :: .int a :: S) h Q = (if a = b then aW d 92 90 L S h Q else aW d 92 100 L S h Q) := ax_icmp_ne mt92 dX10_hinder_87 (by decide)
theorem s92_90 : aW d 92 90 [l0, l1, l2, l3, .int a, l5] S h Q = aW d 92 92 [l0, l1, l2, l3, .int a, l5] (.int a :: S) h Q := ax_iload mt92 dX10_hinder_90 rfl
theorem s92_92 : aW d 92 92 [l0, .int a, l2, l3, l4, l5] S h Q = aW d 92 93 [l0, .int a, l2, l3, l4, l5] (.int a :: S) h Q := ax_iload_n mt92 dX10_hinder_92 rfl
theorem s92_93 : aW d 92 93 L (.int b :: .int a :: S) h Q = (if a = b then aW d 92 96 L S h Q else aW d 92 100 L S h Q) := ax_icmp_ne mt92 dX10_hinder_93 (by decide)
theorem s92_100 : aW d 92 100 L S h Q = aW d 92 101 L (.int (nI 0) :: S) h Q := ax_iconst mt92 dX10_hinder_100 ic_0
-- method 93: BufferRoom$Timeline.idlePlaces(I)I
theorem dX10_idlePlaces_0 : decode cX10_idlePlaces 0 = .ok (.iconst 0, 1) := by decide +kernel
theorem dX10_idlePlaces_1 : decode cX10_idlePlaces 1 = .ok (.istore_n 2, 1) := by decide +kernel
theorem dX10_idlePlaces_2 : decode cX10_idlePlaces 2 = .ok (.aload_n 0, 1) := by decide +kernel
theorem dX10_idlePlaces_3 : decode cX10_idlePlaces 3 = .ok (.getfield 28, 3) := by decide +kernel
theorem dX10_idlePlaces_6 : decode cX10_idlePlaces 6 = .ok (.iload_n 1, 1) := by decide +kernel
theorem dX10_idlePlaces_7 : decode cX10_idlePlaces 7 = .ok (.iaload, 1) := by decide +kernel
theorem dX10_idlePlaces_8 : decode cX10_idlePlaces 8 = .ok (.istore_n 3, 1) := by decide +kernel
theorem dX10_idlePlaces_9 : decode cX10_idlePlaces 9 = .ok (.iload_n 3, 1) := by decide +kernel
theorem dX10_idlePlaces_10 : decode cX10_idlePlaces 10 = .ok (.aload_n 0, 1) := by decide +kernel
theorem dX10_idlePlaces_11 : decode cX10_idlePlaces 11 = .ok (.getfield 31, 3) := by decide +kernel
theorem dX10_idlePlaces_14 : decode cX10_idlePlaces 14 = .ok (.iload_n 1, 1) := by decide +kernel
theorem dX10_idlePlaces_15 : decode cX10_idlePlaces 15 = .ok (.iaload, 1) := by decide +kernel
theorem dX10_idlePlaces_16 : decode cX10_idlePlaces 16 = .ok (.if_icmp .gt 50, 3) := by decide +kernel
theorem dX10_idlePlaces_19 : decode cX10_idlePlaces 19 = .ok (.aload_n 0, 1) := by decide +kernel
theorem dX10_idlePlaces_20 : decode cX10_idlePlaces 20 = .ok (.getfield 18, 3) := by decide +kernel
theorem dX10_idlePlaces_23 : decode cX10_idlePlaces 23 = .ok (.iload_n 3, 1) := by decide +kernel
theorem dX10_idlePlaces_24 : decode cX10_idlePlaces 24 = .ok (.iaload, 1) := by decide +kernel
theorem dX10_idlePlaces_25 : decode cX10_idlePlaces 25 = .ok (.istore 4, 2) := by decide +kernel
theorem dX10_idlePlaces_27 : decode cX10_idlePlaces 27 = .ok (.aload_n 0, 1) := by decide +kernel
theorem dX10_idlePlaces_28 : decode cX10_idlePlaces 28 = .ok (.getfield 34, 3) := by decide +kernel
theorem dX10_idlePlaces_31 : decode cX10_idlePlaces 31 = .ok (.getfield 85, 3) := by decide +kernel
theorem dX10_idlePlaces_34 : decode cX10_idlePlaces 34 = .ok (.iload 4, 2) := by decide +kernel
theorem dX10_idlePlaces_36 : decode cX10_idlePlaces 36 = .ok (.iaload, 1) := by decide +kernel
theorem dX10_idlePlaces_37 : decode cX10_idlePlaces 37 = .ok (.iload_n 1, 1) := by decide +kernel
theorem dX10_idlePlaces_38 : decode cX10_idlePlaces 38 = .ok (.if_icmp .eq 22, 3) := by decide +kernel
theorem dX10_idlePlaces_41 : decode cX10_idlePlaces 41 = .ok (.aload_n 0, 1) := by decide +kernel
theorem dX10_idlePlaces_42 : decode cX10_idlePlaces 42 = .ok (.getfield 34, 3) := by decide +kernel
theorem dX10_idlePlaces_45 : decode cX10_idlePlaces 45 = .ok (.iload_n 1, 1) := by decide +kernel
theorem dX10_idlePlaces_46 : decode cX10_idlePlaces 46 = .ok (.iload 4, 2) := by decide +kernel
theorem dX10_idlePlaces_48 : decode cX10_idlePlaces 48 = .ok (.invokevirtual 120, 3) := by decide +kernel
theorem dX10_idlePlaces_51 : decode cX10_idlePlaces 51 = .ok (.ifCond .ne 9, 3) := by decide +kernel
theorem dX10_idlePlaces_54 : decode cX10_idlePlaces 54 = .ok (.iload_n 2, 1) := by decide +kernel
theorem dX10_idlePlaces_55 : decode cX10_idlePlaces 55 = .ok (.iconst 1, 1) := by decide +kernel
theorem dX10_idlePlaces_56 : decode cX10_idlePlaces 56 = .ok (.iload_n 3, 1) := by decide +kernel
theorem dX10_idlePlaces_57 : decode cX10_idlePlaces 57 = .ok (.ishl, 1) := by decide +kernel
theorem dX10_idlePlaces_58 : decode cX10_idlePlaces 58 = .ok (.ior, 1) := by decide +kernel
theorem dX10_idlePlaces_59 : decode cX10_idlePlaces 59 = .ok (.istore_n 2, 1) := by decide +kernel
theorem dX10_idlePlaces_60 : decode cX10_idlePlaces 60 = .ok (.iinc 3 1, 3) := by decide +kernel
theorem dX10_idlePlaces_63 : decode cX10_idlePlaces 63 = .ok (.goto (-54), 3) := by decide +kernel
theorem dX10_idlePlaces_66 : decode cX10_idlePlaces 66 = .ok (.iload_n 2, 1) := by decide +kernel
theorem dX10_idlePlaces_67 : decode cX10_idlePlaces 67 = .ok (.ireturn, 1) := by decide +kernel
theorem s93_0 : aW d 93 0 L S h Q = aW d 93 1 L (.int (nI 0) :: S) h Q := ax_iconst mt93 dX10_idlePlaces_0 ic_0
theorem s93_1 : aW d 93 1 [l0, l1, l2, l3, l4] (.int a :: S) h Q = aW d 93 2 [l0, l1, .int a, l3, l4] S h Q := ax_istore_n mt93 dX10_idlePlaces_1 (Nat.le_of_ble_eq_true rfl) rfl
theorem s93_2 : aW d 93 2 [.ref o, l1, l2, l3, l4] S h Q = aW d 93 3 [.ref o, l1, l2, l3, l4] (.ref o :: S) h Q := ax_aload_n mt93 dX10_idlePlaces_2 rfl
theorem s93_3 (hT : gT h o = some (12, 9)) : aW d 93 3 L (.ref o :: S) h Q = (isRf (gR h o 7) = true ∧ aW d 93 6 L (gR h o 7 :: S) h Q) := ax_geta mt93 dX10_idlePlaces_3 (by decide) ft_40988 fk_40988 hT
theorem s93_6 : aW d 93 6 [l0, .int a, l2, l3, l4] S h Q = aW d 93 7 [l0, .int a, l2, l3, l4] (.int a :: S) h Q := ax_iload_n mt93 dX10_idlePlaces_6 rfl
theorem s93_7 : aW d 93 7 L (.int a :: .ref o :: S) h Q = (inb a (aI h o) ∧ aW d 93 8 L (.int (gI h o a.toNatClampNeg) :: S) h Q) := ax_iald mt93 dX10_idlePlaces_7
theorem s93_8 : aW d 93 8 [l0, l1, l2, l3, l4] (.int a :: S) h Q = aW d 93 9 [l0, l1, l2, .int a, l4] S h Q := ax_istore_n mt93 dX10_idlePlaces_8 (Nat.le_of_ble_eq_true rfl) rfl
theorem s93_9 : aW d 93 9 [l0, l1, l2, .int a, l4] S h Q = aW d 93 10 [l0, l1, l2, .int a, l4] (.int a :: S) h Q := ax_iload_n mt93 dX10_idlePlaces_9 rfl
theorem s93_10 : aW d 93 10 [.ref o, l1, l2, l3, l4] S h Q = aW d 93 11 [.ref o, l1, l2, l3, l4] (.ref o :: S) h Q := ax_aload_n mt93 dX10_idlePlaces_10 rfl
theorem s93_11 (hT : gT h o = some (12, 9)) : aW d 93 11 L (.ref o :: S) h Q = (isRf (gR h o 8) = true ∧ aW d 93 14 L (gR h o 8 :: S) h Q) := ax_geta mt93 dX10_idlePlaces_11 (by decide) ft_40991 fk_40991 hT
theorem s93_14 : aW d 93 14 [l0, .int a, l2, l3, l4] S h Q = aW d 93 15 [l0, .int a, l2, l3, l4] (.int a :: S) h Q := ax_iload_n mt93 dX10_idlePlaces_14 rfl
theorem s93_15 : aW d 93 15 L (.int a :: .ref o :: S) h Q = (inb a (aI h o) ∧ aW d 93 16 L (.int (gI h o a.toNatClampNeg) :: S) h Q) := ax_iald mt93 dX10_idlePlaces_15
theorem s93_16 : aW d 93 16 L (.int b :: .int a :: S) h Q = (if b < a then aW d 93 66 L S h Q else aW d 93 19 L S h Q) := ax_icmp_gt mt93 dX10_idlePlaces_16 (by decide)
theorem s93_19 : aW d 93 19 [.ref o, l1, l2, l3, l4] S h Q = aW d 93 20 [.ref o, l1, l2, l3, l4] (.ref o :: S) h Q := ax_aload_n mt93 dX10_idlePlaces_19 rfl
theorem s93_20 (hT : gT h o = some (12, 9)) : aW d 93 20 L (.ref o :: S) h Q = (isRf (gR h o 4) = true ∧ aW d 93 23 L (gR h o 4 :: S) h Q) := ax_geta mt93 dX10_idlePlaces_20 (by decide) ft_40978 fk_40978 hT
theorem s93_23 : aW d 93 23 [l0, l1, l2, .int a, l4] S h Q = aW d 93 24 [l0, l1, l2, .int a, l4] (.int a :: S) h Q := ax_iload_n mt93 dX10_idlePlaces_23 rfl
theorem s93_24 : aW d 93 24 L (.int a :: .ref o :: S) h Q = (inb a (aI h o) ∧ aW d 93 25 L (.int (gI h o a.toNatClampNeg) :: S) h Q) := ax_iald mt93 dX10_idlePlaces_24
theorem s93_25 : aW d 93 25 [l0, l1, l2, l3, l4] (.int a :: S) h Q = aW d 93 27 [l0, l1, l2, l3, .int a] S h Q := ax_istore mt93 dX10_idlePlaces_25 (Nat.le_of_ble_eq_true rfl) rfl
theorem s93_27 : aW d 93 27 [.ref o, l1, l2, l3, l4] S h Q = aW d 93 28 [.ref o, l1, l2, l3, l4] (.ref o :: S) h Q := ax_aload_n mt93 dX10_idlePlaces_27 rfl
theorem s93_28 (hT : gT h o = some (12, 9)) : aW d 93 28 L (.ref o :: S) h Q = (isRf (gR h o 1) = true ∧ aW d 93 31 L (gR h o 1 :: S) h Q) := ax_geta mt93 dX10_idlePlaces_28 (by decide) ft_40994 fk_40994 hT
theorem s93_31 (hT : gT h o = some (8, 12)) : aW d 93 31 L (.ref o :: S) h Q = (isRf (gR h o 9) = true ∧ aW d 93 34 L (gR h o 9 :: S) h Q) := ax_geta mt93 dX10_idlePlaces_31 (by decide) ft_41045 fk_41045 hT
theorem s93_34 : aW d 93 34 [l0, l1, l2, l3, .int a] S h Q = aW d 93 36 [l0, l1, l2, l3, .int a] (.int a :: S) h Q := ax_iload mt93 dX10_idlePlaces_34 rfl
theorem s93_36 : aW d 93 36 L (.int a :: .ref o :: S) h Q = (inb a (aI h o) ∧ aW d 93 37 L (.int (gI h o a.toNatClampNeg) :: S) h Q) := ax_iald mt93 dX10_idlePlaces_36
theorem s93_37 : aW d 93 37 [l0, .int a, l2, l3, l4] S h Q = aW d 93 38 [l0, .int a, l2, l3, l4] (.int a :: S) h Q := ax_iload_n mt93 dX10_idlePlaces_37 rfl
theorem s93_38 : aW d 93 38 L (.int b :: .int a :: S) h Q = (if a = b then aW d 93 60 L S h Q else aW d 93 41 L S h Q) := ax_icmp_eq mt93 dX10_idlePlaces_38 (by decide)
theorem s93_41 : aW d 93 41 [.ref o, l1, l2, l3, l4] S h Q = aW d 93 42 [.ref o, l1, l2, l3, l4] (.ref o :: S) h Q := ax_aload_n mt93 dX10_idlePlaces_41 rfl
theorem s93_42 (hT : gT h o = some (12, 9)) : aW d 93 42 L (.ref o :: S) h Q = (isRf (gR h o 1) = true ∧ aW d 93 45 L (gR h o 1 :: S) h Q) := ax_geta mt93 dX10_idlePlaces_42 (by decide) ft_40994 fk_40994 hT
theorem s93_45 : aW d 93 45 [l0, .int a, l2, l3, l4] S h Q = aW d 93 46 [l0, .int a, l2, l3, l4] (.int a :: S) h Q := ax_iload_n mt93 dX10_idlePlaces_45 rfl
theorem s93_46 : aW d 93 46 [l0, l1, l2, l3, .int a] S h Q = aW d 93 48 [l0, l1, l2, l3, .int a] (.int a :: S) h Q := ax_iload mt93 dX10_idlePlaces_46 rfl
theorem s93_48 (hT : gT h o = some (8, 12)) : aW (d + 1) 93 48 L (.int x1 :: .int x0 :: .ref o :: []) h Q = aM d 50 (.ref o :: [.int x0, .int x1]) h (fun v h1 => aW (d + 1) 93 51 L (ab_ps v []) h1 Q) := ax_invv mt93 dX10_idlePlaces_48 (by decide) ct_41080 (.inl rfl) mt50 ⟨⟨Nat.le_of_ble_eq_true rfl, Nat.le_of_ble_eq_true rfl, Nat.le_of_ble_eq_true rfl⟩, rfl, rfl, rfl⟩ hT
theorem s93_51 : aW d 93 51 L (.int a :: S) h Q = (if a = 0 then aW d 93 54 L S h Q else aW d 93 60 L S h Q) := ax_if_ne mt93 dX10_idlePlaces_51 (by decide)
theorem s93_54 : aW d 93 54 [l0, l1, .int a, l3, l4] S h Q = aW d 93 55 [l0, l1, .int a, l3, l4] (.int a :: S) h Q := ax_iload_n mt93 dX10_idlePlaces_54 rfl
theorem s93_55 : aW d 93 55 L S h Q = aW d 93 56 L (.int (nI 1) :: S) h Q := ax_iconst mt93 dX10_idlePlaces_55 ic_1
theorem s93_56 : aW d 93 56 [l0, l1, l2, .int a, l4] S h Q = aW d 93 57 [l0, l1, l2, .int a, l4] (.int a :: S) h Q := ax_iload_n mt93 dX10_idlePlaces_56 rfl
theorem s93_57 : aW d 93 57 L (.int b :: .int a :: S) h Q = aW d 93 58 L (.int (a <<< (b &&& 31)) :: S) h Q := ax_ishl mt93 dX10_idlePlaces_57
theorem s93_58 : aW d 93 58 L (.int b :: .int a :: S) h Q = aW d 93 59 L (.int (a ||| b) :: S) h Q := ax_ior mt93 dX10_idlePlaces_58
theorem s93_59 : aW d 93 59 [l0, l1, l2, l3, l4] (.int a :: S) h Q = aW d 93 60 [l0, l1, .int a, l3, l4] S h Q := ax_istore_n mt93 dX10_idlePlaces_59 (Nat.le_of_ble_eq_true rfl) rfl
theorem s93_60 : aW d 93 60 [l0, l1, l2, .int a, l4] S h Q = aW d 93 63 [l0, l1, l2, .int (a + nI 1), l4] S h Q := ax_iinc mt93 dX10_idlePlaces_60 rfl ic_1 rfl
theorem s93_63 : aW d 93 63 L S h Q = aW d 93 9 L S h Q := ax_goto mt93 dX10_idlePlaces_63 (by decide)
theorem s93_66 : aW d 93 66 [l0, l1, .int a, l3, l4] S h Q = aW d 93 67 [l0, l1, .int a, l3, l4] (.int a :: S) h Q := ax_iload_n mt93 dX10_idlePlaces_66 rfl
theorem s93_67 : aW d 93 67 L [.int a] h Q = Q (some (.int a)) h := ax_reti mt93 dX10_idlePlaces_67 rfl
end S
