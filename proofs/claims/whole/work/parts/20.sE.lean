section S
variable {d o o2 p0 p1 p2 p3 p4 q0 q1 q2 q3 q4 q5 : Nat} {L S : List Value} {h : abH} {Q : Option Value → abH → Prop} {l0 l1 l2 l3 l4 l5 l6 l7 l8 l9 l10 l11 l12 l13 l14 l15 l16 l17 l18 l19 : Value} {a b x0 x1 x2 x3 x4 x5 y0 y1 y2 y3 y4 y5 : Int32} {u w u0 w0 w1 w2 w3 w4 : Int64}
-- method 170: BufferRoomModel.loadAt(I)I
theorem dX12_loadAt_0 : decode cX12_loadAt 0 = .ok (.aload_n 0, 1) := by decide +kernel
theorem dX12_loadAt_1 : decode cX12_loadAt 1 = .ok (.aload_n 0, 1) := by decide +kernel
theorem dX12_loadAt_2 : decode cX12_loadAt 2 = .ok (.getfield 104, 3) := by decide +kernel
theorem dX12_loadAt_5 : decode cX12_loadAt 5 = .ok (.iload_n 1, 1) := by decide +kernel
theorem dX12_loadAt_6 : decode cX12_loadAt 6 = .ok (.iaload, 1) := by decide +kernel
theorem dX12_loadAt_7 : decode cX12_loadAt 7 = .ok (.invokevirtual 228, 3) := by decide +kernel
theorem dX12_loadAt_10 : decode cX12_loadAt 10 = .ok (.istore_n 2, 1) := by decide +kernel
theorem dX12_loadAt_11 : decode cX12_loadAt 11 = .ok (.iconst 0, 1) := by decide +kernel
theorem dX12_loadAt_12 : decode cX12_loadAt 12 = .ok (.istore_n 3, 1) := by decide +kernel
theorem dX12_loadAt_13 : decode cX12_loadAt 13 = .ok (.iload_n 3, 1) := by decide +kernel
theorem dX12_loadAt_14 : decode cX12_loadAt 14 = .ok (.bipush 12, 2) := by decide +kernel
theorem dX12_loadAt_16 : decode cX12_loadAt 16 = .ok (.if_icmp .ge 30, 3) := by decide +kernel
theorem dX12_loadAt_19 : decode cX12_loadAt 19 = .ok (.iload_n 2, 1) := by decide +kernel
theorem dX12_loadAt_20 : decode cX12_loadAt 20 = .ok (.aload_n 0, 1) := by decide +kernel
theorem dX12_loadAt_21 : decode cX12_loadAt 21 = .ok (.iload_n 3, 1) := by decide +kernel
theorem dX12_loadAt_22 : decode cX12_loadAt 22 = .ok (.iload_n 1, 1) := by decide +kernel
theorem dX12_loadAt_23 : decode cX12_loadAt 23 = .ok (.invokevirtual 231, 3) := by decide +kernel
theorem dX12_loadAt_26 : decode cX12_loadAt 26 = .ok (.ifCond .eq 11, 3) := by decide +kernel
theorem dX12_loadAt_29 : decode cX12_loadAt 29 = .ok (.aload_n 0, 1) := by decide +kernel
theorem dX12_loadAt_30 : decode cX12_loadAt 30 = .ok (.iload_n 3, 1) := by decide +kernel
theorem dX12_loadAt_31 : decode cX12_loadAt 31 = .ok (.invokevirtual 204, 3) := by decide +kernel
theorem dX12_loadAt_34 : decode cX12_loadAt 34 = .ok (.goto 4, 3) := by decide +kernel
theorem dX12_loadAt_37 : decode cX12_loadAt 37 = .ok (.iconst 0, 1) := by decide +kernel
theorem dX12_loadAt_38 : decode cX12_loadAt 38 = .ok (.iadd, 1) := by decide +kernel
theorem dX12_loadAt_39 : decode cX12_loadAt 39 = .ok (.istore_n 2, 1) := by decide +kernel
theorem dX12_loadAt_40 : decode cX12_loadAt 40 = .ok (.iinc 3 1, 3) := by decide +kernel
theorem dX12_loadAt_43 : decode cX12_loadAt 43 = .ok (.goto (-30), 3) := by decide +kernel
theorem dX12_loadAt_46 : decode cX12_loadAt 46 = .ok (.aload_n 0, 1) := by decide +kernel
theorem dX12_loadAt_47 : decode cX12_loadAt 47 = .ok (.iload_n 1, 1) := by decide +kernel
theorem dX12_loadAt_48 : decode cX12_loadAt 48 = .ok (.invokevirtual 234, 3) := by decide +kernel
theorem dX12_loadAt_51 : decode cX12_loadAt 51 = .ok (.istore_n 3, 1) := by decide +kernel
theorem dX12_loadAt_52 : decode cX12_loadAt 52 = .ok (.iload_n 3, 1) := by decide +kernel
theorem dX12_loadAt_53 : decode cX12_loadAt 53 = .ok (.iconst (-1), 1) := by decide +kernel
theorem dX12_loadAt_54 : decode cX12_loadAt 54 = .ok (.if_icmp .eq 44, 3) := by decide +kernel
theorem dX12_loadAt_57 : decode cX12_loadAt 57 = .ok (.aload_n 0, 1) := by decide +kernel
theorem dX12_loadAt_58 : decode cX12_loadAt 58 = .ok (.iload_n 3, 1) := by decide +kernel
theorem dX12_loadAt_59 : decode cX12_loadAt 59 = .ok (.invokevirtual 204, 3) := by decide +kernel
theorem dX12_loadAt_62 : decode cX12_loadAt 62 = .ok (.istore 4, 2) := by decide +kernel
theorem dX12_loadAt_64 : decode cX12_loadAt 64 = .ok (.aload_n 0, 1) := by decide +kernel
theorem dX12_loadAt_65 : decode cX12_loadAt 65 = .ok (.aload_n 0, 1) := by decide +kernel
theorem dX12_loadAt_66 : decode cX12_loadAt 66 = .ok (.getfield 38, 3) := by decide +kernel
theorem dX12_loadAt_69 : decode cX12_loadAt 69 = .ok (.aload_n 0, 1) := by decide +kernel
theorem dX12_loadAt_70 : decode cX12_loadAt 70 = .ok (.getfield 104, 3) := by decide +kernel
theorem dX12_loadAt_73 : decode cX12_loadAt 73 = .ok (.iload_n 1, 1) := by decide +kernel
theorem dX12_loadAt_74 : decode cX12_loadAt 74 = .ok (.iaload, 1) := by decide +kernel
theorem dX12_loadAt_75 : decode cX12_loadAt 75 = .ok (.iaload, 1) := by decide +kernel
theorem dX12_loadAt_76 : decode cX12_loadAt 76 = .ok (.invokevirtual 204, 3) := by decide +kernel
theorem dX12_loadAt_79 : decode cX12_loadAt 79 = .ok (.istore 5, 2) := by decide +kernel
theorem dX12_loadAt_81 : decode cX12_loadAt 81 = .ok (.iload_n 2, 1) := by decide +kernel
theorem dX12_loadAt_82 : decode cX12_loadAt 82 = .ok (.iload 4, 2) := by decide +kernel
theorem dX12_loadAt_84 : decode cX12_loadAt 84 = .ok (.iload 5, 2) := by decide +kernel
theorem dX12_loadAt_86 : decode cX12_loadAt 86 = .ok (.if_icmp .ge 8, 3) := by decide +kernel
theorem dX12_loadAt_89 : decode cX12_loadAt 89 = .ok (.iload 4, 2) := by decide +kernel
theorem dX12_loadAt_91 : decode cX12_loadAt 91 = .ok (.goto 5, 3) := by decide +kernel
theorem dX12_loadAt_94 : decode cX12_loadAt 94 = .ok (.iload 5, 2) := by decide +kernel
theorem dX12_loadAt_96 : decode cX12_loadAt 96 = .ok (.isub, 1) := by decide +kernel
theorem dX12_loadAt_97 : decode cX12_loadAt 97 = .ok (.istore_n 2, 1) := by decide +kernel
theorem dX12_loadAt_98 : decode cX12_loadAt 98 = .ok (.iload_n 2, 1) := by decide +kernel
theorem dX12_loadAt_99 : decode cX12_loadAt 99 = .ok (.ireturn, 1) := by decide +kernel
theorem s170_0 : aW d 170 0 [.ref o, l1, l2, l3, l4, l5] S h Q = aW d 170 1 [.ref o, l1, l2, l3, l4, l5] (.ref o :: S) h Q := ax_aload_n mt170 dX12_loadAt_0 rfl
theorem s170_1 : aW d 170 1 [.ref o, l1, l2, l3, l4, l5] S h Q = aW d 170 2 [.ref o, l1, l2, l3, l4, l5] (.ref o :: S) h Q := ax_aload_n mt170 dX12_loadAt_1 rfl
theorem s170_2 (hT : gT h o = some (14, 54)) : aW d 170 2 L (.ref o :: S) h Q = (isRf (gR h o 46) = true ∧ aW d 170 5 L (gR h o 46 :: S) h Q) := ax_geta mt170 dX12_loadAt_2 (by decide) ft_49256 fk_49256 hT
theorem s170_5 : aW d 170 5 [l0, .int a, l2, l3, l4, l5] S h Q = aW d 170 6 [l0, .int a, l2, l3, l4, l5] (.int a :: S) h Q := ax_iload_n mt170 dX12_loadAt_5 rfl
theorem s170_6 : aW d 170 6 L (.int a :: .ref o :: S) h Q = (inb a (aI h o) ∧ aW d 170 7 L (.int (gI h o a.toNatClampNeg) :: S) h Q) := ax_iald mt170 dX12_loadAt_6
theorem s170_7 (hT : gT h o = some (14, 54)) : aW (d + 1) 170 7 L (.int x0 :: .ref o :: []) h Q = aM d 159 (.ref o :: [.int x0]) h (fun v h1 => aW (d + 1) 170 10 L (ab_ps v []) h1 Q) := ax_invv mt170 dX12_loadAt_7 (by decide) ct_49380 (.inl rfl) mt159 ⟨⟨Nat.le_of_ble_eq_true rfl, Nat.le_of_ble_eq_true rfl, Nat.le_of_ble_eq_true rfl⟩, rfl, rfl, rfl⟩ hT
theorem s170_10 : aW d 170 10 [l0, l1, l2, l3, l4, l5] (.int a :: S) h Q = aW d 170 11 [l0, l1, .int a, l3, l4, l5] S h Q := ax_istore_n mt170 dX12_loadAt_10 (Nat.le_of_ble_eq_true rfl) rfl
theorem s170_11 : aW d 170 11 L S h Q = aW d 170 12 L (.int (nI 0) :: S) h Q := ax_iconst mt170 dX12_loadAt_11 ic_0
theorem s170_12 : aW d 170 12 [l0, l1, l2, l3, l4, l5] (.int a :: S) h Q = aW d 170 13 [l0, l1, l2, .int a, l4, l5] S h Q := ax_istore_n mt170 dX12_loadAt_12 (Nat.le_of_ble_eq_true rfl) rfl
theorem s170_13 : aW d 170 13 [l0, l1, l2, .int a, l4, l5] S h Q = aW d 170 14 [l0, l1, l2, .int a, l4, l5] (.int a :: S) h Q := ax_iload_n mt170 dX12_loadAt_13 rfl
theorem s170_14 : aW d 170 14 L S h Q = aW d 170 16 L (.int (nI 12) :: S) h Q := ax_bipush mt170 dX12_loadAt_14 bp_12
theorem s170_16 : aW d 170 16 L (.int b :: .int a :: S) h Q = (if a < b then aW d 170 19 L S h Q else aW d 170 46 L S h Q) := ax_icmp_ge mt170 dX12_loadAt_16 (by decide)
theorem s170_19 : aW d 170 19 [l0, l1, .int a, l3, l4, l5] S h Q = aW d 170 20 [l0, l1, .int a, l3, l4, l5] (.int a :: S) h Q := ax_iload_n mt170 dX12_loadAt_19 rfl
theorem s170_20 : aW d 170 20 [.ref o, l1, l2, l3, l4, l5] S h Q = aW d 170 21 [.ref o, l1, l2, l3, l4, l5] (.ref o :: S) h Q := ax_aload_n mt170 dX12_loadAt_20 rfl
theorem s170_21 : aW d 170 21 [l0, l1, l2, .int a, l4, l5] S h Q = aW d 170 22 [l0, l1, l2, .int a, l4, l5] (.int a :: S) h Q := ax_iload_n mt170 dX12_loadAt_21 rfl
theorem s170_22 : aW d 170 22 [l0, .int a, l2, l3, l4, l5] S h Q = aW d 170 23 [l0, .int a, l2, l3, l4, l5] (.int a :: S) h Q := ax_iload_n mt170 dX12_loadAt_22 rfl
theorem s170_23 (hT : gT h o = some (14, 54)) : aW (d + 1) 170 23 L (.int x1 :: .int x0 :: .ref o :: [.int y0]) h Q = aM d 165 (.ref o :: [.int x0, .int x1]) h (fun v h1 => aW (d + 1) 170 26 L (ab_ps v [.int y0]) h1 Q) := ax_invv mt170 dX12_loadAt_23 (by decide) ct_49383 (.inl rfl) mt165 ⟨⟨Nat.le_of_ble_eq_true rfl, Nat.le_of_ble_eq_true rfl, Nat.le_of_ble_eq_true rfl⟩, rfl, rfl, rfl⟩ hT
theorem s170_26 : aW d 170 26 L (.int a :: S) h Q = (if a = 0 then aW d 170 37 L S h Q else aW d 170 29 L S h Q) := ax_if_eq mt170 dX12_loadAt_26 (by decide)
theorem s170_29 : aW d 170 29 [.ref o, l1, l2, l3, l4, l5] S h Q = aW d 170 30 [.ref o, l1, l2, l3, l4, l5] (.ref o :: S) h Q := ax_aload_n mt170 dX12_loadAt_29 rfl
theorem s170_30 : aW d 170 30 [l0, l1, l2, .int a, l4, l5] S h Q = aW d 170 31 [l0, l1, l2, .int a, l4, l5] (.int a :: S) h Q := ax_iload_n mt170 dX12_loadAt_30 rfl
theorem s170_31 (hT : gT h o = some (14, 54)) : aW (d + 1) 170 31 L (.int x0 :: .ref o :: [.int y0]) h Q = aM d 154 (.ref o :: [.int x0]) h (fun v h1 => aW (d + 1) 170 34 L (ab_ps v [.int y0]) h1 Q) := ax_invv mt170 dX12_loadAt_31 (by decide) ct_49356 (.inl rfl) mt154 ⟨⟨Nat.le_of_ble_eq_true rfl, Nat.le_of_ble_eq_true rfl, Nat.le_of_ble_eq_true rfl⟩, rfl, rfl, rfl⟩ hT
theorem s170_34 : aW d 170 34 L S h Q = aW d 170 38 L S h Q := ax_goto mt170 dX12_loadAt_34 (by decide)
theorem s170_38 : aW d 170 38 L (.int b :: .int a :: S) h Q = aW d 170 39 L (.int (a + b) :: S) h Q := ax_iadd mt170 dX12_loadAt_38
theorem s170_39 : aW d 170 39 [l0, l1, l2, l3, l4, l5] (.int a :: S) h Q = aW d 170 40 [l0, l1, .int a, l3, l4, l5] S h Q := ax_istore_n mt170 dX12_loadAt_39 (Nat.le_of_ble_eq_true rfl) rfl
theorem s170_40 : aW d 170 40 [l0, l1, l2, .int a, l4, l5] S h Q = aW d 170 43 [l0, l1, l2, .int (a + nI 1), l4, l5] S h Q := ax_iinc mt170 dX12_loadAt_40 rfl ic_1 rfl
theorem s170_43 : aW d 170 43 L S h Q = aW d 170 13 L S h Q := ax_goto mt170 dX12_loadAt_43 (by decide)
theorem s170_37 : aW d 170 37 L S h Q = aW d 170 38 L (.int (nI 0) :: S) h Q := ax_iconst mt170 dX12_loadAt_37 ic_0
theorem s170_46 : aW d 170 46 [.ref o, l1, l2, l3, l4, l5] S h Q = aW d 170 47 [.ref o, l1, l2, l3, l4, l5] (.ref o :: S) h Q := ax_aload_n mt170 dX12_loadAt_46 rfl
theorem s170_47 : aW d 170 47 [l0, .int a, l2, l3, l4, l5] S h Q = aW d 170 48 [l0, .int a, l2, l3, l4, l5] (.int a :: S) h Q := ax_iload_n mt170 dX12_loadAt_47 rfl
theorem s170_48 (hT : gT h o = some (14, 54)) : aW (d + 1) 170 48 L (.int x0 :: .ref o :: []) h Q = aM d 169 (.ref o :: [.int x0]) h (fun v h1 => aW (d + 1) 170 51 L (ab_ps v []) h1 Q) := ax_invv mt170 dX12_loadAt_48 (by decide) ct_49386 (.inl rfl) mt169 ⟨⟨Nat.le_of_ble_eq_true rfl, Nat.le_of_ble_eq_true rfl, Nat.le_of_ble_eq_true rfl⟩, rfl, rfl, rfl⟩ hT
theorem s170_51 : aW d 170 51 [l0, l1, l2, l3, l4, l5] (.int a :: S) h Q = aW d 170 52 [l0, l1, l2, .int a, l4, l5] S h Q := ax_istore_n mt170 dX12_loadAt_51 (Nat.le_of_ble_eq_true rfl) rfl
theorem s170_52 : aW d 170 52 [l0, l1, l2, .int a, l4, l5] S h Q = aW d 170 53 [l0, l1, l2, .int a, l4, l5] (.int a :: S) h Q := ax_iload_n mt170 dX12_loadAt_52 rfl
theorem s170_53 : aW d 170 53 L S h Q = aW d 170 54 L (.int ((-1)) :: S) h Q := ax_iconst mt170 dX12_loadAt_53 ic_m1
theorem s170_54 : aW d 170 54 L (.int b :: .int a :: S) h Q = (if a = b then aW d 170 98 L S h Q else aW d 170 57 L S h Q) := ax_icmp_eq mt170 dX12_loadAt_54 (by decide)
theorem s170_57 : aW d 170 57 [.ref o, l1, l2, l3, l4, l5] S h Q = aW d 170 58 [.ref o, l1, l2, l3, l4, l5] (.ref o :: S) h Q := ax_aload_n mt170 dX12_loadAt_57 rfl
theorem s170_58 : aW d 170 58 [l0, l1, l2, .int a, l4, l5] S h Q = aW d 170 59 [l0, l1, l2, .int a, l4, l5] (.int a :: S) h Q := ax_iload_n mt170 dX12_loadAt_58 rfl
theorem s170_59 (hT : gT h o = some (14, 54)) : aW (d + 1) 170 59 L (.int x0 :: .ref o :: []) h Q = aM d 154 (.ref o :: [.int x0]) h (fun v h1 => aW (d + 1) 170 62 L (ab_ps v []) h1 Q) := ax_invv mt170 dX12_loadAt_59 (by decide) ct_49356 (.inl rfl) mt154 ⟨⟨Nat.le_of_ble_eq_true rfl, Nat.le_of_ble_eq_true rfl, Nat.le_of_ble_eq_true rfl⟩, rfl, rfl, rfl⟩ hT
theorem s170_62 : aW d 170 62 [l0, l1, l2, l3, l4, l5] (.int a :: S) h Q = aW d 170 64 [l0, l1, l2, l3, .int a, l5] S h Q := ax_istore mt170 dX12_loadAt_62 (Nat.le_of_ble_eq_true rfl) rfl
theorem s170_64 : aW d 170 64 [.ref o, l1, l2, l3, l4, l5] S h Q = aW d 170 65 [.ref o, l1, l2, l3, l4, l5] (.ref o :: S) h Q := ax_aload_n mt170 dX12_loadAt_64 rfl
theorem s170_65 : aW d 170 65 [.ref o, l1, l2, l3, l4, l5] S h Q = aW d 170 66 [.ref o, l1, l2, l3, l4, l5] (.ref o :: S) h Q := ax_aload_n mt170 dX12_loadAt_65 rfl
theorem s170_66 (hT : gT h o = some (14, 54)) : aW d 170 66 L (.ref o :: S) h Q = (isRf (gR h o 12) = true ∧ aW d 170 69 L (gR h o 12 :: S) h Q) := ax_geta mt170 dX12_loadAt_66 (by decide) ft_49190 fk_49190 hT
theorem s170_69 : aW d 170 69 [.ref o, l1, l2, l3, l4, l5] S h Q = aW d 170 70 [.ref o, l1, l2, l3, l4, l5] (.ref o :: S) h Q := ax_aload_n mt170 dX12_loadAt_69 rfl
theorem s170_70 (hT : gT h o = some (14, 54)) : aW d 170 70 L (.ref o :: S) h Q = (isRf (gR h o 46) = true ∧ aW d 170 73 L (gR h o 46 :: S) h Q) := ax_geta mt170 dX12_loadAt_70 (by decide) ft_49256 fk_49256 hT
theorem s170_73 : aW d 170 73 [l0, .int a, l2, l3, l4, l5] S h Q = aW d 170 74 [l0, .int a, l2, l3, l4, l5] (.int a :: S) h Q := ax_iload_n mt170 dX12_loadAt_73 rfl
theorem s170_74 : aW d 170 74 L (.int a :: .ref o :: S) h Q = (inb a (aI h o) ∧ aW d 170 75 L (.int (gI h o a.toNatClampNeg) :: S) h Q) := ax_iald mt170 dX12_loadAt_74
theorem s170_75 : aW d 170 75 L (.int a :: .ref o :: S) h Q = (inb a (aI h o) ∧ aW d 170 76 L (.int (gI h o a.toNatClampNeg) :: S) h Q) := ax_iald mt170 dX12_loadAt_75
theorem s170_76 (hT : gT h o = some (14, 54)) : aW (d + 1) 170 76 L (.int x0 :: .ref o :: []) h Q = aM d 154 (.ref o :: [.int x0]) h (fun v h1 => aW (d + 1) 170 79 L (ab_ps v []) h1 Q) := ax_invv mt170 dX12_loadAt_76 (by decide) ct_49356 (.inl rfl) mt154 ⟨⟨Nat.le_of_ble_eq_true rfl, Nat.le_of_ble_eq_true rfl, Nat.le_of_ble_eq_true rfl⟩, rfl, rfl, rfl⟩ hT
theorem s170_79 : aW d 170 79 [l0, l1, l2, l3, l4, l5] (.int a :: S) h Q = aW d 170 81 [l0, l1, l2, l3, l4, .int a] S h Q := ax_istore mt170 dX12_loadAt_79 (Nat.le_of_ble_eq_true rfl) rfl
theorem s170_81 : aW d 170 81 [l0, l1, .int a, l3, l4, l5] S h Q = aW d 170 82 [l0, l1, .int a, l3, l4, l5] (.int a :: S) h Q := ax_iload_n mt170 dX12_loadAt_81 rfl
theorem s170_82 : aW d 170 82 [l0, l1, l2, l3, .int a, l5] S h Q = aW d 170 84 [l0, l1, l2, l3, .int a, l5] (.int a :: S) h Q := ax_iload mt170 dX12_loadAt_82 rfl
theorem s170_84 : aW d 170 84 [l0, l1, l2, l3, l4, .int a] S h Q = aW d 170 86 [l0, l1, l2, l3, l4, .int a] (.int a :: S) h Q := ax_iload mt170 dX12_loadAt_84 rfl
theorem s170_86 : aW d 170 86 L (.int b :: .int a :: S) h Q = (if a < b then aW d 170 89 L S h Q else aW d 170 94 L S h Q) := ax_icmp_ge mt170 dX12_loadAt_86 (by decide)
theorem s170_89 : aW d 170 89 [l0, l1, l2, l3, .int a, l5] S h Q = aW d 170 91 [l0, l1, l2, l3, .int a, l5] (.int a :: S) h Q := ax_iload mt170 dX12_loadAt_89 rfl
theorem s170_91 : aW d 170 91 L S h Q = aW d 170 96 L S h Q := ax_goto mt170 dX12_loadAt_91 (by decide)
theorem s170_96 : aW d 170 96 L (.int b :: .int a :: S) h Q = aW d 170 97 L (.int (a - b) :: S) h Q := ax_isub mt170 dX12_loadAt_96
theorem s170_97 : aW d 170 97 [l0, l1, l2, l3, l4, l5] (.int a :: S) h Q = aW d 170 98 [l0, l1, .int a, l3, l4, l5] S h Q := ax_istore_n mt170 dX12_loadAt_97 (Nat.le_of_ble_eq_true rfl) rfl
theorem s170_94 : aW d 170 94 [l0, l1, l2, l3, l4, .int a] S h Q = aW d 170 96 [l0, l1, l2, l3, l4, .int a] (.int a :: S) h Q := ax_iload mt170 dX12_loadAt_94 rfl
theorem s170_98 : aW d 170 98 [l0, l1, .int a, l3, l4, l5] S h Q = aW d 170 99 [l0, l1, .int a, l3, l4, l5] (.int a :: S) h Q := ax_iload_n mt170 dX12_loadAt_98 rfl
theorem s170_99 : aW d 170 99 L [.int a] h Q = Q (some (.int a)) h := ax_reti mt170 dX12_loadAt_99 rfl
-- method 171: BufferRoomModel.load(I)I
theorem dX12_load_0 : decode cX12_load 0 = .ok (.aload_n 0, 1) := by decide +kernel
theorem dX12_load_1 : decode cX12_load 1 = .ok (.iload_n 1, 1) := by decide +kernel
theorem dX12_load_2 : decode cX12_load 2 = .ok (.invokevirtual 222, 3) := by decide +kernel
theorem dX12_load_5 : decode cX12_load 5 = .ok (.ifCond .ne 8, 3) := by decide +kernel
theorem dX12_load_8 : decode cX12_load 8 = .ok (.bipush (-5), 2) := by decide +kernel
theorem dX12_load_10 : decode cX12_load 10 = .ok (.goto 20, 3) := by decide +kernel
theorem dX12_load_13 : decode cX12_load 13 = .ok (.aload_n 0, 1) := by decide +kernel
theorem dX12_load_14 : decode cX12_load 14 = .ok (.invokevirtual 225, 3) := by decide +kernel
theorem dX12_load_17 : decode cX12_load 17 = .ok (.ifCond .eq 11, 3) := by decide +kernel
theorem dX12_load_20 : decode cX12_load 20 = .ok (.aload_n 0, 1) := by decide +kernel
theorem dX12_load_21 : decode cX12_load 21 = .ok (.iload_n 1, 1) := by decide +kernel
theorem dX12_load_22 : decode cX12_load 22 = .ok (.invokevirtual 237, 3) := by decide +kernel
theorem dX12_load_25 : decode cX12_load 25 = .ok (.goto 5, 3) := by decide +kernel
theorem dX12_load_28 : decode cX12_load 28 = .ok (.bipush (-3), 2) := by decide +kernel
theorem dX12_load_30 : decode cX12_load 30 = .ok (.ireturn, 1) := by decide +kernel
theorem s171_0 : aW d 171 0 [.ref o, l1] S h Q = aW d 171 1 [.ref o, l1] (.ref o :: S) h Q := ax_aload_n mt171 dX12_load_0 rfl
theorem s171_1 : aW d 171 1 [l0, .int a] S h Q = aW d 171 2 [l0, .int a] (.int a :: S) h Q := ax_iload_n mt171 dX12_load_1 rfl
theorem s171_2 (hT : gT h o = some (14, 54)) : aW (d + 1) 171 2 L (.int x0 :: .ref o :: []) h Q = aM d 167 (.ref o :: [.int x0]) h (fun v h1 => aW (d + 1) 171 5 L (ab_ps v []) h1 Q) := ax_invv mt171 dX12_load_2 (by decide) ct_49374 (.inl rfl) mt167 ⟨⟨Nat.le_of_ble_eq_true rfl, Nat.le_of_ble_eq_true rfl, Nat.le_of_ble_eq_true rfl⟩, rfl, rfl, rfl⟩ hT
theorem s171_5 : aW d 171 5 L (.int a :: S) h Q = (if a = 0 then aW d 171 8 L S h Q else aW d 171 13 L S h Q) := ax_if_ne mt171 dX12_load_5 (by decide)
theorem s171_8 : aW d 171 8 L S h Q = aW d 171 10 L (.int ((-5)) :: S) h Q := ax_bipush mt171 dX12_load_8 bp_m5
theorem s171_10 : aW d 171 10 L S h Q = aW d 171 30 L S h Q := ax_goto mt171 dX12_load_10 (by decide)
theorem s171_30 : aW d 171 30 L [.int a] h Q = Q (some (.int a)) h := ax_reti mt171 dX12_load_30 rfl
theorem s171_13 : aW d 171 13 [.ref o, l1] S h Q = aW d 171 14 [.ref o, l1] (.ref o :: S) h Q := ax_aload_n mt171 dX12_load_13 rfl
theorem s171_14 (hT : gT h o = some (14, 54)) : aW (d + 1) 171 14 L (.ref o :: []) h Q = aM d 163 (.ref o :: []) h (fun v h1 => aW (d + 1) 171 17 L (ab_ps v []) h1 Q) := ax_invv mt171 dX12_load_14 (by decide) ct_49377 (.inl rfl) mt163 ⟨⟨Nat.le_of_ble_eq_true rfl, Nat.le_of_ble_eq_true rfl, Nat.le_of_ble_eq_true rfl⟩, rfl, rfl, rfl⟩ hT
theorem s171_17 : aW d 171 17 L (.int a :: S) h Q = (if a = 0 then aW d 171 28 L S h Q else aW d 171 20 L S h Q) := ax_if_eq mt171 dX12_load_17 (by decide)
theorem s171_20 : aW d 171 20 [.ref o, l1] S h Q = aW d 171 21 [.ref o, l1] (.ref o :: S) h Q := ax_aload_n mt171 dX12_load_20 rfl
theorem s171_21 : aW d 171 21 [l0, .int a] S h Q = aW d 171 22 [l0, .int a] (.int a :: S) h Q := ax_iload_n mt171 dX12_load_21 rfl
theorem s171_22 (hT : gT h o = some (14, 54)) : aW (d + 1) 171 22 L (.int x0 :: .ref o :: []) h Q = aM d 170 (.ref o :: [.int x0]) h (fun v h1 => aW (d + 1) 171 25 L (ab_ps v []) h1 Q) := ax_invv mt171 dX12_load_22 (by decide) ct_49389 (.inl rfl) mt170 ⟨⟨Nat.le_of_ble_eq_true rfl, Nat.le_of_ble_eq_true rfl, Nat.le_of_ble_eq_true rfl⟩, rfl, rfl, rfl⟩ hT
theorem s171_25 : aW d 171 25 L S h Q = aW d 171 30 L S h Q := ax_goto mt171 dX12_load_25 (by decide)
theorem s171_28 : aW d 171 28 L S h Q = aW d 171 30 L (.int ((-3)) :: S) h Q := ax_bipush mt171 dX12_load_28 bp_m3
-- method 172: BufferRoomModel.over(I)I
theorem dX12_over_0 : decode cX12_over 0 = .ok (.aload_n 0, 1) := by decide +kernel
theorem dX12_over_1 : decode cX12_over 1 = .ok (.iload_n 1, 1) := by decide +kernel
theorem dX12_over_2 : decode cX12_over 2 = .ok (.invokevirtual 222, 3) := by decide +kernel
theorem dX12_over_5 : decode cX12_over 5 = .ok (.ifCond .ne 8, 3) := by decide +kernel
theorem dX12_over_8 : decode cX12_over 8 = .ok (.bipush (-5), 2) := by decide +kernel
theorem dX12_over_10 : decode cX12_over 10 = .ok (.goto 20, 3) := by decide +kernel
theorem dX12_over_13 : decode cX12_over 13 = .ok (.aload_n 0, 1) := by decide +kernel
theorem dX12_over_14 : decode cX12_over 14 = .ok (.invokevirtual 225, 3) := by decide +kernel
theorem dX12_over_17 : decode cX12_over 17 = .ok (.ifCond .eq 11, 3) := by decide +kernel
theorem dX12_over_20 : decode cX12_over 20 = .ok (.aload_n 0, 1) := by decide +kernel
theorem dX12_over_21 : decode cX12_over 21 = .ok (.iload_n 1, 1) := by decide +kernel
theorem dX12_over_22 : decode cX12_over 22 = .ok (.invokevirtual 234, 3) := by decide +kernel
theorem dX12_over_25 : decode cX12_over 25 = .ok (.goto 5, 3) := by decide +kernel
theorem dX12_over_28 : decode cX12_over 28 = .ok (.bipush (-3), 2) := by decide +kernel
theorem dX12_over_30 : decode cX12_over 30 = .ok (.ireturn, 1) := by decide +kernel
theorem s172_0 : aW d 172 0 [.ref o, l1] S h Q = aW d 172 1 [.ref o, l1] (.ref o :: S) h Q := ax_aload_n mt172 dX12_over_0 rfl
theorem s172_1 : aW d 172 1 [l0, .int a] S h Q = aW d 172 2 [l0, .int a] (.int a :: S) h Q := ax_iload_n mt172 dX12_over_1 rfl
theorem s172_2 (hT : gT h o = some (14, 54)) : aW (d + 1) 172 2 L (.int x0 :: .ref o :: []) h Q = aM d 167 (.ref o :: [.int x0]) h (fun v h1 => aW (d + 1) 172 5 L (ab_ps v []) h1 Q) := ax_invv mt172 dX12_over_2 (by decide) ct_49374 (.inl rfl) mt167 ⟨⟨Nat.le_of_ble_eq_true rfl, Nat.le_of_ble_eq_true rfl, Nat.le_of_ble_eq_true rfl⟩, rfl, rfl, rfl⟩ hT
theorem s172_5 : aW d 172 5 L (.int a :: S) h Q = (if a = 0 then aW d 172 8 L S h Q else aW d 172 13 L S h Q) := ax_if_ne mt172 dX12_over_5 (by decide)
theorem s172_8 : aW d 172 8 L S h Q = aW d 172 10 L (.int ((-5)) :: S) h Q := ax_bipush mt172 dX12_over_8 bp_m5
theorem s172_10 : aW d 172 10 L S h Q = aW d 172 30 L S h Q := ax_goto mt172 dX12_over_10 (by decide)
theorem s172_30 : aW d 172 30 L [.int a] h Q = Q (some (.int a)) h := ax_reti mt172 dX12_over_30 rfl
theorem s172_13 : aW d 172 13 [.ref o, l1] S h Q = aW d 172 14 [.ref o, l1] (.ref o :: S) h Q := ax_aload_n mt172 dX12_over_13 rfl
theorem s172_14 (hT : gT h o = some (14, 54)) : aW (d + 1) 172 14 L (.ref o :: []) h Q = aM d 163 (.ref o :: []) h (fun v h1 => aW (d + 1) 172 17 L (ab_ps v []) h1 Q) := ax_invv mt172 dX12_over_14 (by decide) ct_49377 (.inl rfl) mt163 ⟨⟨Nat.le_of_ble_eq_true rfl, Nat.le_of_ble_eq_true rfl, Nat.le_of_ble_eq_true rfl⟩, rfl, rfl, rfl⟩ hT
theorem s172_17 : aW d 172 17 L (.int a :: S) h Q = (if a = 0 then aW d 172 28 L S h Q else aW d 172 20 L S h Q) := ax_if_eq mt172 dX12_over_17 (by decide)
theorem s172_20 : aW d 172 20 [.ref o, l1] S h Q = aW d 172 21 [.ref o, l1] (.ref o :: S) h Q := ax_aload_n mt172 dX12_over_20 rfl
theorem s172_21 : aW d 172 21 [l0, .int a] S h Q = aW d 172 22 [l0, .int a] (.int a :: S) h Q := ax_iload_n mt172 dX12_over_21 rfl
theorem s172_22 (hT : gT h o = some (14, 54)) : aW (d + 1) 172 22 L (.int x0 :: .ref o :: []) h Q = aM d 169 (.ref o :: [.int x0]) h (fun v h1 => aW (d + 1) 172 25 L (ab_ps v []) h1 Q) := ax_invv mt172 dX12_over_22 (by decide) ct_49386 (.inl rfl) mt169 ⟨⟨Nat.le_of_ble_eq_true rfl, Nat.le_of_ble_eq_true rfl, Nat.le_of_ble_eq_true rfl⟩, rfl, rfl, rfl⟩ hT
theorem s172_25 : aW d 172 25 L S h Q = aW d 172 30 L S h Q := ax_goto mt172 dX12_over_25 (by decide)
theorem s172_28 : aW d 172 28 L S h Q = aW d 172 30 L (.int ((-3)) :: S) h Q := ax_bipush mt172 dX12_over_28 bp_m3
-- method 173: BufferRoomModel.peak(I)I
theorem dX12_peak_0 : decode cX12_peak 0 = .ok (.iload_n 1, 1) := by decide +kernel
theorem dX12_peak_1 : decode cX12_peak 1 = .ok (.iconst 0, 1) := by decide +kernel
theorem dX12_peak_2 : decode cX12_peak 2 = .ok (.iconst 2, 1) := by decide +kernel
theorem dX12_peak_3 : decode cX12_peak 3 = .ok (.invokestatic 125, 3) := by decide +kernel
theorem dX12_peak_6 : decode cX12_peak 6 = .ok (.ifCond .ne 6, 3) := by decide +kernel
theorem dX12_peak_9 : decode cX12_peak 9 = .ok (.bipush (-5), 2) := by decide +kernel
theorem dX12_peak_11 : decode cX12_peak 11 = .ok (.ireturn, 1) := by decide +kernel
theorem dX12_peak_12 : decode cX12_peak 12 = .ok (.aload_n 0, 1) := by decide +kernel
theorem dX12_peak_13 : decode cX12_peak 13 = .ok (.invokevirtual 225, 3) := by decide +kernel
theorem dX12_peak_16 : decode cX12_peak 16 = .ok (.ifCond .ne 6, 3) := by decide +kernel
theorem dX12_peak_19 : decode cX12_peak 19 = .ok (.bipush (-3), 2) := by decide +kernel
theorem dX12_peak_21 : decode cX12_peak 21 = .ok (.ireturn, 1) := by decide +kernel
theorem dX12_peak_22 : decode cX12_peak 22 = .ok (.iconst (-1), 1) := by decide +kernel
theorem dX12_peak_23 : decode cX12_peak 23 = .ok (.istore_n 2, 1) := by decide +kernel
theorem dX12_peak_24 : decode cX12_peak 24 = .ok (.iconst 0, 1) := by decide +kernel
theorem dX12_peak_25 : decode cX12_peak 25 = .ok (.istore_n 3, 1) := by decide +kernel
theorem dX12_peak_26 : decode cX12_peak 26 = .ok (.iconst 0, 1) := by decide +kernel
theorem dX12_peak_27 : decode cX12_peak 27 = .ok (.istore 4, 2) := by decide +kernel
theorem dX12_peak_29 : decode cX12_peak 29 = .ok (.iconst 0, 1) := by decide +kernel
theorem dX12_peak_30 : decode cX12_peak 30 = .ok (.istore 5, 2) := by decide +kernel
theorem dX12_peak_32 : decode cX12_peak 32 = .ok (.iload 5, 2) := by decide +kernel
theorem dX12_peak_34 : decode cX12_peak 34 = .ok (.aload_n 0, 1) := by decide +kernel
theorem dX12_peak_35 : decode cX12_peak 35 = .ok (.getfield 165, 3) := by decide +kernel
theorem dX12_peak_38 : decode cX12_peak 38 = .ok (.if_icmp .ge 66, 3) := by decide +kernel
theorem dX12_peak_41 : decode cX12_peak 41 = .ok (.iload_n 2, 1) := by decide +kernel
theorem dX12_peak_42 : decode cX12_peak 42 = .ok (.iconst (-1), 1) := by decide +kernel
theorem dX12_peak_43 : decode cX12_peak 43 = .ok (.if_icmp .eq 13, 3) := by decide +kernel
theorem dX12_peak_46 : decode cX12_peak 46 = .ok (.aload_n 0, 1) := by decide +kernel
theorem dX12_peak_47 : decode cX12_peak 47 = .ok (.iload 5, 2) := by decide +kernel
theorem dX12_peak_49 : decode cX12_peak 49 = .ok (.invokevirtual 237, 3) := by decide +kernel
theorem dX12_peak_52 : decode cX12_peak 52 = .ok (.iload_n 3, 1) := by decide +kernel
theorem dX12_peak_53 : decode cX12_peak 53 = .ok (.if_icmp .le 13, 3) := by decide +kernel
theorem dX12_peak_56 : decode cX12_peak 56 = .ok (.iload 5, 2) := by decide +kernel
theorem dX12_peak_58 : decode cX12_peak 58 = .ok (.istore_n 2, 1) := by decide +kernel
theorem dX12_peak_59 : decode cX12_peak 59 = .ok (.aload_n 0, 1) := by decide +kernel
theorem dX12_peak_60 : decode cX12_peak 60 = .ok (.iload 5, 2) := by decide +kernel
theorem dX12_peak_62 : decode cX12_peak 62 = .ok (.invokevirtual 237, 3) := by decide +kernel
theorem dX12_peak_65 : decode cX12_peak 65 = .ok (.istore_n 3, 1) := by decide +kernel
theorem dX12_peak_66 : decode cX12_peak 66 = .ok (.iload 4, 2) := by decide +kernel
theorem dX12_peak_68 : decode cX12_peak 68 = .ok (.aload_n 0, 1) := by decide +kernel
theorem dX12_peak_69 : decode cX12_peak 69 = .ok (.getfield 32, 3) := by decide +kernel
theorem dX12_peak_72 : decode cX12_peak 72 = .ok (.aload_n 0, 1) := by decide +kernel
theorem dX12_peak_73 : decode cX12_peak 73 = .ok (.getfield 104, 3) := by decide +kernel
theorem dX12_peak_76 : decode cX12_peak 76 = .ok (.iload 5, 2) := by decide +kernel
theorem dX12_peak_78 : decode cX12_peak 78 = .ok (.iaload, 1) := by decide +kernel
theorem dX12_peak_79 : decode cX12_peak 79 = .ok (.iaload, 1) := by decide +kernel
theorem dX12_peak_80 : decode cX12_peak 80 = .ok (.aload_n 0, 1) := by decide +kernel
theorem dX12_peak_81 : decode cX12_peak 81 = .ok (.getfield 35, 3) := by decide +kernel
theorem dX12_peak_84 : decode cX12_peak 84 = .ok (.aload_n 0, 1) := by decide +kernel
theorem dX12_peak_85 : decode cX12_peak 85 = .ok (.getfield 104, 3) := by decide +kernel
theorem dX12_peak_88 : decode cX12_peak 88 = .ok (.iload 5, 2) := by decide +kernel
theorem dX12_peak_90 : decode cX12_peak 90 = .ok (.iaload, 1) := by decide +kernel
theorem dX12_peak_91 : decode cX12_peak 91 = .ok (.iaload, 1) := by decide +kernel
theorem dX12_peak_92 : decode cX12_peak 92 = .ok (.invokestatic 193, 3) := by decide +kernel
theorem dX12_peak_95 : decode cX12_peak 95 = .ok (.iadd, 1) := by decide +kernel
theorem dX12_peak_96 : decode cX12_peak 96 = .ok (.istore 4, 2) := by decide +kernel
theorem dX12_peak_98 : decode cX12_peak 98 = .ok (.iinc 5 1, 3) := by decide +kernel
theorem dX12_peak_101 : decode cX12_peak 101 = .ok (.goto (-69), 3) := by decide +kernel
theorem dX12_peak_104 : decode cX12_peak 104 = .ok (.iload_n 1, 1) := by decide +kernel
theorem dX12_peak_105 : decode cX12_peak 105 = .ok (.ifCond .ne 7, 3) := by decide +kernel
theorem dX12_peak_108 : decode cX12_peak 108 = .ok (.iload_n 3, 1) := by decide +kernel
theorem dX12_peak_109 : decode cX12_peak 109 = .ok (.goto 14, 3) := by decide +kernel
theorem dX12_peak_112 : decode cX12_peak 112 = .ok (.iload_n 1, 1) := by decide +kernel
theorem dX12_peak_113 : decode cX12_peak 113 = .ok (.iconst 1, 1) := by decide +kernel
theorem dX12_peak_114 : decode cX12_peak 114 = .ok (.if_icmp .ne 7, 3) := by decide +kernel
theorem dX12_peak_117 : decode cX12_peak 117 = .ok (.iload_n 2, 1) := by decide +kernel
theorem dX12_peak_118 : decode cX12_peak 118 = .ok (.goto 5, 3) := by decide +kernel
theorem dX12_peak_121 : decode cX12_peak 121 = .ok (.iload 4, 2) := by decide +kernel
theorem dX12_peak_123 : decode cX12_peak 123 = .ok (.ireturn, 1) := by decide +kernel
theorem s173_0 : aW d 173 0 [l0, .int a, l2, l3, l4, l5] S h Q = aW d 173 1 [l0, .int a, l2, l3, l4, l5] (.int a :: S) h Q := ax_iload_n mt173 dX12_peak_0 rfl
theorem s173_1 : aW d 173 1 L S h Q = aW d 173 2 L (.int (nI 0) :: S) h Q := ax_iconst mt173 dX12_peak_1 ic_0
theorem s173_2 : aW d 173 2 L S h Q = aW d 173 3 L (.int (nI 2) :: S) h Q := ax_iconst mt173 dX12_peak_2 ic_2
theorem s173_3 : aW (d + 1) 173 3 L (.int x2 :: .int x1 :: .int x0 :: []) h Q = aM d 139 [.int x0, .int x1, .int x2] h (fun v h1 => aW (d + 1) 173 6 L (ab_ps v []) h1 Q) := ax_invs mt173 dX12_peak_3 (by decide) ct_49277 (.inl rfl) mt139 ⟨⟨Nat.le_of_ble_eq_true rfl, Nat.le_of_ble_eq_true rfl, Nat.le_of_ble_eq_true rfl⟩, rfl, rfl⟩
theorem s173_6 : aW d 173 6 L (.int a :: S) h Q = (if a = 0 then aW d 173 9 L S h Q else aW d 173 12 L S h Q) := ax_if_ne mt173 dX12_peak_6 (by decide)
theorem s173_9 : aW d 173 9 L S h Q = aW d 173 11 L (.int ((-5)) :: S) h Q := ax_bipush mt173 dX12_peak_9 bp_m5
theorem s173_11 : aW d 173 11 L [.int a] h Q = Q (some (.int a)) h := ax_reti mt173 dX12_peak_11 rfl
theorem s173_12 : aW d 173 12 [.ref o, l1, l2, l3, l4, l5] S h Q = aW d 173 13 [.ref o, l1, l2, l3, l4, l5] (.ref o :: S) h Q := ax_aload_n mt173 dX12_peak_12 rfl
theorem s173_13 (hT : gT h o = some (14, 54)) : aW (d + 1) 173 13 L (.ref o :: []) h Q = aM d 163 (.ref o :: []) h (fun v h1 => aW (d + 1) 173 16 L (ab_ps v []) h1 Q) := ax_invv mt173 dX12_peak_13 (by decide) ct_49377 (.inl rfl) mt163 ⟨⟨Nat.le_of_ble_eq_true rfl, Nat.le_of_ble_eq_true rfl, Nat.le_of_ble_eq_true rfl⟩, rfl, rfl, rfl⟩ hT
theorem s173_16 : aW d 173 16 L (.int a :: S) h Q = (if a = 0 then aW d 173 19 L S h Q else aW d 173 22 L S h Q) := ax_if_ne mt173 dX12_peak_16 (by decide)
theorem s173_19 : aW d 173 19 L S h Q = aW d 173 21 L (.int ((-3)) :: S) h Q := ax_bipush mt173 dX12_peak_19 bp_m3
theorem s173_21 : aW d 173 21 L [.int a] h Q = Q (some (.int a)) h := ax_reti mt173 dX12_peak_21 rfl
theorem s173_22 : aW d 173 22 L S h Q = aW d 173 23 L (.int ((-1)) :: S) h Q := ax_iconst mt173 dX12_peak_22 ic_m1
theorem s173_23 : aW d 173 23 [l0, l1, l2, l3, l4, l5] (.int a :: S) h Q = aW d 173 24 [l0, l1, .int a, l3, l4, l5] S h Q := ax_istore_n mt173 dX12_peak_23 (Nat.le_of_ble_eq_true rfl) rfl
theorem s173_24 : aW d 173 24 L S h Q = aW d 173 25 L (.int (nI 0) :: S) h Q := ax_iconst mt173 dX12_peak_24 ic_0
theorem s173_25 : aW d 173 25 [l0, l1, l2, l3, l4, l5] (.int a :: S) h Q = aW d 173 26 [l0, l1, l2, .int a, l4, l5] S h Q := ax_istore_n mt173 dX12_peak_25 (Nat.le_of_ble_eq_true rfl) rfl
theorem s173_26 : aW d 173 26 L S h Q = aW d 173 27 L (.int (nI 0) :: S) h Q := ax_iconst mt173 dX12_peak_26 ic_0
theorem s173_27 : aW d 173 27 [l0, l1, l2, l3, l4, l5] (.int a :: S) h Q = aW d 173 29 [l0, l1, l2, l3, .int a, l5] S h Q := ax_istore mt173 dX12_peak_27 (Nat.le_of_ble_eq_true rfl) rfl
theorem s173_29 : aW d 173 29 L S h Q = aW d 173 30 L (.int (nI 0) :: S) h Q := ax_iconst mt173 dX12_peak_29 ic_0
theorem s173_30 : aW d 173 30 [l0, l1, l2, l3, l4, l5] (.int a :: S) h Q = aW d 173 32 [l0, l1, l2, l3, l4, .int a] S h Q := ax_istore mt173 dX12_peak_30 (Nat.le_of_ble_eq_true rfl) rfl
theorem s173_32 : aW d 173 32 [l0, l1, l2, l3, l4, .int a] S h Q = aW d 173 34 [l0, l1, l2, l3, l4, .int a] (.int a :: S) h Q := ax_iload mt173 dX12_peak_32 rfl
theorem s173_34 : aW d 173 34 [.ref o, l1, l2, l3, l4, l5] S h Q = aW d 173 35 [.ref o, l1, l2, l3, l4, l5] (.ref o :: S) h Q := ax_aload_n mt173 dX12_peak_34 rfl
theorem s173_35 (hT : gT h o = some (14, 54)) : aW d 173 35 L (.ref o :: S) h Q = aW d 173 38 L (.int (gI h o 4) :: S) h Q := ax_geti mt173 dX12_peak_35 (by decide) ft_49317 fk_49317 hT
theorem s173_38 : aW d 173 38 L (.int b :: .int a :: S) h Q = (if a < b then aW d 173 41 L S h Q else aW d 173 104 L S h Q) := ax_icmp_ge mt173 dX12_peak_38 (by decide)
theorem s173_41 : aW d 173 41 [l0, l1, .int a, l3, l4, l5] S h Q = aW d 173 42 [l0, l1, .int a, l3, l4, l5] (.int a :: S) h Q := ax_iload_n mt173 dX12_peak_41 rfl
theorem s173_42 : aW d 173 42 L S h Q = aW d 173 43 L (.int ((-1)) :: S) h Q := ax_iconst mt173 dX12_peak_42 ic_m1
theorem s173_43 : aW d 173 43 L (.int b :: .int a :: S) h Q = (if a = b then aW d 173 56 L S h Q else aW d 173 46 L S h Q) := ax_icmp_eq mt173 dX12_peak_43 (by decide)
theorem s173_46 : aW d 173 46 [.ref o, l1, l2, l3, l4, l5] S h Q = aW d 173 47 [.ref o, l1, l2, l3, l4, l5] (.ref o :: S) h Q := ax_aload_n mt173 dX12_peak_46 rfl
theorem s173_47 : aW d 173 47 [l0, l1, l2, l3, l4, .int a] S h Q = aW d 173 49 [l0, l1, l2, l3, l4, .int a] (.int a :: S) h Q := ax_iload mt173 dX12_peak_47 rfl
theorem s173_49 (hT : gT h o = some (14, 54)) : aW (d + 1) 173 49 L (.int x0 :: .ref o :: []) h Q = aM d 170 (.ref o :: [.int x0]) h (fun v h1 => aW (d + 1) 173 52 L (ab_ps v []) h1 Q) := ax_invv mt173 dX12_peak_49 (by decide) ct_49389 (.inl rfl) mt170 ⟨⟨Nat.le_of_ble_eq_true rfl, Nat.le_of_ble_eq_true rfl, Nat.le_of_ble_eq_true rfl⟩, rfl, rfl, rfl⟩ hT
theorem s173_52 : aW d 173 52 [l0, l1, l2, .int a, l4, l5] S h Q = aW d 173 53 [l0, l1, l2, .int a, l4, l5] (.int a :: S) h Q := ax_iload_n mt173 dX12_peak_52 rfl
theorem s173_53 : aW d 173 53 L (.int b :: .int a :: S) h Q = (if b < a then aW d 173 56 L S h Q else aW d 173 66 L S h Q) := ax_icmp_le mt173 dX12_peak_53 (by decide)
theorem s173_66 : aW d 173 66 [l0, l1, l2, l3, .int a, l5] S h Q = aW d 173 68 [l0, l1, l2, l3, .int a, l5] (.int a :: S) h Q := ax_iload mt173 dX12_peak_66 rfl
theorem s173_68 : aW d 173 68 [.ref o, l1, l2, l3, l4, l5] S h Q = aW d 173 69 [.ref o, l1, l2, l3, l4, l5] (.ref o :: S) h Q := ax_aload_n mt173 dX12_peak_68 rfl
theorem s173_69 (hT : gT h o = some (14, 54)) : aW d 173 69 L (.ref o :: S) h Q = (isRf (gR h o 10) = true ∧ aW d 173 72 L (gR h o 10 :: S) h Q) := ax_geta mt173 dX12_peak_69 (by decide) ft_49184 fk_49184 hT
theorem s173_72 : aW d 173 72 [.ref o, l1, l2, l3, l4, l5] S h Q = aW d 173 73 [.ref o, l1, l2, l3, l4, l5] (.ref o :: S) h Q := ax_aload_n mt173 dX12_peak_72 rfl
theorem s173_73 (hT : gT h o = some (14, 54)) : aW d 173 73 L (.ref o :: S) h Q = (isRf (gR h o 46) = true ∧ aW d 173 76 L (gR h o 46 :: S) h Q) := ax_geta mt173 dX12_peak_73 (by decide) ft_49256 fk_49256 hT
theorem s173_76 : aW d 173 76 [l0, l1, l2, l3, l4, .int a] S h Q = aW d 173 78 [l0, l1, l2, l3, l4, .int a] (.int a :: S) h Q := ax_iload mt173 dX12_peak_76 rfl
theorem s173_78 : aW d 173 78 L (.int a :: .ref o :: S) h Q = (inb a (aI h o) ∧ aW d 173 79 L (.int (gI h o a.toNatClampNeg) :: S) h Q) := ax_iald mt173 dX12_peak_78
theorem s173_79 : aW d 173 79 L (.int a :: .ref o :: S) h Q = (inb a (aI h o) ∧ aW d 173 80 L (.int (gI h o a.toNatClampNeg) :: S) h Q) := ax_iald mt173 dX12_peak_79
theorem s173_80 : aW d 173 80 [.ref o, l1, l2, l3, l4, l5] S h Q = aW d 173 81 [.ref o, l1, l2, l3, l4, l5] (.ref o :: S) h Q := ax_aload_n mt173 dX12_peak_80 rfl
theorem s173_81 (hT : gT h o = some (14, 54)) : aW d 173 81 L (.ref o :: S) h Q = (isRf (gR h o 11) = true ∧ aW d 173 84 L (gR h o 11 :: S) h Q) := ax_geta mt173 dX12_peak_81 (by decide) ft_49187 fk_49187 hT
theorem s173_84 : aW d 173 84 [.ref o, l1, l2, l3, l4, l5] S h Q = aW d 173 85 [.ref o, l1, l2, l3, l4, l5] (.ref o :: S) h Q := ax_aload_n mt173 dX12_peak_84 rfl
theorem s173_85 (hT : gT h o = some (14, 54)) : aW d 173 85 L (.ref o :: S) h Q = (isRf (gR h o 46) = true ∧ aW d 173 88 L (gR h o 46 :: S) h Q) := ax_geta mt173 dX12_peak_85 (by decide) ft_49256 fk_49256 hT
theorem s173_88 : aW d 173 88 [l0, l1, l2, l3, l4, .int a] S h Q = aW d 173 90 [l0, l1, l2, l3, l4, .int a] (.int a :: S) h Q := ax_iload mt173 dX12_peak_88 rfl
theorem s173_90 : aW d 173 90 L (.int a :: .ref o :: S) h Q = (inb a (aI h o) ∧ aW d 173 91 L (.int (gI h o a.toNatClampNeg) :: S) h Q) := ax_iald mt173 dX12_peak_90
theorem s173_91 : aW d 173 91 L (.int a :: .ref o :: S) h Q = (inb a (aI h o) ∧ aW d 173 92 L (.int (gI h o a.toNatClampNeg) :: S) h Q) := ax_iald mt173 dX12_peak_91
theorem s173_92 : aW (d + 1) 173 92 L (.int x1 :: .int x0 :: [.int y0]) h Q = aM d 155 [.int x0, .int x1] h (fun v h1 => aW (d + 1) 173 95 L (ab_ps v [.int y0]) h1 Q) := ax_invs mt173 dX12_peak_92 (by decide) ct_49345 (.inl rfl) mt155 ⟨⟨Nat.le_of_ble_eq_true rfl, Nat.le_of_ble_eq_true rfl, Nat.le_of_ble_eq_true rfl⟩, rfl, rfl⟩
theorem s173_95 : aW d 173 95 L (.int b :: .int a :: S) h Q = aW d 173 96 L (.int (a + b) :: S) h Q := ax_iadd mt173 dX12_peak_95
theorem s173_96 : aW d 173 96 [l0, l1, l2, l3, l4, l5] (.int a :: S) h Q = aW d 173 98 [l0, l1, l2, l3, .int a, l5] S h Q := ax_istore mt173 dX12_peak_96 (Nat.le_of_ble_eq_true rfl) rfl
theorem s173_98 : aW d 173 98 [l0, l1, l2, l3, l4, .int a] S h Q = aW d 173 101 [l0, l1, l2, l3, l4, .int (a + nI 1)] S h Q := ax_iinc mt173 dX12_peak_98 rfl ic_1 rfl
theorem s173_101 : aW d 173 101 L S h Q = aW d 173 32 L S h Q := ax_goto mt173 dX12_peak_101 (by decide)
theorem s173_56 : aW d 173 56 [l0, l1, l2, l3, l4, .int a] S h Q = aW d 173 58 [l0, l1, l2, l3, l4, .int a] (.int a :: S) h Q := ax_iload mt173 dX12_peak_56 rfl
theorem s173_58 : aW d 173 58 [l0, l1, l2, l3, l4, l5] (.int a :: S) h Q = aW d 173 59 [l0, l1, .int a, l3, l4, l5] S h Q := ax_istore_n mt173 dX12_peak_58 (Nat.le_of_ble_eq_true rfl) rfl
theorem s173_59 : aW d 173 59 [.ref o, l1, l2, l3, l4, l5] S h Q = aW d 173 60 [.ref o, l1, l2, l3, l4, l5] (.ref o :: S) h Q := ax_aload_n mt173 dX12_peak_59 rfl
theorem s173_60 : aW d 173 60 [l0, l1, l2, l3, l4, .int a] S h Q = aW d 173 62 [l0, l1, l2, l3, l4, .int a] (.int a :: S) h Q := ax_iload mt173 dX12_peak_60 rfl
theorem s173_62 (hT : gT h o = some (14, 54)) : aW (d + 1) 173 62 L (.int x0 :: .ref o :: []) h Q = aM d 170 (.ref o :: [.int x0]) h (fun v h1 => aW (d + 1) 173 65 L (ab_ps v []) h1 Q) := ax_invv mt173 dX12_peak_62 (by decide) ct_49389 (.inl rfl) mt170 ⟨⟨Nat.le_of_ble_eq_true rfl, Nat.le_of_ble_eq_true rfl, Nat.le_of_ble_eq_true rfl⟩, rfl, rfl, rfl⟩ hT
theorem s173_65 : aW d 173 65 [l0, l1, l2, l3, l4, l5] (.int a :: S) h Q = aW d 173 66 [l0, l1, l2, .int a, l4, l5] S h Q := ax_istore_n mt173 dX12_peak_65 (Nat.le_of_ble_eq_true rfl) rfl
theorem s173_104 : aW d 173 104 [l0, .int a, l2, l3, l4, l5] S h Q = aW d 173 105 [l0, .int a, l2, l3, l4, l5] (.int a :: S) h Q := ax_iload_n mt173 dX12_peak_104 rfl
theorem s173_105 : aW d 173 105 L (.int a :: S) h Q = (if a = 0 then aW d 173 108 L S h Q else aW d 173 112 L S h Q) := ax_if_ne mt173 dX12_peak_105 (by decide)
theorem s173_108 : aW d 173 108 [l0, l1, l2, .int a, l4, l5] S h Q = aW d 173 109 [l0, l1, l2, .int a, l4, l5] (.int a :: S) h Q := ax_iload_n mt173 dX12_peak_108 rfl
theorem s173_109 : aW d 173 109 L S h Q = aW d 173 123 L S h Q := ax_goto mt173 dX12_peak_109 (by decide)
theorem s173_123 : aW d 173 123 L [.int a] h Q = Q (some (.int a)) h := ax_reti mt173 dX12_peak_123 rfl
theorem s173_112 : aW d 173 112 [l0, .int a, l2, l3, l4, l5] S h Q = aW d 173 113 [l0, .int a, l2, l3, l4, l5] (.int a :: S) h Q := ax_iload_n mt173 dX12_peak_112 rfl
theorem s173_113 : aW d 173 113 L S h Q = aW d 173 114 L (.int (nI 1) :: S) h Q := ax_iconst mt173 dX12_peak_113 ic_1
theorem s173_114 : aW d 173 114 L (.int b :: .int a :: S) h Q = (if a = b then aW d 173 117 L S h Q else aW d 173 121 L S h Q) := ax_icmp_ne mt173 dX12_peak_114 (by decide)
theorem s173_117 : aW d 173 117 [l0, l1, .int a, l3, l4, l5] S h Q = aW d 173 118 [l0, l1, .int a, l3, l4, l5] (.int a :: S) h Q := ax_iload_n mt173 dX12_peak_117 rfl
theorem s173_118 : aW d 173 118 L S h Q = aW d 173 123 L S h Q := ax_goto mt173 dX12_peak_118 (by decide)
theorem s173_121 : aW d 173 121 [l0, l1, l2, l3, .int a, l5] S h Q = aW d 173 123 [l0, l1, l2, l3, .int a, l5] (.int a :: S) h Q := ax_iload mt173 dX12_peak_121 rfl
-- method 174: BufferRoomModel.bufferTold(II)I
theorem dX12_bufferTold_0 : decode cX12_bufferTold 0 = .ok (.aload_n 0, 1) := by decide +kernel
theorem dX12_bufferTold_1 : decode cX12_bufferTold 1 = .ok (.iload_n 1, 1) := by decide +kernel
theorem dX12_bufferTold_2 : decode cX12_bufferTold 2 = .ok (.invokevirtual 240, 3) := by decide +kernel
theorem dX12_bufferTold_5 : decode cX12_bufferTold 5 = .ok (.ifCond .ne 6, 3) := by decide +kernel
theorem dX12_bufferTold_8 : decode cX12_bufferTold 8 = .ok (.bipush (-5), 2) := by decide +kernel
theorem dX12_bufferTold_10 : decode cX12_bufferTold 10 = .ok (.ireturn, 1) := by decide +kernel
theorem dX12_bufferTold_11 : decode cX12_bufferTold 11 = .ok (.iload_n 2, 1) := by decide +kernel
theorem dX12_bufferTold_12 : decode cX12_bufferTold 12 = .ok (.tableswitch 101 0 4 #[36, 42, 48, 63, 82], 36) := by decide +kernel
theorem dX12_bufferTold_48 : decode cX12_bufferTold 48 = .ok (.aload_n 0, 1) := by decide +kernel
theorem dX12_bufferTold_49 : decode cX12_bufferTold 49 = .ok (.iload_n 1, 1) := by decide +kernel
theorem dX12_bufferTold_50 : decode cX12_bufferTold 50 = .ok (.invokevirtual 204, 3) := by decide +kernel
theorem dX12_bufferTold_53 : decode cX12_bufferTold 53 = .ok (.ireturn, 1) := by decide +kernel
theorem dX12_bufferTold_54 : decode cX12_bufferTold 54 = .ok (.aload_n 0, 1) := by decide +kernel
theorem dX12_bufferTold_55 : decode cX12_bufferTold 55 = .ok (.iload_n 1, 1) := by decide +kernel
theorem dX12_bufferTold_56 : decode cX12_bufferTold 56 = .ok (.invokevirtual 208, 3) := by decide +kernel
theorem dX12_bufferTold_59 : decode cX12_bufferTold 59 = .ok (.ireturn, 1) := by decide +kernel
theorem dX12_bufferTold_60 : decode cX12_bufferTold 60 = .ok (.aload_n 0, 1) := by decide +kernel
theorem dX12_bufferTold_61 : decode cX12_bufferTold 61 = .ok (.getfield 29, 3) := by decide +kernel
theorem dX12_bufferTold_64 : decode cX12_bufferTold 64 = .ok (.iload_n 1, 1) := by decide +kernel
theorem dX12_bufferTold_65 : decode cX12_bufferTold 65 = .ok (.baload, 1) := by decide +kernel
theorem dX12_bufferTold_66 : decode cX12_bufferTold 66 = .ok (.ifCond .eq 7, 3) := by decide +kernel
theorem dX12_bufferTold_69 : decode cX12_bufferTold 69 = .ok (.iconst 1, 1) := by decide +kernel
theorem dX12_bufferTold_70 : decode cX12_bufferTold 70 = .ok (.goto 4, 3) := by decide +kernel
theorem dX12_bufferTold_73 : decode cX12_bufferTold 73 = .ok (.iconst 0, 1) := by decide +kernel
theorem dX12_bufferTold_74 : decode cX12_bufferTold 74 = .ok (.ireturn, 1) := by decide +kernel
theorem dX12_bufferTold_75 : decode cX12_bufferTold 75 = .ok (.aload_n 0, 1) := by decide +kernel
theorem dX12_bufferTold_76 : decode cX12_bufferTold 76 = .ok (.invokevirtual 225, 3) := by decide +kernel
theorem dX12_bufferTold_79 : decode cX12_bufferTold 79 = .ok (.ifCond .eq 12, 3) := by decide +kernel
theorem dX12_bufferTold_82 : decode cX12_bufferTold 82 = .ok (.aload_n 0, 1) := by decide +kernel
theorem dX12_bufferTold_83 : decode cX12_bufferTold 83 = .ok (.getfield 107, 3) := by decide +kernel
theorem dX12_bufferTold_86 : decode cX12_bufferTold 86 = .ok (.iload_n 1, 1) := by decide +kernel
theorem dX12_bufferTold_87 : decode cX12_bufferTold 87 = .ok (.iaload, 1) := by decide +kernel
theorem dX12_bufferTold_88 : decode cX12_bufferTold 88 = .ok (.goto 5, 3) := by decide +kernel
theorem dX12_bufferTold_91 : decode cX12_bufferTold 91 = .ok (.bipush (-3), 2) := by decide +kernel
theorem dX12_bufferTold_93 : decode cX12_bufferTold 93 = .ok (.ireturn, 1) := by decide +kernel
theorem dX12_bufferTold_94 : decode cX12_bufferTold 94 = .ok (.aload_n 0, 1) := by decide +kernel
theorem dX12_bufferTold_95 : decode cX12_bufferTold 95 = .ok (.invokevirtual 225, 3) := by decide +kernel
theorem dX12_bufferTold_98 : decode cX12_bufferTold 98 = .ok (.ifCond .eq 12, 3) := by decide +kernel
theorem dX12_bufferTold_101 : decode cX12_bufferTold 101 = .ok (.aload_n 0, 1) := by decide +kernel
theorem dX12_bufferTold_102 : decode cX12_bufferTold 102 = .ok (.getfield 110, 3) := by decide +kernel
theorem dX12_bufferTold_105 : decode cX12_bufferTold 105 = .ok (.iload_n 1, 1) := by decide +kernel
theorem dX12_bufferTold_106 : decode cX12_bufferTold 106 = .ok (.iaload, 1) := by decide +kernel
theorem dX12_bufferTold_107 : decode cX12_bufferTold 107 = .ok (.goto 5, 3) := by decide +kernel
theorem dX12_bufferTold_110 : decode cX12_bufferTold 110 = .ok (.bipush (-3), 2) := by decide +kernel
theorem dX12_bufferTold_112 : decode cX12_bufferTold 112 = .ok (.ireturn, 1) := by decide +kernel
theorem dX12_bufferTold_113 : decode cX12_bufferTold 113 = .ok (.bipush (-7), 2) := by decide +kernel
theorem dX12_bufferTold_115 : decode cX12_bufferTold 115 = .ok (.ireturn, 1) := by decide +kernel
theorem s174_0 : aW d 174 0 [.ref o, l1, l2] S h Q = aW d 174 1 [.ref o, l1, l2] (.ref o :: S) h Q := ax_aload_n mt174 dX12_bufferTold_0 rfl
theorem s174_1 : aW d 174 1 [l0, .int a, l2] S h Q = aW d 174 2 [l0, .int a, l2] (.int a :: S) h Q := ax_iload_n mt174 dX12_bufferTold_1 rfl
theorem s174_2 (hT : gT h o = some (14, 54)) : aW (d + 1) 174 2 L (.int x0 :: .ref o :: []) h Q = aM d 153 (.ref o :: [.int x0]) h (fun v h1 => aW (d + 1) 174 5 L (ab_ps v []) h1 Q) := ax_invv mt174 dX12_bufferTold_2 (by decide) ct_49392 (.inl rfl) mt153 ⟨⟨Nat.le_of_ble_eq_true rfl, Nat.le_of_ble_eq_true rfl, Nat.le_of_ble_eq_true rfl⟩, rfl, rfl, rfl⟩ hT
theorem s174_5 : aW d 174 5 L (.int a :: S) h Q = (if a = 0 then aW d 174 8 L S h Q else aW d 174 11 L S h Q) := ax_if_ne mt174 dX12_bufferTold_5 (by decide)
theorem s174_8 : aW d 174 8 L S h Q = aW d 174 10 L (.int ((-5)) :: S) h Q := ax_bipush mt174 dX12_bufferTold_8 bp_m5
theorem s174_10 : aW d 174 10 L [.int a] h Q = Q (some (.int a)) h := ax_reti mt174 dX12_bufferTold_10 rfl
theorem s174_11 : aW d 174 11 [l0, l1, .int a] S h Q = aW d 174 12 [l0, l1, .int a] (.int a :: S) h Q := ax_iload_n mt174 dX12_bufferTold_11 rfl
set_option maxRecDepth 100000 in
theorem s174_12 : aW d 174 12 L (.int a :: S) h Q = (if a = nI 0 then aW d 174 48 L S h Q else (if a = nI 1 then aW d 174 54 L S h Q else (if a = nI 2 then aW d 174 60 L S h Q else (if a = nI 3 then aW d 174 75 L S h Q else (if a = nI 4 then aW d 174 94 L S h Q else aW d 174 113 L S h Q))))) := by
  by_cases e0 : a = nI 0
  · rw [if_pos e0]
    subst e0
    exact ax_tabI (off := 36) mt174 dX12_bufferTold_12 (by decide +kernel) (by decide +kernel) (by decide)
  rw [if_neg e0]
  have k0 := lv_neT e0 (show (nI 0 : Int32).toInt = 0 by decide +kernel)
  by_cases e1 : a = nI 1
  · rw [if_pos e1]
    subst e1
    exact ax_tabI (off := 42) mt174 dX12_bufferTold_12 (by decide +kernel) (by decide +kernel) (by decide)
  rw [if_neg e1]
  have k1 := lv_neT e1 (show (nI 1 : Int32).toInt = 1 by decide +kernel)
  by_cases e2 : a = nI 2
  · rw [if_pos e2]
    subst e2
    exact ax_tabI (off := 48) mt174 dX12_bufferTold_12 (by decide +kernel) (by decide +kernel) (by decide)
  rw [if_neg e2]
  have k2 := lv_neT e2 (show (nI 2 : Int32).toInt = 2 by decide +kernel)
  by_cases e3 : a = nI 3
  · rw [if_pos e3]
    subst e3
    exact ax_tabI (off := 63) mt174 dX12_bufferTold_12 (by decide +kernel) (by decide +kernel) (by decide)
  rw [if_neg e3]
  have k3 := lv_neT e3 (show (nI 3 : Int32).toInt = 3 by decide +kernel)
  by_cases e4 : a = nI 4
  · rw [if_pos e4]
    subst e4
    exact ax_tabI (off := 82) mt174 dX12_bufferTold_12 (by decide +kernel) (by decide +kernel) (by decide)
  rw [if_neg e4]
  have k4 := lv_neT e4 (show (nI 4 : Int32).toInt = 4 by decide +kernel)
  exact ax_tabO mt174 dX12_bufferTold_12 (by omega) (by decide)
theorem s174_94 : aW d 174 94 [.ref o, l1, l2] S h Q = aW d 174 95 [.ref o, l1, l2] (.ref o :: S) h Q := ax_aload_n mt174 dX12_bufferTold_94 rfl
theorem s174_95 (hT : gT h o = some (14, 54)) : aW (d + 1) 174 95 L (.ref o :: []) h Q = aM d 163 (.ref o :: []) h (fun v h1 => aW (d + 1) 174 98 L (ab_ps v []) h1 Q) := ax_invv mt174 dX12_bufferTold_95 (by decide) ct_49377 (.inl rfl) mt163 ⟨⟨Nat.le_of_ble_eq_true rfl, Nat.le_of_ble_eq_true rfl, Nat.le_of_ble_eq_true rfl⟩, rfl, rfl, rfl⟩ hT
theorem s174_98 : aW d 174 98 L (.int a :: S) h Q = (if a = 0 then aW d 174 110 L S h Q else aW d 174 101 L S h Q) := ax_if_eq mt174 dX12_bufferTold_98 (by decide)
theorem s174_101 : aW d 174 101 [.ref o, l1, l2] S h Q = aW d 174 102 [.ref o, l1, l2] (.ref o :: S) h Q := ax_aload_n mt174 dX12_bufferTold_101 rfl
theorem s174_102 (hT : gT h o = some (14, 54)) : aW d 174 102 L (.ref o :: S) h Q = (isRf (gR h o 48) = true ∧ aW d 174 105 L (gR h o 48 :: S) h Q) := ax_geta mt174 dX12_bufferTold_102 (by decide) ft_49262 fk_49262 hT
theorem s174_105 : aW d 174 105 [l0, .int a, l2] S h Q = aW d 174 106 [l0, .int a, l2] (.int a :: S) h Q := ax_iload_n mt174 dX12_bufferTold_105 rfl
theorem s174_106 : aW d 174 106 L (.int a :: .ref o :: S) h Q = (inb a (aI h o) ∧ aW d 174 107 L (.int (gI h o a.toNatClampNeg) :: S) h Q) := ax_iald mt174 dX12_bufferTold_106
theorem s174_107 : aW d 174 107 L S h Q = aW d 174 112 L S h Q := ax_goto mt174 dX12_bufferTold_107 (by decide)
theorem s174_112 : aW d 174 112 L [.int a] h Q = Q (some (.int a)) h := ax_reti mt174 dX12_bufferTold_112 rfl
theorem s174_110 : aW d 174 110 L S h Q = aW d 174 112 L (.int ((-3)) :: S) h Q := ax_bipush mt174 dX12_bufferTold_110 bp_m3
theorem s174_75 : aW d 174 75 [.ref o, l1, l2] S h Q = aW d 174 76 [.ref o, l1, l2] (.ref o :: S) h Q := ax_aload_n mt174 dX12_bufferTold_75 rfl
theorem s174_76 (hT : gT h o = some (14, 54)) : aW (d + 1) 174 76 L (.ref o :: []) h Q = aM d 163 (.ref o :: []) h (fun v h1 => aW (d + 1) 174 79 L (ab_ps v []) h1 Q) := ax_invv mt174 dX12_bufferTold_76 (by decide) ct_49377 (.inl rfl) mt163 ⟨⟨Nat.le_of_ble_eq_true rfl, Nat.le_of_ble_eq_true rfl, Nat.le_of_ble_eq_true rfl⟩, rfl, rfl, rfl⟩ hT
theorem s174_79 : aW d 174 79 L (.int a :: S) h Q = (if a = 0 then aW d 174 91 L S h Q else aW d 174 82 L S h Q) := ax_if_eq mt174 dX12_bufferTold_79 (by decide)
theorem s174_82 : aW d 174 82 [.ref o, l1, l2] S h Q = aW d 174 83 [.ref o, l1, l2] (.ref o :: S) h Q := ax_aload_n mt174 dX12_bufferTold_82 rfl
theorem s174_83 (hT : gT h o = some (14, 54)) : aW d 174 83 L (.ref o :: S) h Q = (isRf (gR h o 47) = true ∧ aW d 174 86 L (gR h o 47 :: S) h Q) := ax_geta mt174 dX12_bufferTold_83 (by decide) ft_49259 fk_49259 hT
theorem s174_86 : aW d 174 86 [l0, .int a, l2] S h Q = aW d 174 87 [l0, .int a, l2] (.int a :: S) h Q := ax_iload_n mt174 dX12_bufferTold_86 rfl
theorem s174_87 : aW d 174 87 L (.int a :: .ref o :: S) h Q = (inb a (aI h o) ∧ aW d 174 88 L (.int (gI h o a.toNatClampNeg) :: S) h Q) := ax_iald mt174 dX12_bufferTold_87
theorem s174_88 : aW d 174 88 L S h Q = aW d 174 93 L S h Q := ax_goto mt174 dX12_bufferTold_88 (by decide)
theorem s174_93 : aW d 174 93 L [.int a] h Q = Q (some (.int a)) h := ax_reti mt174 dX12_bufferTold_93 rfl
theorem s174_91 : aW d 174 91 L S h Q = aW d 174 93 L (.int ((-3)) :: S) h Q := ax_bipush mt174 dX12_bufferTold_91 bp_m3
theorem s174_60 : aW d 174 60 [.ref o, l1, l2] S h Q = aW d 174 61 [.ref o, l1, l2] (.ref o :: S) h Q := ax_aload_n mt174 dX12_bufferTold_60 rfl
theorem s174_61 (hT : gT h o = some (14, 54)) : aW d 174 61 L (.ref o :: S) h Q = (isRf (gR h o 9) = true ∧ aW d 174 64 L (gR h o 9 :: S) h Q) := ax_geta mt174 dX12_bufferTold_61 (by decide) ft_49181 fk_49181 hT
theorem s174_64 : aW d 174 64 [l0, .int a, l2] S h Q = aW d 174 65 [l0, .int a, l2] (.int a :: S) h Q := ax_iload_n mt174 dX12_bufferTold_64 rfl
theorem s174_65 : aW d 174 65 L (.int a :: .ref o :: S) h Q = (inb a (aZ h o) ∧ aW d 174 66 L (.int (gI h o a.toNatClampNeg) :: S) h Q) := ax_zald mt174 dX12_bufferTold_65
theorem s174_66 : aW d 174 66 L (.int a :: S) h Q = (if a = 0 then aW d 174 73 L S h Q else aW d 174 69 L S h Q) := ax_if_eq mt174 dX12_bufferTold_66 (by decide)
theorem s174_69 : aW d 174 69 L S h Q = aW d 174 70 L (.int (nI 1) :: S) h Q := ax_iconst mt174 dX12_bufferTold_69 ic_1
theorem s174_70 : aW d 174 70 L S h Q = aW d 174 74 L S h Q := ax_goto mt174 dX12_bufferTold_70 (by decide)
theorem s174_74 : aW d 174 74 L [.int a] h Q = Q (some (.int a)) h := ax_reti mt174 dX12_bufferTold_74 rfl
theorem s174_73 : aW d 174 73 L S h Q = aW d 174 74 L (.int (nI 0) :: S) h Q := ax_iconst mt174 dX12_bufferTold_73 ic_0
theorem s174_54 : aW d 174 54 [.ref o, l1, l2] S h Q = aW d 174 55 [.ref o, l1, l2] (.ref o :: S) h Q := ax_aload_n mt174 dX12_bufferTold_54 rfl
theorem s174_55 : aW d 174 55 [l0, .int a, l2] S h Q = aW d 174 56 [l0, .int a, l2] (.int a :: S) h Q := ax_iload_n mt174 dX12_bufferTold_55 rfl
theorem s174_56 (hT : gT h o = some (14, 54)) : aW (d + 1) 174 56 L (.int x0 :: .ref o :: []) h Q = aM d 161 (.ref o :: [.int x0]) h (fun v h1 => aW (d + 1) 174 59 L (ab_ps v []) h1 Q) := ax_invv mt174 dX12_bufferTold_56 (by decide) ct_49360 (.inl rfl) mt161 ⟨⟨Nat.le_of_ble_eq_true rfl, Nat.le_of_ble_eq_true rfl, Nat.le_of_ble_eq_true rfl⟩, rfl, rfl, rfl⟩ hT
theorem s174_59 : aW d 174 59 L [.int a] h Q = Q (some (.int a)) h := ax_reti mt174 dX12_bufferTold_59 rfl
theorem s174_48 : aW d 174 48 [.ref o, l1, l2] S h Q = aW d 174 49 [.ref o, l1, l2] (.ref o :: S) h Q := ax_aload_n mt174 dX12_bufferTold_48 rfl
theorem s174_49 : aW d 174 49 [l0, .int a, l2] S h Q = aW d 174 50 [l0, .int a, l2] (.int a :: S) h Q := ax_iload_n mt174 dX12_bufferTold_49 rfl
theorem s174_50 (hT : gT h o = some (14, 54)) : aW (d + 1) 174 50 L (.int x0 :: .ref o :: []) h Q = aM d 154 (.ref o :: [.int x0]) h (fun v h1 => aW (d + 1) 174 53 L (ab_ps v []) h1 Q) := ax_invv mt174 dX12_bufferTold_50 (by decide) ct_49356 (.inl rfl) mt154 ⟨⟨Nat.le_of_ble_eq_true rfl, Nat.le_of_ble_eq_true rfl, Nat.le_of_ble_eq_true rfl⟩, rfl, rfl, rfl⟩ hT
theorem s174_53 : aW d 174 53 L [.int a] h Q = Q (some (.int a)) h := ax_reti mt174 dX12_bufferTold_53 rfl
theorem s174_113 : aW d 174 113 L S h Q = aW d 174 115 L (.int ((-7)) :: S) h Q := ax_bipush mt174 dX12_bufferTold_113 bp_m7
theorem s174_115 : aW d 174 115 L [.int a] h Q = Q (some (.int a)) h := ax_reti mt174 dX12_bufferTold_115 rfl
-- method 175: BufferRoomModel.stepTold(II)I
theorem dX12_stepTold_0 : decode cX12_stepTold 0 = .ok (.iload_n 1, 1) := by decide +kernel
theorem dX12_stepTold_1 : decode cX12_stepTold 1 = .ok (.iconst 0, 1) := by decide +kernel
theorem dX12_stepTold_2 : decode cX12_stepTold 2 = .ok (.aload_n 0, 1) := by decide +kernel
theorem dX12_stepTold_3 : decode cX12_stepTold 3 = .ok (.getfield 165, 3) := by decide +kernel
theorem dX12_stepTold_6 : decode cX12_stepTold 6 = .ok (.iconst 1, 1) := by decide +kernel
theorem dX12_stepTold_7 : decode cX12_stepTold 7 = .ok (.isub, 1) := by decide +kernel
theorem dX12_stepTold_8 : decode cX12_stepTold 8 = .ok (.invokestatic 125, 3) := by decide +kernel
theorem dX12_stepTold_11 : decode cX12_stepTold 11 = .ok (.ifCond .ne 6, 3) := by decide +kernel
theorem dX12_stepTold_14 : decode cX12_stepTold 14 = .ok (.bipush (-5), 2) := by decide +kernel
theorem dX12_stepTold_16 : decode cX12_stepTold 16 = .ok (.ireturn, 1) := by decide +kernel
theorem dX12_stepTold_17 : decode cX12_stepTold 17 = .ok (.iload_n 2, 1) := by decide +kernel
theorem dX12_stepTold_18 : decode cX12_stepTold 18 = .ok (.tableswitch 99 0 5 #[38, 45, 61, 68, 75, 81], 38) := by decide +kernel
theorem dX12_stepTold_56 : decode cX12_stepTold 56 = .ok (.aload_n 0, 1) := by decide +kernel
theorem dX12_stepTold_57 : decode cX12_stepTold 57 = .ok (.getfield 32, 3) := by decide +kernel
theorem dX12_stepTold_60 : decode cX12_stepTold 60 = .ok (.iload_n 1, 1) := by decide +kernel
theorem dX12_stepTold_61 : decode cX12_stepTold 61 = .ok (.iaload, 1) := by decide +kernel
theorem dX12_stepTold_62 : decode cX12_stepTold 62 = .ok (.ireturn, 1) := by decide +kernel
theorem dX12_stepTold_63 : decode cX12_stepTold 63 = .ok (.aload_n 0, 1) := by decide +kernel
theorem dX12_stepTold_64 : decode cX12_stepTold 64 = .ok (.getfield 32, 3) := by decide +kernel
theorem dX12_stepTold_67 : decode cX12_stepTold 67 = .ok (.iload_n 1, 1) := by decide +kernel
theorem dX12_stepTold_68 : decode cX12_stepTold 68 = .ok (.iaload, 1) := by decide +kernel
theorem dX12_stepTold_69 : decode cX12_stepTold 69 = .ok (.aload_n 0, 1) := by decide +kernel
theorem dX12_stepTold_70 : decode cX12_stepTold 70 = .ok (.getfield 35, 3) := by decide +kernel
theorem dX12_stepTold_73 : decode cX12_stepTold 73 = .ok (.iload_n 1, 1) := by decide +kernel
theorem dX12_stepTold_74 : decode cX12_stepTold 74 = .ok (.iaload, 1) := by decide +kernel
theorem dX12_stepTold_75 : decode cX12_stepTold 75 = .ok (.invokestatic 193, 3) := by decide +kernel
theorem dX12_stepTold_78 : decode cX12_stepTold 78 = .ok (.ireturn, 1) := by decide +kernel
theorem dX12_stepTold_79 : decode cX12_stepTold 79 = .ok (.aload_n 0, 1) := by decide +kernel
theorem dX12_stepTold_80 : decode cX12_stepTold 80 = .ok (.getfield 38, 3) := by decide +kernel
theorem dX12_stepTold_83 : decode cX12_stepTold 83 = .ok (.iload_n 1, 1) := by decide +kernel
theorem dX12_stepTold_84 : decode cX12_stepTold 84 = .ok (.iaload, 1) := by decide +kernel
theorem dX12_stepTold_85 : decode cX12_stepTold 85 = .ok (.ireturn, 1) := by decide +kernel
theorem dX12_stepTold_86 : decode cX12_stepTold 86 = .ok (.aload_n 0, 1) := by decide +kernel
theorem dX12_stepTold_87 : decode cX12_stepTold 87 = .ok (.getfield 41, 3) := by decide +kernel
theorem dX12_stepTold_90 : decode cX12_stepTold 90 = .ok (.iload_n 1, 1) := by decide +kernel
theorem dX12_stepTold_91 : decode cX12_stepTold 91 = .ok (.iaload, 1) := by decide +kernel
theorem dX12_stepTold_92 : decode cX12_stepTold 92 = .ok (.ireturn, 1) := by decide +kernel
theorem dX12_stepTold_93 : decode cX12_stepTold 93 = .ok (.aload_n 0, 1) := by decide +kernel
theorem dX12_stepTold_94 : decode cX12_stepTold 94 = .ok (.iload_n 1, 1) := by decide +kernel
theorem dX12_stepTold_95 : decode cX12_stepTold 95 = .ok (.invokevirtual 228, 3) := by decide +kernel
theorem dX12_stepTold_98 : decode cX12_stepTold 98 = .ok (.ireturn, 1) := by decide +kernel
theorem dX12_stepTold_99 : decode cX12_stepTold 99 = .ok (.aload_n 0, 1) := by decide +kernel
theorem dX12_stepTold_100 : decode cX12_stepTold 100 = .ok (.getfield 32, 3) := by decide +kernel
theorem dX12_stepTold_103 : decode cX12_stepTold 103 = .ok (.iload_n 1, 1) := by decide +kernel
theorem dX12_stepTold_104 : decode cX12_stepTold 104 = .ok (.iaload, 1) := by decide +kernel
theorem dX12_stepTold_105 : decode cX12_stepTold 105 = .ok (.invokestatic 201, 3) := by decide +kernel
theorem dX12_stepTold_108 : decode cX12_stepTold 108 = .ok (.ifCond .eq 7, 3) := by decide +kernel
theorem dX12_stepTold_111 : decode cX12_stepTold 111 = .ok (.iconst 1, 1) := by decide +kernel
theorem dX12_stepTold_112 : decode cX12_stepTold 112 = .ok (.goto 4, 3) := by decide +kernel
theorem dX12_stepTold_115 : decode cX12_stepTold 115 = .ok (.iconst 0, 1) := by decide +kernel
theorem dX12_stepTold_116 : decode cX12_stepTold 116 = .ok (.ireturn, 1) := by decide +kernel
theorem dX12_stepTold_117 : decode cX12_stepTold 117 = .ok (.iload_n 2, 1) := by decide +kernel
theorem dX12_stepTold_118 : decode cX12_stepTold 118 = .ok (.bipush 6, 2) := by decide +kernel
theorem dX12_stepTold_120 : decode cX12_stepTold 120 = .ok (.iconst 5, 1) := by decide +kernel
theorem dX12_stepTold_121 : decode cX12_stepTold 121 = .ok (.aload_n 0, 1) := by decide +kernel
theorem dX12_stepTold_122 : decode cX12_stepTold 122 = .ok (.getfield 41, 3) := by decide +kernel
theorem dX12_stepTold_125 : decode cX12_stepTold 125 = .ok (.iload_n 1, 1) := by decide +kernel
theorem dX12_stepTold_126 : decode cX12_stepTold 126 = .ok (.iaload, 1) := by decide +kernel
theorem dX12_stepTold_127 : decode cX12_stepTold 127 = .ok (.iadd, 1) := by decide +kernel
theorem dX12_stepTold_128 : decode cX12_stepTold 128 = .ok (.invokestatic 125, 3) := by decide +kernel
theorem dX12_stepTold_131 : decode cX12_stepTold 131 = .ok (.ifCond .eq 34, 3) := by decide +kernel
theorem dX12_stepTold_134 : decode cX12_stepTold 134 = .ok (.aload_n 0, 1) := by decide +kernel
theorem dX12_stepTold_135 : decode cX12_stepTold 135 = .ok (.getfield 44, 3) := by decide +kernel
theorem dX12_stepTold_138 : decode cX12_stepTold 138 = .ok (.iconst 4, 1) := by decide +kernel
theorem dX12_stepTold_139 : decode cX12_stepTold 139 = .ok (.iload_n 1, 1) := by decide +kernel
theorem dX12_stepTold_140 : decode cX12_stepTold 140 = .ok (.imul, 1) := by decide +kernel
theorem dX12_stepTold_141 : decode cX12_stepTold 141 = .ok (.iload_n 2, 1) := by decide +kernel
theorem dX12_stepTold_142 : decode cX12_stepTold 142 = .ok (.bipush 6, 2) := by decide +kernel
theorem dX12_stepTold_144 : decode cX12_stepTold 144 = .ok (.bipush 9, 2) := by decide +kernel
theorem dX12_stepTold_146 : decode cX12_stepTold 146 = .ok (.invokestatic 125, 3) := by decide +kernel
theorem dX12_stepTold_149 : decode cX12_stepTold 149 = .ok (.ifCond .eq 10, 3) := by decide +kernel
theorem dX12_stepTold_152 : decode cX12_stepTold 152 = .ok (.iload_n 2, 1) := by decide +kernel
theorem dX12_stepTold_153 : decode cX12_stepTold 153 = .ok (.bipush 6, 2) := by decide +kernel
theorem dX12_stepTold_155 : decode cX12_stepTold 155 = .ok (.isub, 1) := by decide +kernel
theorem dX12_stepTold_156 : decode cX12_stepTold 156 = .ok (.goto 4, 3) := by decide +kernel
theorem dX12_stepTold_159 : decode cX12_stepTold 159 = .ok (.iconst 0, 1) := by decide +kernel
theorem dX12_stepTold_160 : decode cX12_stepTold 160 = .ok (.iadd, 1) := by decide +kernel
theorem dX12_stepTold_161 : decode cX12_stepTold 161 = .ok (.iaload, 1) := by decide +kernel
theorem dX12_stepTold_162 : decode cX12_stepTold 162 = .ok (.goto 5, 3) := by decide +kernel
theorem dX12_stepTold_165 : decode cX12_stepTold 165 = .ok (.bipush (-7), 2) := by decide +kernel
theorem dX12_stepTold_167 : decode cX12_stepTold 167 = .ok (.ireturn, 1) := by decide +kernel
theorem s175_0 : aW d 175 0 [l0, .int a, l2] S h Q = aW d 175 1 [l0, .int a, l2] (.int a :: S) h Q := ax_iload_n mt175 dX12_stepTold_0 rfl
theorem s175_1 : aW d 175 1 L S h Q = aW d 175 2 L (.int (nI 0) :: S) h Q := ax_iconst mt175 dX12_stepTold_1 ic_0
theorem s175_2 : aW d 175 2 [.ref o, l1, l2] S h Q = aW d 175 3 [.ref o, l1, l2] (.ref o :: S) h Q := ax_aload_n mt175 dX12_stepTold_2 rfl
theorem s175_3 (hT : gT h o = some (14, 54)) : aW d 175 3 L (.ref o :: S) h Q = aW d 175 6 L (.int (gI h o 4) :: S) h Q := ax_geti mt175 dX12_stepTold_3 (by decide) ft_49317 fk_49317 hT
theorem s175_6 : aW d 175 6 L S h Q = aW d 175 7 L (.int (nI 1) :: S) h Q := ax_iconst mt175 dX12_stepTold_6 ic_1
theorem s175_7 : aW d 175 7 L (.int b :: .int a :: S) h Q = aW d 175 8 L (.int (a - b) :: S) h Q := ax_isub mt175 dX12_stepTold_7
theorem s175_8 : aW (d + 1) 175 8 L (.int x2 :: .int x1 :: .int x0 :: []) h Q = aM d 139 [.int x0, .int x1, .int x2] h (fun v h1 => aW (d + 1) 175 11 L (ab_ps v []) h1 Q) := ax_invs mt175 dX12_stepTold_8 (by decide) ct_49277 (.inl rfl) mt139 ⟨⟨Nat.le_of_ble_eq_true rfl, Nat.le_of_ble_eq_true rfl, Nat.le_of_ble_eq_true rfl⟩, rfl, rfl⟩
theorem s175_11 : aW d 175 11 L (.int a :: S) h Q = (if a = 0 then aW d 175 14 L S h Q else aW d 175 17 L S h Q) := ax_if_ne mt175 dX12_stepTold_11 (by decide)
theorem s175_14 : aW d 175 14 L S h Q = aW d 175 16 L (.int ((-5)) :: S) h Q := ax_bipush mt175 dX12_stepTold_14 bp_m5
theorem s175_16 : aW d 175 16 L [.int a] h Q = Q (some (.int a)) h := ax_reti mt175 dX12_stepTold_16 rfl
theorem s175_17 : aW d 175 17 [l0, l1, .int a] S h Q = aW d 175 18 [l0, l1, .int a] (.int a :: S) h Q := ax_iload_n mt175 dX12_stepTold_17 rfl
set_option maxRecDepth 100000 in
theorem s175_18 : aW d 175 18 L (.int a :: S) h Q = (if a = nI 0 then aW d 175 56 L S h Q else (if a = nI 1 then aW d 175 63 L S h Q else (if a = nI 2 then aW d 175 79 L S h Q else (if a = nI 3 then aW d 175 86 L S h Q else (if a = nI 4 then aW d 175 93 L S h Q else (if a = nI 5 then aW d 175 99 L S h Q else aW d 175 117 L S h Q)))))) := by
  by_cases e0 : a = nI 0
  · rw [if_pos e0]
    subst e0
    exact ax_tabI (off := 38) mt175 dX12_stepTold_18 (by decide +kernel) (by decide +kernel) (by decide)
  rw [if_neg e0]
  have k0 := lv_neT e0 (show (nI 0 : Int32).toInt = 0 by decide +kernel)
  by_cases e1 : a = nI 1
  · rw [if_pos e1]
    subst e1
    exact ax_tabI (off := 45) mt175 dX12_stepTold_18 (by decide +kernel) (by decide +kernel) (by decide)
  rw [if_neg e1]
  have k1 := lv_neT e1 (show (nI 1 : Int32).toInt = 1 by decide +kernel)
  by_cases e2 : a = nI 2
  · rw [if_pos e2]
    subst e2
    exact ax_tabI (off := 61) mt175 dX12_stepTold_18 (by decide +kernel) (by decide +kernel) (by decide)
  rw [if_neg e2]
  have k2 := lv_neT e2 (show (nI 2 : Int32).toInt = 2 by decide +kernel)
  by_cases e3 : a = nI 3
  · rw [if_pos e3]
    subst e3
    exact ax_tabI (off := 68) mt175 dX12_stepTold_18 (by decide +kernel) (by decide +kernel) (by decide)
  rw [if_neg e3]
  have k3 := lv_neT e3 (show (nI 3 : Int32).toInt = 3 by decide +kernel)
  by_cases e4 : a = nI 4
  · rw [if_pos e4]
    subst e4
    exact ax_tabI (off := 75) mt175 dX12_stepTold_18 (by decide +kernel) (by decide +kernel) (by decide)
  rw [if_neg e4]
  have k4 := lv_neT e4 (show (nI 4 : Int32).toInt = 4 by decide +kernel)
  by_cases e5 : a = nI 5
  · rw [if_pos e5]
    subst e5
    exact ax_tabI (off := 81) mt175 dX12_stepTold_18 (by decide +kernel) (by decide +kernel) (by decide)
  rw [if_neg e5]
  have k5 := lv_neT e5 (show (nI 5 : Int32).toInt = 5 by decide +kernel)
  exact ax_tabO mt175 dX12_stepTold_18 (by omega) (by decide)
theorem s175_99 : aW d 175 99 [.ref o, l1, l2] S h Q = aW d 175 100 [.ref o, l1, l2] (.ref o :: S) h Q := ax_aload_n mt175 dX12_stepTold_99 rfl
theorem s175_100 (hT : gT h o = some (14, 54)) : aW d 175 100 L (.ref o :: S) h Q = (isRf (gR h o 10) = true ∧ aW d 175 103 L (gR h o 10 :: S) h Q) := ax_geta mt175 dX12_stepTold_100 (by decide) ft_49184 fk_49184 hT
theorem s175_103 : aW d 175 103 [l0, .int a, l2] S h Q = aW d 175 104 [l0, .int a, l2] (.int a :: S) h Q := ax_iload_n mt175 dX12_stepTold_103 rfl
theorem s175_104 : aW d 175 104 L (.int a :: .ref o :: S) h Q = (inb a (aI h o) ∧ aW d 175 105 L (.int (gI h o a.toNatClampNeg) :: S) h Q) := ax_iald mt175 dX12_stepTold_104
theorem s175_105 : aW (d + 1) 175 105 L (.int x0 :: []) h Q = aM d 157 [.int x0] h (fun v h1 => aW (d + 1) 175 108 L (ab_ps v []) h1 Q) := ax_invs mt175 dX12_stepTold_105 (by decide) ct_49353 (.inl rfl) mt157 ⟨⟨Nat.le_of_ble_eq_true rfl, Nat.le_of_ble_eq_true rfl, Nat.le_of_ble_eq_true rfl⟩, rfl, rfl⟩
theorem s175_108 : aW d 175 108 L (.int a :: S) h Q = (if a = 0 then aW d 175 115 L S h Q else aW d 175 111 L S h Q) := ax_if_eq mt175 dX12_stepTold_108 (by decide)
theorem s175_111 : aW d 175 111 L S h Q = aW d 175 112 L (.int (nI 1) :: S) h Q := ax_iconst mt175 dX12_stepTold_111 ic_1
theorem s175_112 : aW d 175 112 L S h Q = aW d 175 116 L S h Q := ax_goto mt175 dX12_stepTold_112 (by decide)
theorem s175_116 : aW d 175 116 L [.int a] h Q = Q (some (.int a)) h := ax_reti mt175 dX12_stepTold_116 rfl
theorem s175_115 : aW d 175 115 L S h Q = aW d 175 116 L (.int (nI 0) :: S) h Q := ax_iconst mt175 dX12_stepTold_115 ic_0
theorem s175_93 : aW d 175 93 [.ref o, l1, l2] S h Q = aW d 175 94 [.ref o, l1, l2] (.ref o :: S) h Q := ax_aload_n mt175 dX12_stepTold_93 rfl
theorem s175_94 : aW d 175 94 [l0, .int a, l2] S h Q = aW d 175 95 [l0, .int a, l2] (.int a :: S) h Q := ax_iload_n mt175 dX12_stepTold_94 rfl
theorem s175_95 (hT : gT h o = some (14, 54)) : aW (d + 1) 175 95 L (.int x0 :: .ref o :: []) h Q = aM d 159 (.ref o :: [.int x0]) h (fun v h1 => aW (d + 1) 175 98 L (ab_ps v []) h1 Q) := ax_invv mt175 dX12_stepTold_95 (by decide) ct_49380 (.inl rfl) mt159 ⟨⟨Nat.le_of_ble_eq_true rfl, Nat.le_of_ble_eq_true rfl, Nat.le_of_ble_eq_true rfl⟩, rfl, rfl, rfl⟩ hT
theorem s175_98 : aW d 175 98 L [.int a] h Q = Q (some (.int a)) h := ax_reti mt175 dX12_stepTold_98 rfl
theorem s175_86 : aW d 175 86 [.ref o, l1, l2] S h Q = aW d 175 87 [.ref o, l1, l2] (.ref o :: S) h Q := ax_aload_n mt175 dX12_stepTold_86 rfl
theorem s175_87 (hT : gT h o = some (14, 54)) : aW d 175 87 L (.ref o :: S) h Q = (isRf (gR h o 13) = true ∧ aW d 175 90 L (gR h o 13 :: S) h Q) := ax_geta mt175 dX12_stepTold_87 (by decide) ft_49193 fk_49193 hT
theorem s175_90 : aW d 175 90 [l0, .int a, l2] S h Q = aW d 175 91 [l0, .int a, l2] (.int a :: S) h Q := ax_iload_n mt175 dX12_stepTold_90 rfl
theorem s175_91 : aW d 175 91 L (.int a :: .ref o :: S) h Q = (inb a (aI h o) ∧ aW d 175 92 L (.int (gI h o a.toNatClampNeg) :: S) h Q) := ax_iald mt175 dX12_stepTold_91
theorem s175_92 : aW d 175 92 L [.int a] h Q = Q (some (.int a)) h := ax_reti mt175 dX12_stepTold_92 rfl
theorem s175_79 : aW d 175 79 [.ref o, l1, l2] S h Q = aW d 175 80 [.ref o, l1, l2] (.ref o :: S) h Q := ax_aload_n mt175 dX12_stepTold_79 rfl
theorem s175_80 (hT : gT h o = some (14, 54)) : aW d 175 80 L (.ref o :: S) h Q = (isRf (gR h o 12) = true ∧ aW d 175 83 L (gR h o 12 :: S) h Q) := ax_geta mt175 dX12_stepTold_80 (by decide) ft_49190 fk_49190 hT
theorem s175_83 : aW d 175 83 [l0, .int a, l2] S h Q = aW d 175 84 [l0, .int a, l2] (.int a :: S) h Q := ax_iload_n mt175 dX12_stepTold_83 rfl
theorem s175_84 : aW d 175 84 L (.int a :: .ref o :: S) h Q = (inb a (aI h o) ∧ aW d 175 85 L (.int (gI h o a.toNatClampNeg) :: S) h Q) := ax_iald mt175 dX12_stepTold_84
theorem s175_85 : aW d 175 85 L [.int a] h Q = Q (some (.int a)) h := ax_reti mt175 dX12_stepTold_85 rfl
theorem s175_63 : aW d 175 63 [.ref o, l1, l2] S h Q = aW d 175 64 [.ref o, l1, l2] (.ref o :: S) h Q := ax_aload_n mt175 dX12_stepTold_63 rfl
theorem s175_64 (hT : gT h o = some (14, 54)) : aW d 175 64 L (.ref o :: S) h Q = (isRf (gR h o 10) = true ∧ aW d 175 67 L (gR h o 10 :: S) h Q) := ax_geta mt175 dX12_stepTold_64 (by decide) ft_49184 fk_49184 hT
theorem s175_67 : aW d 175 67 [l0, .int a, l2] S h Q = aW d 175 68 [l0, .int a, l2] (.int a :: S) h Q := ax_iload_n mt175 dX12_stepTold_67 rfl
theorem s175_68 : aW d 175 68 L (.int a :: .ref o :: S) h Q = (inb a (aI h o) ∧ aW d 175 69 L (.int (gI h o a.toNatClampNeg) :: S) h Q) := ax_iald mt175 dX12_stepTold_68
theorem s175_69 : aW d 175 69 [.ref o, l1, l2] S h Q = aW d 175 70 [.ref o, l1, l2] (.ref o :: S) h Q := ax_aload_n mt175 dX12_stepTold_69 rfl
theorem s175_70 (hT : gT h o = some (14, 54)) : aW d 175 70 L (.ref o :: S) h Q = (isRf (gR h o 11) = true ∧ aW d 175 73 L (gR h o 11 :: S) h Q) := ax_geta mt175 dX12_stepTold_70 (by decide) ft_49187 fk_49187 hT
theorem s175_73 : aW d 175 73 [l0, .int a, l2] S h Q = aW d 175 74 [l0, .int a, l2] (.int a :: S) h Q := ax_iload_n mt175 dX12_stepTold_73 rfl
theorem s175_74 : aW d 175 74 L (.int a :: .ref o :: S) h Q = (inb a (aI h o) ∧ aW d 175 75 L (.int (gI h o a.toNatClampNeg) :: S) h Q) := ax_iald mt175 dX12_stepTold_74
theorem s175_75 : aW (d + 1) 175 75 L (.int x1 :: .int x0 :: []) h Q = aM d 155 [.int x0, .int x1] h (fun v h1 => aW (d + 1) 175 78 L (ab_ps v []) h1 Q) := ax_invs mt175 dX12_stepTold_75 (by decide) ct_49345 (.inl rfl) mt155 ⟨⟨Nat.le_of_ble_eq_true rfl, Nat.le_of_ble_eq_true rfl, Nat.le_of_ble_eq_true rfl⟩, rfl, rfl⟩
theorem s175_78 : aW d 175 78 L [.int a] h Q = Q (some (.int a)) h := ax_reti mt175 dX12_stepTold_78 rfl
theorem s175_56 : aW d 175 56 [.ref o, l1, l2] S h Q = aW d 175 57 [.ref o, l1, l2] (.ref o :: S) h Q := ax_aload_n mt175 dX12_stepTold_56 rfl
theorem s175_57 (hT : gT h o = some (14, 54)) : aW d 175 57 L (.ref o :: S) h Q = (isRf (gR h o 10) = true ∧ aW d 175 60 L (gR h o 10 :: S) h Q) := ax_geta mt175 dX12_stepTold_57 (by decide) ft_49184 fk_49184 hT
theorem s175_60 : aW d 175 60 [l0, .int a, l2] S h Q = aW d 175 61 [l0, .int a, l2] (.int a :: S) h Q := ax_iload_n mt175 dX12_stepTold_60 rfl
theorem s175_61 : aW d 175 61 L (.int a :: .ref o :: S) h Q = (inb a (aI h o) ∧ aW d 175 62 L (.int (gI h o a.toNatClampNeg) :: S) h Q) := ax_iald mt175 dX12_stepTold_61
theorem s175_62 : aW d 175 62 L [.int a] h Q = Q (some (.int a)) h := ax_reti mt175 dX12_stepTold_62 rfl
theorem s175_117 : aW d 175 117 [l0, l1, .int a] S h Q = aW d 175 118 [l0, l1, .int a] (.int a :: S) h Q := ax_iload_n mt175 dX12_stepTold_117 rfl
theorem s175_118 : aW d 175 118 L S h Q = aW d 175 120 L (.int (nI 6) :: S) h Q := ax_bipush mt175 dX12_stepTold_118 bp_6
theorem s175_120 : aW d 175 120 L S h Q = aW d 175 121 L (.int (nI 5) :: S) h Q := ax_iconst mt175 dX12_stepTold_120 ic_5
theorem s175_121 : aW d 175 121 [.ref o, l1, l2] S h Q = aW d 175 122 [.ref o, l1, l2] (.ref o :: S) h Q := ax_aload_n mt175 dX12_stepTold_121 rfl
theorem s175_122 (hT : gT h o = some (14, 54)) : aW d 175 122 L (.ref o :: S) h Q = (isRf (gR h o 13) = true ∧ aW d 175 125 L (gR h o 13 :: S) h Q) := ax_geta mt175 dX12_stepTold_122 (by decide) ft_49193 fk_49193 hT
theorem s175_125 : aW d 175 125 [l0, .int a, l2] S h Q = aW d 175 126 [l0, .int a, l2] (.int a :: S) h Q := ax_iload_n mt175 dX12_stepTold_125 rfl
theorem s175_126 : aW d 175 126 L (.int a :: .ref o :: S) h Q = (inb a (aI h o) ∧ aW d 175 127 L (.int (gI h o a.toNatClampNeg) :: S) h Q) := ax_iald mt175 dX12_stepTold_126
theorem s175_127 : aW d 175 127 L (.int b :: .int a :: S) h Q = aW d 175 128 L (.int (a + b) :: S) h Q := ax_iadd mt175 dX12_stepTold_127
theorem s175_128 : aW (d + 1) 175 128 L (.int x2 :: .int x1 :: .int x0 :: []) h Q = aM d 139 [.int x0, .int x1, .int x2] h (fun v h1 => aW (d + 1) 175 131 L (ab_ps v []) h1 Q) := ax_invs mt175 dX12_stepTold_128 (by decide) ct_49277 (.inl rfl) mt139 ⟨⟨Nat.le_of_ble_eq_true rfl, Nat.le_of_ble_eq_true rfl, Nat.le_of_ble_eq_true rfl⟩, rfl, rfl⟩
theorem s175_131 : aW d 175 131 L (.int a :: S) h Q = (if a = 0 then aW d 175 165 L S h Q else aW d 175 134 L S h Q) := ax_if_eq mt175 dX12_stepTold_131 (by decide)
theorem s175_134 : aW d 175 134 [.ref o, l1, l2] S h Q = aW d 175 135 [.ref o, l1, l2] (.ref o :: S) h Q := ax_aload_n mt175 dX12_stepTold_134 rfl
theorem s175_135 (hT : gT h o = some (14, 54)) : aW d 175 135 L (.ref o :: S) h Q = (isRf (gR h o 14) = true ∧ aW d 175 138 L (gR h o 14 :: S) h Q) := ax_geta mt175 dX12_stepTold_135 (by decide) ft_49196 fk_49196 hT
theorem s175_138 : aW d 175 138 L S h Q = aW d 175 139 L (.int (nI 4) :: S) h Q := ax_iconst mt175 dX12_stepTold_138 ic_4
theorem s175_139 : aW d 175 139 [l0, .int a, l2] S h Q = aW d 175 140 [l0, .int a, l2] (.int a :: S) h Q := ax_iload_n mt175 dX12_stepTold_139 rfl
theorem s175_140 : aW d 175 140 L (.int b :: .int a :: S) h Q = aW d 175 141 L (.int (a * b) :: S) h Q := ax_imul mt175 dX12_stepTold_140
theorem s175_141 : aW d 175 141 [l0, l1, .int a] S h Q = aW d 175 142 [l0, l1, .int a] (.int a :: S) h Q := ax_iload_n mt175 dX12_stepTold_141 rfl
theorem s175_142 : aW d 175 142 L S h Q = aW d 175 144 L (.int (nI 6) :: S) h Q := ax_bipush mt175 dX12_stepTold_142 bp_6
theorem s175_144 : aW d 175 144 L S h Q = aW d 175 146 L (.int (nI 9) :: S) h Q := ax_bipush mt175 dX12_stepTold_144 bp_9
theorem s175_146 : aW (d + 1) 175 146 L (.int x2 :: .int x1 :: .int x0 :: [.int y0, .ref q1]) h Q = aM d 139 [.int x0, .int x1, .int x2] h (fun v h1 => aW (d + 1) 175 149 L (ab_ps v [.int y0, .ref q1]) h1 Q) := ax_invs mt175 dX12_stepTold_146 (by decide) ct_49277 (.inl rfl) mt139 ⟨⟨Nat.le_of_ble_eq_true rfl, Nat.le_of_ble_eq_true rfl, Nat.le_of_ble_eq_true rfl⟩, rfl, rfl⟩
theorem s175_149 : aW d 175 149 L (.int a :: S) h Q = (if a = 0 then aW d 175 159 L S h Q else aW d 175 152 L S h Q) := ax_if_eq mt175 dX12_stepTold_149 (by decide)
theorem s175_152 : aW d 175 152 [l0, l1, .int a] S h Q = aW d 175 153 [l0, l1, .int a] (.int a :: S) h Q := ax_iload_n mt175 dX12_stepTold_152 rfl
theorem s175_153 : aW d 175 153 L S h Q = aW d 175 155 L (.int (nI 6) :: S) h Q := ax_bipush mt175 dX12_stepTold_153 bp_6
theorem s175_155 : aW d 175 155 L (.int b :: .int a :: S) h Q = aW d 175 156 L (.int (a - b) :: S) h Q := ax_isub mt175 dX12_stepTold_155
theorem s175_156 : aW d 175 156 L S h Q = aW d 175 160 L S h Q := ax_goto mt175 dX12_stepTold_156 (by decide)
theorem s175_160 : aW d 175 160 L (.int b :: .int a :: S) h Q = aW d 175 161 L (.int (a + b) :: S) h Q := ax_iadd mt175 dX12_stepTold_160
theorem s175_161 : aW d 175 161 L (.int a :: .ref o :: S) h Q = (inb a (aI h o) ∧ aW d 175 162 L (.int (gI h o a.toNatClampNeg) :: S) h Q) := ax_iald mt175 dX12_stepTold_161
theorem s175_162 : aW d 175 162 L S h Q = aW d 175 167 L S h Q := ax_goto mt175 dX12_stepTold_162 (by decide)
theorem s175_167 : aW d 175 167 L [.int a] h Q = Q (some (.int a)) h := ax_reti mt175 dX12_stepTold_167 rfl
theorem s175_159 : aW d 175 159 L S h Q = aW d 175 160 L (.int (nI 0) :: S) h Q := ax_iconst mt175 dX12_stepTold_159 ic_0
theorem s175_165 : aW d 175 165 L S h Q = aW d 175 167 L (.int ((-7)) :: S) h Q := ax_bipush mt175 dX12_stepTold_165 bp_m7
-- method 176: BufferRoomModel.isNeeded(II)Z
theorem dX12_isNeeded_0 : decode cX12_isNeeded 0 = .ok (.iconst 0, 1) := by decide +kernel
theorem dX12_isNeeded_1 : decode cX12_isNeeded 1 = .ok (.istore_n 3, 1) := by decide +kernel
theorem dX12_isNeeded_2 : decode cX12_isNeeded 2 = .ok (.iload_n 3, 1) := by decide +kernel
theorem dX12_isNeeded_3 : decode cX12_isNeeded 3 = .ok (.aload_n 0, 1) := by decide +kernel
theorem dX12_isNeeded_4 : decode cX12_isNeeded 4 = .ok (.getfield 165, 3) := by decide +kernel
theorem dX12_isNeeded_7 : decode cX12_isNeeded 7 = .ok (.if_icmp .ge 28, 3) := by decide +kernel
theorem dX12_isNeeded_10 : decode cX12_isNeeded 10 = .ok (.iload_n 2, 1) := by decide +kernel
theorem dX12_isNeeded_11 : decode cX12_isNeeded 11 = .ok (.iload_n 3, 1) := by decide +kernel
theorem dX12_isNeeded_12 : decode cX12_isNeeded 12 = .ok (.ishr, 1) := by decide +kernel
theorem dX12_isNeeded_13 : decode cX12_isNeeded 13 = .ok (.iconst 1, 1) := by decide +kernel
theorem dX12_isNeeded_14 : decode cX12_isNeeded 14 = .ok (.iand, 1) := by decide +kernel
theorem dX12_isNeeded_15 : decode cX12_isNeeded 15 = .ok (.ifCond .ne 14, 3) := by decide +kernel
theorem dX12_isNeeded_18 : decode cX12_isNeeded 18 = .ok (.aload_n 0, 1) := by decide +kernel
theorem dX12_isNeeded_19 : decode cX12_isNeeded 19 = .ok (.iload_n 3, 1) := by decide +kernel
theorem dX12_isNeeded_20 : decode cX12_isNeeded 20 = .ok (.iload_n 1, 1) := by decide +kernel
theorem dX12_isNeeded_21 : decode cX12_isNeeded 21 = .ok (.invokevirtual 219, 3) := by decide +kernel
theorem dX12_isNeeded_24 : decode cX12_isNeeded 24 = .ok (.ifCond .eq 5, 3) := by decide +kernel
theorem dX12_isNeeded_27 : decode cX12_isNeeded 27 = .ok (.iconst 1, 1) := by decide +kernel
theorem dX12_isNeeded_28 : decode cX12_isNeeded 28 = .ok (.ireturn, 1) := by decide +kernel
theorem dX12_isNeeded_29 : decode cX12_isNeeded 29 = .ok (.iinc 3 1, 3) := by decide +kernel
theorem dX12_isNeeded_32 : decode cX12_isNeeded 32 = .ok (.goto (-30), 3) := by decide +kernel
theorem dX12_isNeeded_35 : decode cX12_isNeeded 35 = .ok (.iconst 0, 1) := by decide +kernel
theorem dX12_isNeeded_36 : decode cX12_isNeeded 36 = .ok (.ireturn, 1) := by decide +kernel
theorem s176_0 : aW d 176 0 L S h Q = aW d 176 1 L (.int (nI 0) :: S) h Q := ax_iconst mt176 dX12_isNeeded_0 ic_0
theorem s176_1 : aW d 176 1 [l0, l1, l2, l3] (.int a :: S) h Q = aW d 176 2 [l0, l1, l2, .int a] S h Q := ax_istore_n mt176 dX12_isNeeded_1 (Nat.le_of_ble_eq_true rfl) rfl
theorem s176_2 : aW d 176 2 [l0, l1, l2, .int a] S h Q = aW d 176 3 [l0, l1, l2, .int a] (.int a :: S) h Q := ax_iload_n mt176 dX12_isNeeded_2 rfl
theorem s176_3 : aW d 176 3 [.ref o, l1, l2, l3] S h Q = aW d 176 4 [.ref o, l1, l2, l3] (.ref o :: S) h Q := ax_aload_n mt176 dX12_isNeeded_3 rfl
theorem s176_4 (hT : gT h o = some (14, 54)) : aW d 176 4 L (.ref o :: S) h Q = aW d 176 7 L (.int (gI h o 4) :: S) h Q := ax_geti mt176 dX12_isNeeded_4 (by decide) ft_49317 fk_49317 hT
theorem s176_7 : aW d 176 7 L (.int b :: .int a :: S) h Q = (if a < b then aW d 176 10 L S h Q else aW d 176 35 L S h Q) := ax_icmp_ge mt176 dX12_isNeeded_7 (by decide)
theorem s176_10 : aW d 176 10 [l0, l1, .int a, l3] S h Q = aW d 176 11 [l0, l1, .int a, l3] (.int a :: S) h Q := ax_iload_n mt176 dX12_isNeeded_10 rfl
theorem s176_11 : aW d 176 11 [l0, l1, l2, .int a] S h Q = aW d 176 12 [l0, l1, l2, .int a] (.int a :: S) h Q := ax_iload_n mt176 dX12_isNeeded_11 rfl
theorem s176_12 : aW d 176 12 L (.int b :: .int a :: S) h Q = aW d 176 13 L (.int (a >>> (b &&& 31)) :: S) h Q := ax_ishr mt176 dX12_isNeeded_12
theorem s176_13 : aW d 176 13 L S h Q = aW d 176 14 L (.int (nI 1) :: S) h Q := ax_iconst mt176 dX12_isNeeded_13 ic_1
theorem s176_14 : aW d 176 14 L (.int b :: .int a :: S) h Q = aW d 176 15 L (.int (a &&& b) :: S) h Q := ax_iand mt176 dX12_isNeeded_14
theorem s176_15 : aW d 176 15 L (.int a :: S) h Q = (if a = 0 then aW d 176 18 L S h Q else aW d 176 29 L S h Q) := ax_if_ne mt176 dX12_isNeeded_15 (by decide)
theorem s176_18 : aW d 176 18 [.ref o, l1, l2, l3] S h Q = aW d 176 19 [.ref o, l1, l2, l3] (.ref o :: S) h Q := ax_aload_n mt176 dX12_isNeeded_18 rfl
theorem s176_19 : aW d 176 19 [l0, l1, l2, .int a] S h Q = aW d 176 20 [l0, l1, l2, .int a] (.int a :: S) h Q := ax_iload_n mt176 dX12_isNeeded_19 rfl
theorem s176_20 : aW d 176 20 [l0, .int a, l2, l3] S h Q = aW d 176 21 [l0, .int a, l2, l3] (.int a :: S) h Q := ax_iload_n mt176 dX12_isNeeded_20 rfl
theorem s176_21 (hT : gT h o = some (14, 54)) : aW (d + 1) 176 21 L (.int x1 :: .int x0 :: .ref o :: []) h Q = aM d 160 (.ref o :: [.int x0, .int x1]) h (fun v h1 => aW (d + 1) 176 24 L (ab_ps v []) h1 Q) := ax_invv mt176 dX12_isNeeded_21 (by decide) ct_49371 (.inl rfl) mt160 ⟨⟨Nat.le_of_ble_eq_true rfl, Nat.le_of_ble_eq_true rfl, Nat.le_of_ble_eq_true rfl⟩, rfl, rfl, rfl⟩ hT
theorem s176_24 : aW d 176 24 L (.int a :: S) h Q = (if a = 0 then aW d 176 29 L S h Q else aW d 176 27 L S h Q) := ax_if_eq mt176 dX12_isNeeded_24 (by decide)
theorem s176_27 : aW d 176 27 L S h Q = aW d 176 28 L (.int (nI 1) :: S) h Q := ax_iconst mt176 dX12_isNeeded_27 ic_1
theorem s176_28 : aW d 176 28 L [.int a] h Q = (b01 a ∧ Q (some (.int a)) h) := ax_retz mt176 dX12_isNeeded_28 rfl
theorem s176_29 : aW d 176 29 [l0, l1, l2, .int a] S h Q = aW d 176 32 [l0, l1, l2, .int (a + nI 1)] S h Q := ax_iinc mt176 dX12_isNeeded_29 rfl ic_1 rfl
theorem s176_32 : aW d 176 32 L S h Q = aW d 176 2 L S h Q := ax_goto mt176 dX12_isNeeded_32 (by decide)
theorem s176_35 : aW d 176 35 L S h Q = aW d 176 36 L (.int (nI 0) :: S) h Q := ax_iconst mt176 dX12_isNeeded_35 ic_0
theorem s176_36 : aW d 176 36 L [.int a] h Q = (b01 a ∧ Q (some (.int a)) h) := ax_retz mt176 dX12_isNeeded_36 rfl
-- method 177: BufferRoomModel.loadOf(II)I
theorem dX12_loadOf_0 : decode cX12_loadOf 0 = .ok (.aload_n 0, 1) := by decide +kernel
theorem dX12_loadOf_1 : decode cX12_loadOf 1 = .ok (.iload_n 1, 1) := by decide +kernel
theorem dX12_loadOf_2 : decode cX12_loadOf 2 = .ok (.invokevirtual 228, 3) := by decide +kernel
theorem dX12_loadOf_5 : decode cX12_loadOf 5 = .ok (.istore_n 3, 1) := by decide +kernel
theorem dX12_loadOf_6 : decode cX12_loadOf 6 = .ok (.iconst (-1), 1) := by decide +kernel
theorem dX12_loadOf_7 : decode cX12_loadOf 7 = .ok (.istore 4, 2) := by decide +kernel
theorem dX12_loadOf_9 : decode cX12_loadOf 9 = .ok (.iconst 0, 1) := by decide +kernel
theorem dX12_loadOf_10 : decode cX12_loadOf 10 = .ok (.istore 5, 2) := by decide +kernel
theorem dX12_loadOf_12 : decode cX12_loadOf 12 = .ok (.iload 5, 2) := by decide +kernel
theorem dX12_loadOf_14 : decode cX12_loadOf 14 = .ok (.bipush 12, 2) := by decide +kernel
theorem dX12_loadOf_16 : decode cX12_loadOf 16 = .ok (.if_icmp .ge 242, 3) := by decide +kernel
theorem dX12_loadOf_19 : decode cX12_loadOf 19 = .ok (.aload_n 0, 1) := by decide +kernel
theorem dX12_loadOf_20 : decode cX12_loadOf 20 = .ok (.getfield 16, 3) := by decide +kernel
theorem dX12_loadOf_23 : decode cX12_loadOf 23 = .ok (.iload 5, 2) := by decide +kernel
theorem dX12_loadOf_25 : decode cX12_loadOf 25 = .ok (.baload, 1) := by decide +kernel
theorem dX12_loadOf_26 : decode cX12_loadOf 26 = .ok (.ifCond .eq 12, 3) := by decide +kernel
theorem dX12_loadOf_29 : decode cX12_loadOf 29 = .ok (.aload_n 0, 1) := by decide +kernel
theorem dX12_loadOf_30 : decode cX12_loadOf 30 = .ok (.iload 5, 2) := by decide +kernel
theorem dX12_loadOf_32 : decode cX12_loadOf 32 = .ok (.invokevirtual 208, 3) := by decide +kernel
theorem dX12_loadOf_35 : decode cX12_loadOf 35 = .ok (.goto 4, 3) := by decide +kernel
theorem dX12_loadOf_38 : decode cX12_loadOf 38 = .ok (.iconst (-1), 1) := by decide +kernel
theorem dX12_loadOf_39 : decode cX12_loadOf 39 = .ok (.istore 6, 2) := by decide +kernel
theorem dX12_loadOf_41 : decode cX12_loadOf 41 = .ok (.iload 6, 2) := by decide +kernel
theorem dX12_loadOf_43 : decode cX12_loadOf 43 = .ok (.iconst (-1), 1) := by decide +kernel
theorem dX12_loadOf_44 : decode cX12_loadOf 44 = .ok (.if_icmp .eq 28, 3) := by decide +kernel
theorem dX12_loadOf_47 : decode cX12_loadOf 47 = .ok (.iload 6, 2) := by decide +kernel
theorem dX12_loadOf_49 : decode cX12_loadOf 49 = .ok (.iload_n 1, 1) := by decide +kernel
theorem dX12_loadOf_50 : decode cX12_loadOf 50 = .ok (.if_icmp .eq 22, 3) := by decide +kernel
theorem dX12_loadOf_53 : decode cX12_loadOf 53 = .ok (.iload_n 2, 1) := by decide +kernel
theorem dX12_loadOf_54 : decode cX12_loadOf 54 = .ok (.iload 6, 2) := by decide +kernel
theorem dX12_loadOf_56 : decode cX12_loadOf 56 = .ok (.ifCond .ge 7, 3) := by decide +kernel
theorem dX12_loadOf_59 : decode cX12_loadOf 59 = .ok (.iconst 0, 1) := by decide +kernel
theorem dX12_loadOf_60 : decode cX12_loadOf 60 = .ok (.goto 5, 3) := by decide +kernel
theorem dX12_loadOf_63 : decode cX12_loadOf 63 = .ok (.iload 6, 2) := by decide +kernel
theorem dX12_loadOf_65 : decode cX12_loadOf 65 = .ok (.ishr, 1) := by decide +kernel
theorem dX12_loadOf_66 : decode cX12_loadOf 66 = .ok (.iconst 1, 1) := by decide +kernel
theorem dX12_loadOf_67 : decode cX12_loadOf 67 = .ok (.iand, 1) := by decide +kernel
theorem dX12_loadOf_68 : decode cX12_loadOf 68 = .ok (.iconst 1, 1) := by decide +kernel
theorem dX12_loadOf_69 : decode cX12_loadOf 69 = .ok (.if_icmp .ne 7, 3) := by decide +kernel
theorem dX12_loadOf_72 : decode cX12_loadOf 72 = .ok (.iconst 1, 1) := by decide +kernel
theorem dX12_loadOf_73 : decode cX12_loadOf 73 = .ok (.goto 4, 3) := by decide +kernel
theorem dX12_loadOf_76 : decode cX12_loadOf 76 = .ok (.iconst 0, 1) := by decide +kernel
theorem dX12_loadOf_77 : decode cX12_loadOf 77 = .ok (.istore 7, 2) := by decide +kernel
theorem dX12_loadOf_79 : decode cX12_loadOf 79 = .ok (.aload_n 0, 1) := by decide +kernel
theorem dX12_loadOf_80 : decode cX12_loadOf 80 = .ok (.getfield 16, 3) := by decide +kernel
theorem dX12_loadOf_83 : decode cX12_loadOf 83 = .ok (.iload 5, 2) := by decide +kernel
theorem dX12_loadOf_85 : decode cX12_loadOf 85 = .ok (.baload, 1) := by decide +kernel
theorem dX12_loadOf_86 : decode cX12_loadOf 86 = .ok (.ifCond .eq 38, 3) := by decide +kernel
theorem dX12_loadOf_89 : decode cX12_loadOf 89 = .ok (.iload 7, 2) := by decide +kernel
theorem dX12_loadOf_91 : decode cX12_loadOf 91 = .ok (.ifCond .eq 33, 3) := by decide +kernel
theorem dX12_loadOf_94 : decode cX12_loadOf 94 = .ok (.aload_n 0, 1) := by decide +kernel
theorem dX12_loadOf_95 : decode cX12_loadOf 95 = .ok (.iload 5, 2) := by decide +kernel
theorem dX12_loadOf_97 : decode cX12_loadOf 97 = .ok (.iload_n 2, 1) := by decide +kernel
theorem dX12_loadOf_98 : decode cX12_loadOf 98 = .ok (.invokevirtual 243, 3) := by decide +kernel
theorem dX12_loadOf_101 : decode cX12_loadOf 101 = .ok (.ifCond .ne 19, 3) := by decide +kernel
theorem dX12_loadOf_104 : decode cX12_loadOf 104 = .ok (.aload_n 0, 1) := by decide +kernel
theorem dX12_loadOf_105 : decode cX12_loadOf 105 = .ok (.getfield 29, 3) := by decide +kernel
theorem dX12_loadOf_108 : decode cX12_loadOf 108 = .ok (.iload 5, 2) := by decide +kernel
theorem dX12_loadOf_110 : decode cX12_loadOf 110 = .ok (.baload, 1) := by decide +kernel
theorem dX12_loadOf_111 : decode cX12_loadOf 111 = .ok (.ifCond .ne 9, 3) := by decide +kernel
theorem dX12_loadOf_114 : decode cX12_loadOf 114 = .ok (.iload 6, 2) := by decide +kernel
theorem dX12_loadOf_116 : decode cX12_loadOf 116 = .ok (.iload_n 1, 1) := by decide +kernel
theorem dX12_loadOf_117 : decode cX12_loadOf 117 = .ok (.if_icmp .ne 7, 3) := by decide +kernel
theorem dX12_loadOf_120 : decode cX12_loadOf 120 = .ok (.iconst 1, 1) := by decide +kernel
theorem dX12_loadOf_121 : decode cX12_loadOf 121 = .ok (.goto 4, 3) := by decide +kernel
theorem dX12_loadOf_124 : decode cX12_loadOf 124 = .ok (.iconst 0, 1) := by decide +kernel
theorem dX12_loadOf_125 : decode cX12_loadOf 125 = .ok (.istore 8, 2) := by decide +kernel
theorem dX12_loadOf_127 : decode cX12_loadOf 127 = .ok (.iload_n 3, 1) := by decide +kernel
theorem dX12_loadOf_128 : decode cX12_loadOf 128 = .ok (.iload 8, 2) := by decide +kernel
theorem dX12_loadOf_130 : decode cX12_loadOf 130 = .ok (.ifCond .eq 12, 3) := by decide +kernel
theorem dX12_loadOf_133 : decode cX12_loadOf 133 = .ok (.aload_n 0, 1) := by decide +kernel
theorem dX12_loadOf_134 : decode cX12_loadOf 134 = .ok (.iload 5, 2) := by decide +kernel
theorem dX12_loadOf_136 : decode cX12_loadOf 136 = .ok (.invokevirtual 204, 3) := by decide +kernel
theorem dX12_loadOf_139 : decode cX12_loadOf 139 = .ok (.goto 4, 3) := by decide +kernel
theorem dX12_loadOf_142 : decode cX12_loadOf 142 = .ok (.iconst 0, 1) := by decide +kernel
theorem dX12_loadOf_143 : decode cX12_loadOf 143 = .ok (.iadd, 1) := by decide +kernel
theorem dX12_loadOf_144 : decode cX12_loadOf 144 = .ok (.istore_n 3, 1) := by decide +kernel
theorem dX12_loadOf_145 : decode cX12_loadOf 145 = .ok (.aload_n 0, 1) := by decide +kernel
theorem dX12_loadOf_146 : decode cX12_loadOf 146 = .ok (.getfield 16, 3) := by decide +kernel
theorem dX12_loadOf_149 : decode cX12_loadOf 149 = .ok (.iload 5, 2) := by decide +kernel
theorem dX12_loadOf_151 : decode cX12_loadOf 151 = .ok (.baload, 1) := by decide +kernel
theorem dX12_loadOf_152 : decode cX12_loadOf 152 = .ok (.ifCond .eq 53, 3) := by decide +kernel
theorem dX12_loadOf_155 : decode cX12_loadOf 155 = .ok (.aload_n 0, 1) := by decide +kernel
theorem dX12_loadOf_156 : decode cX12_loadOf 156 = .ok (.getfield 32, 3) := by decide +kernel
theorem dX12_loadOf_159 : decode cX12_loadOf 159 = .ok (.iload_n 1, 1) := by decide +kernel
theorem dX12_loadOf_160 : decode cX12_loadOf 160 = .ok (.iaload, 1) := by decide +kernel
theorem dX12_loadOf_161 : decode cX12_loadOf 161 = .ok (.invokestatic 201, 3) := by decide +kernel
theorem dX12_loadOf_164 : decode cX12_loadOf 164 = .ok (.ifCond .eq 41, 3) := by decide +kernel
theorem dX12_loadOf_167 : decode cX12_loadOf 167 = .ok (.aload_n 0, 1) := by decide +kernel
theorem dX12_loadOf_168 : decode cX12_loadOf 168 = .ok (.iload_n 1, 1) := by decide +kernel
theorem dX12_loadOf_169 : decode cX12_loadOf 169 = .ok (.iload 5, 2) := by decide +kernel
theorem dX12_loadOf_171 : decode cX12_loadOf 171 = .ok (.invokevirtual 219, 3) := by decide +kernel
theorem dX12_loadOf_174 : decode cX12_loadOf 174 = .ok (.ifCond .eq 31, 3) := by decide +kernel
theorem dX12_loadOf_177 : decode cX12_loadOf 177 = .ok (.aload_n 0, 1) := by decide +kernel
theorem dX12_loadOf_178 : decode cX12_loadOf 178 = .ok (.getfield 29, 3) := by decide +kernel
theorem dX12_loadOf_181 : decode cX12_loadOf 181 = .ok (.iload 5, 2) := by decide +kernel
theorem dX12_loadOf_183 : decode cX12_loadOf 183 = .ok (.baload, 1) := by decide +kernel
theorem dX12_loadOf_184 : decode cX12_loadOf 184 = .ok (.ifCond .ne 21, 3) := by decide +kernel
theorem dX12_loadOf_187 : decode cX12_loadOf 187 = .ok (.aload_n 0, 1) := by decide +kernel
theorem dX12_loadOf_188 : decode cX12_loadOf 188 = .ok (.iload 5, 2) := by decide +kernel
theorem dX12_loadOf_190 : decode cX12_loadOf 190 = .ok (.iload_n 2, 1) := by decide +kernel
theorem dX12_loadOf_191 : decode cX12_loadOf 191 = .ok (.iconst 1, 1) := by decide +kernel
theorem dX12_loadOf_192 : decode cX12_loadOf 192 = .ok (.iload_n 1, 1) := by decide +kernel
theorem dX12_loadOf_193 : decode cX12_loadOf 193 = .ok (.ishl, 1) := by decide +kernel
theorem dX12_loadOf_194 : decode cX12_loadOf 194 = .ok (.ior, 1) := by decide +kernel
theorem dX12_loadOf_195 : decode cX12_loadOf 195 = .ok (.invokevirtual 243, 3) := by decide +kernel
theorem dX12_loadOf_198 : decode cX12_loadOf 198 = .ok (.ifCond .ne 7, 3) := by decide +kernel
theorem dX12_loadOf_201 : decode cX12_loadOf 201 = .ok (.iconst 1, 1) := by decide +kernel
theorem dX12_loadOf_202 : decode cX12_loadOf 202 = .ok (.goto 4, 3) := by decide +kernel
theorem dX12_loadOf_205 : decode cX12_loadOf 205 = .ok (.iconst 0, 1) := by decide +kernel
theorem dX12_loadOf_206 : decode cX12_loadOf 206 = .ok (.istore 9, 2) := by decide +kernel
theorem dX12_loadOf_208 : decode cX12_loadOf 208 = .ok (.iload 9, 2) := by decide +kernel
theorem dX12_loadOf_210 : decode cX12_loadOf 210 = .ok (.ifCond .eq 38, 3) := by decide +kernel
theorem dX12_loadOf_213 : decode cX12_loadOf 213 = .ok (.iload 4, 2) := by decide +kernel
theorem dX12_loadOf_215 : decode cX12_loadOf 215 = .ok (.iconst (-1), 1) := by decide +kernel
theorem dX12_loadOf_216 : decode cX12_loadOf 216 = .ok (.if_icmp .eq 27, 3) := by decide +kernel
theorem dX12_loadOf_219 : decode cX12_loadOf 219 = .ok (.aload_n 0, 1) := by decide +kernel
theorem dX12_loadOf_220 : decode cX12_loadOf 220 = .ok (.iload 5, 2) := by decide +kernel
theorem dX12_loadOf_222 : decode cX12_loadOf 222 = .ok (.invokevirtual 204, 3) := by decide +kernel
theorem dX12_loadOf_225 : decode cX12_loadOf 225 = .ok (.aload_n 0, 1) := by decide +kernel
theorem dX12_loadOf_226 : decode cX12_loadOf 226 = .ok (.iload 4, 2) := by decide +kernel
theorem dX12_loadOf_228 : decode cX12_loadOf 228 = .ok (.ifCond .ge 7, 3) := by decide +kernel
theorem dX12_loadOf_231 : decode cX12_loadOf 231 = .ok (.iconst 0, 1) := by decide +kernel
theorem dX12_loadOf_232 : decode cX12_loadOf 232 = .ok (.goto 5, 3) := by decide +kernel
theorem dX12_loadOf_235 : decode cX12_loadOf 235 = .ok (.iload 4, 2) := by decide +kernel
theorem dX12_loadOf_237 : decode cX12_loadOf 237 = .ok (.invokevirtual 204, 3) := by decide +kernel
theorem dX12_loadOf_240 : decode cX12_loadOf 240 = .ok (.if_icmp .le 8, 3) := by decide +kernel
theorem dX12_loadOf_243 : decode cX12_loadOf 243 = .ok (.iload 5, 2) := by decide +kernel
theorem dX12_loadOf_245 : decode cX12_loadOf 245 = .ok (.goto 5, 3) := by decide +kernel
theorem dX12_loadOf_248 : decode cX12_loadOf 248 = .ok (.iload 4, 2) := by decide +kernel
theorem dX12_loadOf_250 : decode cX12_loadOf 250 = .ok (.istore 4, 2) := by decide +kernel
theorem dX12_loadOf_252 : decode cX12_loadOf 252 = .ok (.iinc 5 1, 3) := by decide +kernel
theorem dX12_loadOf_255 : decode cX12_loadOf 255 = .ok (.goto (-243), 3) := by decide +kernel
theorem dX12_loadOf_258 : decode cX12_loadOf 258 = .ok (.iload 4, 2) := by decide +kernel
theorem dX12_loadOf_260 : decode cX12_loadOf 260 = .ok (.iconst (-1), 1) := by decide +kernel
theorem dX12_loadOf_261 : decode cX12_loadOf 261 = .ok (.if_icmp .eq 40, 3) := by decide +kernel
theorem dX12_loadOf_264 : decode cX12_loadOf 264 = .ok (.aload_n 0, 1) := by decide +kernel
theorem dX12_loadOf_265 : decode cX12_loadOf 265 = .ok (.iload 4, 2) := by decide +kernel
theorem dX12_loadOf_267 : decode cX12_loadOf 267 = .ok (.invokevirtual 204, 3) := by decide +kernel
theorem dX12_loadOf_270 : decode cX12_loadOf 270 = .ok (.istore 5, 2) := by decide +kernel
theorem dX12_loadOf_272 : decode cX12_loadOf 272 = .ok (.aload_n 0, 1) := by decide +kernel
theorem dX12_loadOf_273 : decode cX12_loadOf 273 = .ok (.aload_n 0, 1) := by decide +kernel
theorem dX12_loadOf_274 : decode cX12_loadOf 274 = .ok (.getfield 38, 3) := by decide +kernel
theorem dX12_loadOf_277 : decode cX12_loadOf 277 = .ok (.iload_n 1, 1) := by decide +kernel
theorem dX12_loadOf_278 : decode cX12_loadOf 278 = .ok (.iaload, 1) := by decide +kernel
theorem dX12_loadOf_279 : decode cX12_loadOf 279 = .ok (.invokevirtual 204, 3) := by decide +kernel
theorem dX12_loadOf_282 : decode cX12_loadOf 282 = .ok (.istore 6, 2) := by decide +kernel
theorem dX12_loadOf_284 : decode cX12_loadOf 284 = .ok (.iload_n 3, 1) := by decide +kernel
theorem dX12_loadOf_285 : decode cX12_loadOf 285 = .ok (.iload 5, 2) := by decide +kernel
theorem dX12_loadOf_287 : decode cX12_loadOf 287 = .ok (.iload 6, 2) := by decide +kernel
theorem dX12_loadOf_289 : decode cX12_loadOf 289 = .ok (.if_icmp .ge 8, 3) := by decide +kernel
theorem dX12_loadOf_292 : decode cX12_loadOf 292 = .ok (.iload 5, 2) := by decide +kernel
theorem dX12_loadOf_294 : decode cX12_loadOf 294 = .ok (.goto 5, 3) := by decide +kernel
theorem dX12_loadOf_297 : decode cX12_loadOf 297 = .ok (.iload 6, 2) := by decide +kernel
theorem dX12_loadOf_299 : decode cX12_loadOf 299 = .ok (.isub, 1) := by decide +kernel
theorem dX12_loadOf_300 : decode cX12_loadOf 300 = .ok (.istore_n 3, 1) := by decide +kernel
theorem dX12_loadOf_301 : decode cX12_loadOf 301 = .ok (.iload_n 3, 1) := by decide +kernel
theorem dX12_loadOf_302 : decode cX12_loadOf 302 = .ok (.ireturn, 1) := by decide +kernel
theorem s177_0 : aW d 177 0 [.ref o, l1, l2, l3, l4, l5, l6, l7, l8, l9] S h Q = aW d 177 1 [.ref o, l1, l2, l3, l4, l5, l6, l7, l8, l9] (.ref o :: S) h Q := ax_aload_n mt177 dX12_loadOf_0 rfl
theorem s177_1 : aW d 177 1 [l0, .int a, l2, l3, l4, l5, l6, l7, l8, l9] S h Q = aW d 177 2 [l0, .int a, l2, l3, l4, l5, l6, l7, l8, l9] (.int a :: S) h Q := ax_iload_n mt177 dX12_loadOf_1 rfl
theorem s177_2 (hT : gT h o = some (14, 54)) : aW (d + 1) 177 2 L (.int x0 :: .ref o :: []) h Q = aM d 159 (.ref o :: [.int x0]) h (fun v h1 => aW (d + 1) 177 5 L (ab_ps v []) h1 Q) := ax_invv mt177 dX12_loadOf_2 (by decide) ct_49380 (.inl rfl) mt159 ⟨⟨Nat.le_of_ble_eq_true rfl, Nat.le_of_ble_eq_true rfl, Nat.le_of_ble_eq_true rfl⟩, rfl, rfl, rfl⟩ hT
theorem s177_5 : aW d 177 5 [l0, l1, l2, l3, l4, l5, l6, l7, l8, l9] (.int a :: S) h Q = aW d 177 6 [l0, l1, l2, .int a, l4, l5, l6, l7, l8, l9] S h Q := ax_istore_n mt177 dX12_loadOf_5 (Nat.le_of_ble_eq_true rfl) rfl
theorem s177_6 : aW d 177 6 L S h Q = aW d 177 7 L (.int ((-1)) :: S) h Q := ax_iconst mt177 dX12_loadOf_6 ic_m1
theorem s177_7 : aW d 177 7 [l0, l1, l2, l3, l4, l5, l6, l7, l8, l9] (.int a :: S) h Q = aW d 177 9 [l0, l1, l2, l3, .int a, l5, l6, l7, l8, l9] S h Q := ax_istore mt177 dX12_loadOf_7 (Nat.le_of_ble_eq_true rfl) rfl
theorem s177_9 : aW d 177 9 L S h Q = aW d 177 10 L (.int (nI 0) :: S) h Q := ax_iconst mt177 dX12_loadOf_9 ic_0
theorem s177_10 : aW d 177 10 [l0, l1, l2, l3, l4, l5, l6, l7, l8, l9] (.int a :: S) h Q = aW d 177 12 [l0, l1, l2, l3, l4, .int a, l6, l7, l8, l9] S h Q := ax_istore mt177 dX12_loadOf_10 (Nat.le_of_ble_eq_true rfl) rfl
theorem s177_12 : aW d 177 12 [l0, l1, l2, l3, l4, .int a, l6, l7, l8, l9] S h Q = aW d 177 14 [l0, l1, l2, l3, l4, .int a, l6, l7, l8, l9] (.int a :: S) h Q := ax_iload mt177 dX12_loadOf_12 rfl
theorem s177_14 : aW d 177 14 L S h Q = aW d 177 16 L (.int (nI 12) :: S) h Q := ax_bipush mt177 dX12_loadOf_14 bp_12
theorem s177_16 : aW d 177 16 L (.int b :: .int a :: S) h Q = (if a < b then aW d 177 19 L S h Q else aW d 177 258 L S h Q) := ax_icmp_ge mt177 dX12_loadOf_16 (by decide)
theorem s177_19 : aW d 177 19 [.ref o, l1, l2, l3, l4, l5, l6, l7, l8, l9] S h Q = aW d 177 20 [.ref o, l1, l2, l3, l4, l5, l6, l7, l8, l9] (.ref o :: S) h Q := ax_aload_n mt177 dX12_loadOf_19 rfl
theorem s177_20 (hT : gT h o = some (14, 54)) : aW d 177 20 L (.ref o :: S) h Q = (isRf (gR h o 5) = true ∧ aW d 177 23 L (gR h o 5 :: S) h Q) := ax_geta mt177 dX12_loadOf_20 (by decide) ft_49168 fk_49168 hT
theorem s177_23 : aW d 177 23 [l0, l1, l2, l3, l4, .int a, l6, l7, l8, l9] S h Q = aW d 177 25 [l0, l1, l2, l3, l4, .int a, l6, l7, l8, l9] (.int a :: S) h Q := ax_iload mt177 dX12_loadOf_23 rfl
theorem s177_25 : aW d 177 25 L (.int a :: .ref o :: S) h Q = (inb a (aZ h o) ∧ aW d 177 26 L (.int (gI h o a.toNatClampNeg) :: S) h Q) := ax_zald mt177 dX12_loadOf_25
theorem s177_26 : aW d 177 26 L (.int a :: S) h Q = (if a = 0 then aW d 177 38 L S h Q else aW d 177 29 L S h Q) := ax_if_eq mt177 dX12_loadOf_26 (by decide)
theorem s177_29 : aW d 177 29 [.ref o, l1, l2, l3, l4, l5, l6, l7, l8, l9] S h Q = aW d 177 30 [.ref o, l1, l2, l3, l4, l5, l6, l7, l8, l9] (.ref o :: S) h Q := ax_aload_n mt177 dX12_loadOf_29 rfl
theorem s177_30 : aW d 177 30 [l0, l1, l2, l3, l4, .int a, l6, l7, l8, l9] S h Q = aW d 177 32 [l0, l1, l2, l3, l4, .int a, l6, l7, l8, l9] (.int a :: S) h Q := ax_iload mt177 dX12_loadOf_30 rfl
theorem s177_32 (hT : gT h o = some (14, 54)) : aW (d + 1) 177 32 L (.int x0 :: .ref o :: []) h Q = aM d 161 (.ref o :: [.int x0]) h (fun v h1 => aW (d + 1) 177 35 L (ab_ps v []) h1 Q) := ax_invv mt177 dX12_loadOf_32 (by decide) ct_49360 (.inl rfl) mt161 ⟨⟨Nat.le_of_ble_eq_true rfl, Nat.le_of_ble_eq_true rfl, Nat.le_of_ble_eq_true rfl⟩, rfl, rfl, rfl⟩ hT
theorem s177_35 : aW d 177 35 L S h Q = aW d 177 39 L S h Q := ax_goto mt177 dX12_loadOf_35 (by decide)
theorem s177_39 : aW d 177 39 [l0, l1, l2, l3, l4, l5, l6, l7, l8, l9] (.int a :: S) h Q = aW d 177 41 [l0, l1, l2, l3, l4, l5, .int a, l7, l8, l9] S h Q := ax_istore mt177 dX12_loadOf_39 (Nat.le_of_ble_eq_true rfl) rfl
theorem s177_41 : aW d 177 41 [l0, l1, l2, l3, l4, l5, .int a, l7, l8, l9] S h Q = aW d 177 43 [l0, l1, l2, l3, l4, l5, .int a, l7, l8, l9] (.int a :: S) h Q := ax_iload mt177 dX12_loadOf_41 rfl
theorem s177_43 : aW d 177 43 L S h Q = aW d 177 44 L (.int ((-1)) :: S) h Q := ax_iconst mt177 dX12_loadOf_43 ic_m1
theorem s177_44 : aW d 177 44 L (.int b :: .int a :: S) h Q = (if a = b then aW d 177 72 L S h Q else aW d 177 47 L S h Q) := ax_icmp_eq mt177 dX12_loadOf_44 (by decide)
theorem s177_47 : aW d 177 47 [l0, l1, l2, l3, l4, l5, .int a, l7, l8, l9] S h Q = aW d 177 49 [l0, l1, l2, l3, l4, l5, .int a, l7, l8, l9] (.int a :: S) h Q := ax_iload mt177 dX12_loadOf_47 rfl
theorem s177_49 : aW d 177 49 [l0, .int a, l2, l3, l4, l5, l6, l7, l8, l9] S h Q = aW d 177 50 [l0, .int a, l2, l3, l4, l5, l6, l7, l8, l9] (.int a :: S) h Q := ax_iload_n mt177 dX12_loadOf_49 rfl
theorem s177_50 : aW d 177 50 L (.int b :: .int a :: S) h Q = (if a = b then aW d 177 72 L S h Q else aW d 177 53 L S h Q) := ax_icmp_eq mt177 dX12_loadOf_50 (by decide)
theorem s177_53 : aW d 177 53 [l0, l1, .int a, l3, l4, l5, l6, l7, l8, l9] S h Q = aW d 177 54 [l0, l1, .int a, l3, l4, l5, l6, l7, l8, l9] (.int a :: S) h Q := ax_iload_n mt177 dX12_loadOf_53 rfl
theorem s177_54 : aW d 177 54 [l0, l1, l2, l3, l4, l5, .int a, l7, l8, l9] S h Q = aW d 177 56 [l0, l1, l2, l3, l4, l5, .int a, l7, l8, l9] (.int a :: S) h Q := ax_iload mt177 dX12_loadOf_54 rfl
theorem s177_56 : aW d 177 56 L (.int a :: S) h Q = (if a < 0 then aW d 177 59 L S h Q else aW d 177 63 L S h Q) := ax_if_ge mt177 dX12_loadOf_56 (by decide)
theorem s177_59 : aW d 177 59 L S h Q = aW d 177 60 L (.int (nI 0) :: S) h Q := ax_iconst mt177 dX12_loadOf_59 ic_0
theorem s177_60 : aW d 177 60 L S h Q = aW d 177 65 L S h Q := ax_goto mt177 dX12_loadOf_60 (by decide)
theorem s177_65 : aW d 177 65 L (.int b :: .int a :: S) h Q = aW d 177 66 L (.int (a >>> (b &&& 31)) :: S) h Q := ax_ishr mt177 dX12_loadOf_65
theorem s177_66 : aW d 177 66 L S h Q = aW d 177 67 L (.int (nI 1) :: S) h Q := ax_iconst mt177 dX12_loadOf_66 ic_1
theorem s177_67 : aW d 177 67 L (.int b :: .int a :: S) h Q = aW d 177 68 L (.int (a &&& b) :: S) h Q := ax_iand mt177 dX12_loadOf_67
theorem s177_68 : aW d 177 68 L S h Q = aW d 177 69 L (.int (nI 1) :: S) h Q := ax_iconst mt177 dX12_loadOf_68 ic_1
theorem s177_69 : aW d 177 69 L (.int b :: .int a :: S) h Q = (if a = b then aW d 177 72 L S h Q else aW d 177 76 L S h Q) := ax_icmp_ne mt177 dX12_loadOf_69 (by decide)
theorem s177_76 : aW d 177 76 L S h Q = aW d 177 77 L (.int (nI 0) :: S) h Q := ax_iconst mt177 dX12_loadOf_76 ic_0
theorem s177_77 : aW d 177 77 [l0, l1, l2, l3, l4, l5, l6, l7, l8, l9] (.int a :: S) h Q = aW d 177 79 [l0, l1, l2, l3, l4, l5, l6, .int a, l8, l9] S h Q := ax_istore mt177 dX12_loadOf_77 (Nat.le_of_ble_eq_true rfl) rfl
theorem s177_79 : aW d 177 79 [.ref o, l1, l2, l3, l4, l5, l6, l7, l8, l9] S h Q = aW d 177 80 [.ref o, l1, l2, l3, l4, l5, l6, l7, l8, l9] (.ref o :: S) h Q := ax_aload_n mt177 dX12_loadOf_79 rfl
theorem s177_80 (hT : gT h o = some (14, 54)) : aW d 177 80 L (.ref o :: S) h Q = (isRf (gR h o 5) = true ∧ aW d 177 83 L (gR h o 5 :: S) h Q) := ax_geta mt177 dX12_loadOf_80 (by decide) ft_49168 fk_49168 hT
theorem s177_83 : aW d 177 83 [l0, l1, l2, l3, l4, .int a, l6, l7, l8, l9] S h Q = aW d 177 85 [l0, l1, l2, l3, l4, .int a, l6, l7, l8, l9] (.int a :: S) h Q := ax_iload mt177 dX12_loadOf_83 rfl
theorem s177_85 : aW d 177 85 L (.int a :: .ref o :: S) h Q = (inb a (aZ h o) ∧ aW d 177 86 L (.int (gI h o a.toNatClampNeg) :: S) h Q) := ax_zald mt177 dX12_loadOf_85
theorem s177_86 : aW d 177 86 L (.int a :: S) h Q = (if a = 0 then aW d 177 124 L S h Q else aW d 177 89 L S h Q) := ax_if_eq mt177 dX12_loadOf_86 (by decide)
theorem s177_89 : aW d 177 89 [l0, l1, l2, l3, l4, l5, l6, .int a, l8, l9] S h Q = aW d 177 91 [l0, l1, l2, l3, l4, l5, l6, .int a, l8, l9] (.int a :: S) h Q := ax_iload mt177 dX12_loadOf_89 rfl
theorem s177_91 : aW d 177 91 L (.int a :: S) h Q = (if a = 0 then aW d 177 124 L S h Q else aW d 177 94 L S h Q) := ax_if_eq mt177 dX12_loadOf_91 (by decide)
theorem s177_94 : aW d 177 94 [.ref o, l1, l2, l3, l4, l5, l6, l7, l8, l9] S h Q = aW d 177 95 [.ref o, l1, l2, l3, l4, l5, l6, l7, l8, l9] (.ref o :: S) h Q := ax_aload_n mt177 dX12_loadOf_94 rfl
theorem s177_95 : aW d 177 95 [l0, l1, l2, l3, l4, .int a, l6, l7, l8, l9] S h Q = aW d 177 97 [l0, l1, l2, l3, l4, .int a, l6, l7, l8, l9] (.int a :: S) h Q := ax_iload mt177 dX12_loadOf_95 rfl
theorem s177_97 : aW d 177 97 [l0, l1, .int a, l3, l4, l5, l6, l7, l8, l9] S h Q = aW d 177 98 [l0, l1, .int a, l3, l4, l5, l6, l7, l8, l9] (.int a :: S) h Q := ax_iload_n mt177 dX12_loadOf_97 rfl
theorem s177_98 (hT : gT h o = some (14, 54)) : aW (d + 1) 177 98 L (.int x1 :: .int x0 :: .ref o :: []) h Q = aM d 176 (.ref o :: [.int x0, .int x1]) h (fun v h1 => aW (d + 1) 177 101 L (ab_ps v []) h1 Q) := ax_invv mt177 dX12_loadOf_98 (by decide) ct_49395 (.inl rfl) mt176 ⟨⟨Nat.le_of_ble_eq_true rfl, Nat.le_of_ble_eq_true rfl, Nat.le_of_ble_eq_true rfl⟩, rfl, rfl, rfl⟩ hT
theorem s177_101 : aW d 177 101 L (.int a :: S) h Q = (if a = 0 then aW d 177 104 L S h Q else aW d 177 120 L S h Q) := ax_if_ne mt177 dX12_loadOf_101 (by decide)
theorem s177_104 : aW d 177 104 [.ref o, l1, l2, l3, l4, l5, l6, l7, l8, l9] S h Q = aW d 177 105 [.ref o, l1, l2, l3, l4, l5, l6, l7, l8, l9] (.ref o :: S) h Q := ax_aload_n mt177 dX12_loadOf_104 rfl
theorem s177_105 (hT : gT h o = some (14, 54)) : aW d 177 105 L (.ref o :: S) h Q = (isRf (gR h o 9) = true ∧ aW d 177 108 L (gR h o 9 :: S) h Q) := ax_geta mt177 dX12_loadOf_105 (by decide) ft_49181 fk_49181 hT
theorem s177_108 : aW d 177 108 [l0, l1, l2, l3, l4, .int a, l6, l7, l8, l9] S h Q = aW d 177 110 [l0, l1, l2, l3, l4, .int a, l6, l7, l8, l9] (.int a :: S) h Q := ax_iload mt177 dX12_loadOf_108 rfl
theorem s177_110 : aW d 177 110 L (.int a :: .ref o :: S) h Q = (inb a (aZ h o) ∧ aW d 177 111 L (.int (gI h o a.toNatClampNeg) :: S) h Q) := ax_zald mt177 dX12_loadOf_110
theorem s177_111 : aW d 177 111 L (.int a :: S) h Q = (if a = 0 then aW d 177 114 L S h Q else aW d 177 120 L S h Q) := ax_if_ne mt177 dX12_loadOf_111 (by decide)
theorem s177_114 : aW d 177 114 [l0, l1, l2, l3, l4, l5, .int a, l7, l8, l9] S h Q = aW d 177 116 [l0, l1, l2, l3, l4, l5, .int a, l7, l8, l9] (.int a :: S) h Q := ax_iload mt177 dX12_loadOf_114 rfl
theorem s177_116 : aW d 177 116 [l0, .int a, l2, l3, l4, l5, l6, l7, l8, l9] S h Q = aW d 177 117 [l0, .int a, l2, l3, l4, l5, l6, l7, l8, l9] (.int a :: S) h Q := ax_iload_n mt177 dX12_loadOf_116 rfl
theorem s177_117 : aW d 177 117 L (.int b :: .int a :: S) h Q = (if a = b then aW d 177 120 L S h Q else aW d 177 124 L S h Q) := ax_icmp_ne mt177 dX12_loadOf_117 (by decide)
theorem s177_120 : aW d 177 120 L S h Q = aW d 177 121 L (.int (nI 1) :: S) h Q := ax_iconst mt177 dX12_loadOf_120 ic_1
theorem s177_121 : aW d 177 121 L S h Q = aW d 177 125 L S h Q := ax_goto mt177 dX12_loadOf_121 (by decide)
theorem s177_125 : aW d 177 125 [l0, l1, l2, l3, l4, l5, l6, l7, l8, l9] (.int a :: S) h Q = aW d 177 127 [l0, l1, l2, l3, l4, l5, l6, l7, .int a, l9] S h Q := ax_istore mt177 dX12_loadOf_125 (Nat.le_of_ble_eq_true rfl) rfl
theorem s177_127 : aW d 177 127 [l0, l1, l2, .int a, l4, l5, l6, l7, l8, l9] S h Q = aW d 177 128 [l0, l1, l2, .int a, l4, l5, l6, l7, l8, l9] (.int a :: S) h Q := ax_iload_n mt177 dX12_loadOf_127 rfl
theorem s177_128 : aW d 177 128 [l0, l1, l2, l3, l4, l5, l6, l7, .int a, l9] S h Q = aW d 177 130 [l0, l1, l2, l3, l4, l5, l6, l7, .int a, l9] (.int a :: S) h Q := ax_iload mt177 dX12_loadOf_128 rfl
theorem s177_130 : aW d 177 130 L (.int a :: S) h Q = (if a = 0 then aW d 177 142 L S h Q else aW d 177 133 L S h Q) := ax_if_eq mt177 dX12_loadOf_130 (by decide)
theorem s177_133 : aW d 177 133 [.ref o, l1, l2, l3, l4, l5, l6, l7, l8, l9] S h Q = aW d 177 134 [.ref o, l1, l2, l3, l4, l5, l6, l7, l8, l9] (.ref o :: S) h Q := ax_aload_n mt177 dX12_loadOf_133 rfl
theorem s177_134 : aW d 177 134 [l0, l1, l2, l3, l4, .int a, l6, l7, l8, l9] S h Q = aW d 177 136 [l0, l1, l2, l3, l4, .int a, l6, l7, l8, l9] (.int a :: S) h Q := ax_iload mt177 dX12_loadOf_134 rfl
theorem s177_136 (hT : gT h o = some (14, 54)) : aW (d + 1) 177 136 L (.int x0 :: .ref o :: [.int y0]) h Q = aM d 154 (.ref o :: [.int x0]) h (fun v h1 => aW (d + 1) 177 139 L (ab_ps v [.int y0]) h1 Q) := ax_invv mt177 dX12_loadOf_136 (by decide) ct_49356 (.inl rfl) mt154 ⟨⟨Nat.le_of_ble_eq_true rfl, Nat.le_of_ble_eq_true rfl, Nat.le_of_ble_eq_true rfl⟩, rfl, rfl, rfl⟩ hT
theorem s177_139 : aW d 177 139 L S h Q = aW d 177 143 L S h Q := ax_goto mt177 dX12_loadOf_139 (by decide)
theorem s177_143 : aW d 177 143 L (.int b :: .int a :: S) h Q = aW d 177 144 L (.int (a + b) :: S) h Q := ax_iadd mt177 dX12_loadOf_143
theorem s177_144 : aW d 177 144 [l0, l1, l2, l3, l4, l5, l6, l7, l8, l9] (.int a :: S) h Q = aW d 177 145 [l0, l1, l2, .int a, l4, l5, l6, l7, l8, l9] S h Q := ax_istore_n mt177 dX12_loadOf_144 (Nat.le_of_ble_eq_true rfl) rfl
theorem s177_145 : aW d 177 145 [.ref o, l1, l2, l3, l4, l5, l6, l7, l8, l9] S h Q = aW d 177 146 [.ref o, l1, l2, l3, l4, l5, l6, l7, l8, l9] (.ref o :: S) h Q := ax_aload_n mt177 dX12_loadOf_145 rfl
theorem s177_146 (hT : gT h o = some (14, 54)) : aW d 177 146 L (.ref o :: S) h Q = (isRf (gR h o 5) = true ∧ aW d 177 149 L (gR h o 5 :: S) h Q) := ax_geta mt177 dX12_loadOf_146 (by decide) ft_49168 fk_49168 hT
theorem s177_149 : aW d 177 149 [l0, l1, l2, l3, l4, .int a, l6, l7, l8, l9] S h Q = aW d 177 151 [l0, l1, l2, l3, l4, .int a, l6, l7, l8, l9] (.int a :: S) h Q := ax_iload mt177 dX12_loadOf_149 rfl
theorem s177_151 : aW d 177 151 L (.int a :: .ref o :: S) h Q = (inb a (aZ h o) ∧ aW d 177 152 L (.int (gI h o a.toNatClampNeg) :: S) h Q) := ax_zald mt177 dX12_loadOf_151
theorem s177_152 : aW d 177 152 L (.int a :: S) h Q = (if a = 0 then aW d 177 205 L S h Q else aW d 177 155 L S h Q) := ax_if_eq mt177 dX12_loadOf_152 (by decide)
theorem s177_155 : aW d 177 155 [.ref o, l1, l2, l3, l4, l5, l6, l7, l8, l9] S h Q = aW d 177 156 [.ref o, l1, l2, l3, l4, l5, l6, l7, l8, l9] (.ref o :: S) h Q := ax_aload_n mt177 dX12_loadOf_155 rfl
theorem s177_156 (hT : gT h o = some (14, 54)) : aW d 177 156 L (.ref o :: S) h Q = (isRf (gR h o 10) = true ∧ aW d 177 159 L (gR h o 10 :: S) h Q) := ax_geta mt177 dX12_loadOf_156 (by decide) ft_49184 fk_49184 hT
theorem s177_159 : aW d 177 159 [l0, .int a, l2, l3, l4, l5, l6, l7, l8, l9] S h Q = aW d 177 160 [l0, .int a, l2, l3, l4, l5, l6, l7, l8, l9] (.int a :: S) h Q := ax_iload_n mt177 dX12_loadOf_159 rfl
theorem s177_160 : aW d 177 160 L (.int a :: .ref o :: S) h Q = (inb a (aI h o) ∧ aW d 177 161 L (.int (gI h o a.toNatClampNeg) :: S) h Q) := ax_iald mt177 dX12_loadOf_160
theorem s177_161 : aW (d + 1) 177 161 L (.int x0 :: []) h Q = aM d 157 [.int x0] h (fun v h1 => aW (d + 1) 177 164 L (ab_ps v []) h1 Q) := ax_invs mt177 dX12_loadOf_161 (by decide) ct_49353 (.inl rfl) mt157 ⟨⟨Nat.le_of_ble_eq_true rfl, Nat.le_of_ble_eq_true rfl, Nat.le_of_ble_eq_true rfl⟩, rfl, rfl⟩
theorem s177_164 : aW d 177 164 L (.int a :: S) h Q = (if a = 0 then aW d 177 205 L S h Q else aW d 177 167 L S h Q) := ax_if_eq mt177 dX12_loadOf_164 (by decide)
theorem s177_167 : aW d 177 167 [.ref o, l1, l2, l3, l4, l5, l6, l7, l8, l9] S h Q = aW d 177 168 [.ref o, l1, l2, l3, l4, l5, l6, l7, l8, l9] (.ref o :: S) h Q := ax_aload_n mt177 dX12_loadOf_167 rfl
theorem s177_168 : aW d 177 168 [l0, .int a, l2, l3, l4, l5, l6, l7, l8, l9] S h Q = aW d 177 169 [l0, .int a, l2, l3, l4, l5, l6, l7, l8, l9] (.int a :: S) h Q := ax_iload_n mt177 dX12_loadOf_168 rfl
theorem s177_169 : aW d 177 169 [l0, l1, l2, l3, l4, .int a, l6, l7, l8, l9] S h Q = aW d 177 171 [l0, l1, l2, l3, l4, .int a, l6, l7, l8, l9] (.int a :: S) h Q := ax_iload mt177 dX12_loadOf_169 rfl
theorem s177_171 (hT : gT h o = some (14, 54)) : aW (d + 1) 177 171 L (.int x1 :: .int x0 :: .ref o :: []) h Q = aM d 160 (.ref o :: [.int x0, .int x1]) h (fun v h1 => aW (d + 1) 177 174 L (ab_ps v []) h1 Q) := ax_invv mt177 dX12_loadOf_171 (by decide) ct_49371 (.inl rfl) mt160 ⟨⟨Nat.le_of_ble_eq_true rfl, Nat.le_of_ble_eq_true rfl, Nat.le_of_ble_eq_true rfl⟩, rfl, rfl, rfl⟩ hT
theorem s177_174 : aW d 177 174 L (.int a :: S) h Q = (if a = 0 then aW d 177 205 L S h Q else aW d 177 177 L S h Q) := ax_if_eq mt177 dX12_loadOf_174 (by decide)
theorem s177_177 : aW d 177 177 [.ref o, l1, l2, l3, l4, l5, l6, l7, l8, l9] S h Q = aW d 177 178 [.ref o, l1, l2, l3, l4, l5, l6, l7, l8, l9] (.ref o :: S) h Q := ax_aload_n mt177 dX12_loadOf_177 rfl
theorem s177_178 (hT : gT h o = some (14, 54)) : aW d 177 178 L (.ref o :: S) h Q = (isRf (gR h o 9) = true ∧ aW d 177 181 L (gR h o 9 :: S) h Q) := ax_geta mt177 dX12_loadOf_178 (by decide) ft_49181 fk_49181 hT
theorem s177_181 : aW d 177 181 [l0, l1, l2, l3, l4, .int a, l6, l7, l8, l9] S h Q = aW d 177 183 [l0, l1, l2, l3, l4, .int a, l6, l7, l8, l9] (.int a :: S) h Q := ax_iload mt177 dX12_loadOf_181 rfl
theorem s177_183 : aW d 177 183 L (.int a :: .ref o :: S) h Q = (inb a (aZ h o) ∧ aW d 177 184 L (.int (gI h o a.toNatClampNeg) :: S) h Q) := ax_zald mt177 dX12_loadOf_183
theorem s177_184 : aW d 177 184 L (.int a :: S) h Q = (if a = 0 then aW d 177 187 L S h Q else aW d 177 205 L S h Q) := ax_if_ne mt177 dX12_loadOf_184 (by decide)
theorem s177_187 : aW d 177 187 [.ref o, l1, l2, l3, l4, l5, l6, l7, l8, l9] S h Q = aW d 177 188 [.ref o, l1, l2, l3, l4, l5, l6, l7, l8, l9] (.ref o :: S) h Q := ax_aload_n mt177 dX12_loadOf_187 rfl
theorem s177_188 : aW d 177 188 [l0, l1, l2, l3, l4, .int a, l6, l7, l8, l9] S h Q = aW d 177 190 [l0, l1, l2, l3, l4, .int a, l6, l7, l8, l9] (.int a :: S) h Q := ax_iload mt177 dX12_loadOf_188 rfl
theorem s177_190 : aW d 177 190 [l0, l1, .int a, l3, l4, l5, l6, l7, l8, l9] S h Q = aW d 177 191 [l0, l1, .int a, l3, l4, l5, l6, l7, l8, l9] (.int a :: S) h Q := ax_iload_n mt177 dX12_loadOf_190 rfl
theorem s177_191 : aW d 177 191 L S h Q = aW d 177 192 L (.int (nI 1) :: S) h Q := ax_iconst mt177 dX12_loadOf_191 ic_1
theorem s177_192 : aW d 177 192 [l0, .int a, l2, l3, l4, l5, l6, l7, l8, l9] S h Q = aW d 177 193 [l0, .int a, l2, l3, l4, l5, l6, l7, l8, l9] (.int a :: S) h Q := ax_iload_n mt177 dX12_loadOf_192 rfl
theorem s177_193 : aW d 177 193 L (.int b :: .int a :: S) h Q = aW d 177 194 L (.int (a <<< (b &&& 31)) :: S) h Q := ax_ishl mt177 dX12_loadOf_193
theorem s177_194 : aW d 177 194 L (.int b :: .int a :: S) h Q = aW d 177 195 L (.int (a ||| b) :: S) h Q := ax_ior mt177 dX12_loadOf_194
theorem s177_195 (hT : gT h o = some (14, 54)) : aW (d + 1) 177 195 L (.int x1 :: .int x0 :: .ref o :: []) h Q = aM d 176 (.ref o :: [.int x0, .int x1]) h (fun v h1 => aW (d + 1) 177 198 L (ab_ps v []) h1 Q) := ax_invv mt177 dX12_loadOf_195 (by decide) ct_49395 (.inl rfl) mt176 ⟨⟨Nat.le_of_ble_eq_true rfl, Nat.le_of_ble_eq_true rfl, Nat.le_of_ble_eq_true rfl⟩, rfl, rfl, rfl⟩ hT
theorem s177_198 : aW d 177 198 L (.int a :: S) h Q = (if a = 0 then aW d 177 201 L S h Q else aW d 177 205 L S h Q) := ax_if_ne mt177 dX12_loadOf_198 (by decide)
theorem s177_201 : aW d 177 201 L S h Q = aW d 177 202 L (.int (nI 1) :: S) h Q := ax_iconst mt177 dX12_loadOf_201 ic_1
theorem s177_202 : aW d 177 202 L S h Q = aW d 177 206 L S h Q := ax_goto mt177 dX12_loadOf_202 (by decide)
theorem s177_206 : aW d 177 206 [l0, l1, l2, l3, l4, l5, l6, l7, l8, l9] (.int a :: S) h Q = aW d 177 208 [l0, l1, l2, l3, l4, l5, l6, l7, l8, .int a] S h Q := ax_istore mt177 dX12_loadOf_206 (Nat.le_of_ble_eq_true rfl) rfl
theorem s177_208 : aW d 177 208 [l0, l1, l2, l3, l4, l5, l6, l7, l8, .int a] S h Q = aW d 177 210 [l0, l1, l2, l3, l4, l5, l6, l7, l8, .int a] (.int a :: S) h Q := ax_iload mt177 dX12_loadOf_208 rfl
theorem s177_210 : aW d 177 210 L (.int a :: S) h Q = (if a = 0 then aW d 177 248 L S h Q else aW d 177 213 L S h Q) := ax_if_eq mt177 dX12_loadOf_210 (by decide)
theorem s177_213 : aW d 177 213 [l0, l1, l2, l3, .int a, l5, l6, l7, l8, l9] S h Q = aW d 177 215 [l0, l1, l2, l3, .int a, l5, l6, l7, l8, l9] (.int a :: S) h Q := ax_iload mt177 dX12_loadOf_213 rfl
theorem s177_215 : aW d 177 215 L S h Q = aW d 177 216 L (.int ((-1)) :: S) h Q := ax_iconst mt177 dX12_loadOf_215 ic_m1
theorem s177_216 : aW d 177 216 L (.int b :: .int a :: S) h Q = (if a = b then aW d 177 243 L S h Q else aW d 177 219 L S h Q) := ax_icmp_eq mt177 dX12_loadOf_216 (by decide)
theorem s177_219 : aW d 177 219 [.ref o, l1, l2, l3, l4, l5, l6, l7, l8, l9] S h Q = aW d 177 220 [.ref o, l1, l2, l3, l4, l5, l6, l7, l8, l9] (.ref o :: S) h Q := ax_aload_n mt177 dX12_loadOf_219 rfl
theorem s177_220 : aW d 177 220 [l0, l1, l2, l3, l4, .int a, l6, l7, l8, l9] S h Q = aW d 177 222 [l0, l1, l2, l3, l4, .int a, l6, l7, l8, l9] (.int a :: S) h Q := ax_iload mt177 dX12_loadOf_220 rfl
theorem s177_222 (hT : gT h o = some (14, 54)) : aW (d + 1) 177 222 L (.int x0 :: .ref o :: []) h Q = aM d 154 (.ref o :: [.int x0]) h (fun v h1 => aW (d + 1) 177 225 L (ab_ps v []) h1 Q) := ax_invv mt177 dX12_loadOf_222 (by decide) ct_49356 (.inl rfl) mt154 ⟨⟨Nat.le_of_ble_eq_true rfl, Nat.le_of_ble_eq_true rfl, Nat.le_of_ble_eq_true rfl⟩, rfl, rfl, rfl⟩ hT
theorem s177_225 : aW d 177 225 [.ref o, l1, l2, l3, l4, l5, l6, l7, l8, l9] S h Q = aW d 177 226 [.ref o, l1, l2, l3, l4, l5, l6, l7, l8, l9] (.ref o :: S) h Q := ax_aload_n mt177 dX12_loadOf_225 rfl
theorem s177_226 : aW d 177 226 [l0, l1, l2, l3, .int a, l5, l6, l7, l8, l9] S h Q = aW d 177 228 [l0, l1, l2, l3, .int a, l5, l6, l7, l8, l9] (.int a :: S) h Q := ax_iload mt177 dX12_loadOf_226 rfl
theorem s177_228 : aW d 177 228 L (.int a :: S) h Q = (if a < 0 then aW d 177 231 L S h Q else aW d 177 235 L S h Q) := ax_if_ge mt177 dX12_loadOf_228 (by decide)
theorem s177_231 : aW d 177 231 L S h Q = aW d 177 232 L (.int (nI 0) :: S) h Q := ax_iconst mt177 dX12_loadOf_231 ic_0
theorem s177_232 : aW d 177 232 L S h Q = aW d 177 237 L S h Q := ax_goto mt177 dX12_loadOf_232 (by decide)
theorem s177_237 (hT : gT h o = some (14, 54)) : aW (d + 1) 177 237 L (.int x0 :: .ref o :: [.int y0]) h Q = aM d 154 (.ref o :: [.int x0]) h (fun v h1 => aW (d + 1) 177 240 L (ab_ps v [.int y0]) h1 Q) := ax_invv mt177 dX12_loadOf_237 (by decide) ct_49356 (.inl rfl) mt154 ⟨⟨Nat.le_of_ble_eq_true rfl, Nat.le_of_ble_eq_true rfl, Nat.le_of_ble_eq_true rfl⟩, rfl, rfl, rfl⟩ hT
theorem s177_240 : aW d 177 240 L (.int b :: .int a :: S) h Q = (if b < a then aW d 177 243 L S h Q else aW d 177 248 L S h Q) := ax_icmp_le mt177 dX12_loadOf_240 (by decide)
theorem s177_235 : aW d 177 235 [l0, l1, l2, l3, .int a, l5, l6, l7, l8, l9] S h Q = aW d 177 237 [l0, l1, l2, l3, .int a, l5, l6, l7, l8, l9] (.int a :: S) h Q := ax_iload mt177 dX12_loadOf_235 rfl
theorem s177_243 : aW d 177 243 [l0, l1, l2, l3, l4, .int a, l6, l7, l8, l9] S h Q = aW d 177 245 [l0, l1, l2, l3, l4, .int a, l6, l7, l8, l9] (.int a :: S) h Q := ax_iload mt177 dX12_loadOf_243 rfl
theorem s177_245 : aW d 177 245 L S h Q = aW d 177 250 L S h Q := ax_goto mt177 dX12_loadOf_245 (by decide)
theorem s177_250 : aW d 177 250 [l0, l1, l2, l3, l4, l5, l6, l7, l8, l9] (.int a :: S) h Q = aW d 177 252 [l0, l1, l2, l3, .int a, l5, l6, l7, l8, l9] S h Q := ax_istore mt177 dX12_loadOf_250 (Nat.le_of_ble_eq_true rfl) rfl
theorem s177_252 : aW d 177 252 [l0, l1, l2, l3, l4, .int a, l6, l7, l8, l9] S h Q = aW d 177 255 [l0, l1, l2, l3, l4, .int (a + nI 1), l6, l7, l8, l9] S h Q := ax_iinc mt177 dX12_loadOf_252 rfl ic_1 rfl
theorem s177_255 : aW d 177 255 L S h Q = aW d 177 12 L S h Q := ax_goto mt177 dX12_loadOf_255 (by decide)
theorem s177_248 : aW d 177 248 [l0, l1, l2, l3, .int a, l5, l6, l7, l8, l9] S h Q = aW d 177 250 [l0, l1, l2, l3, .int a, l5, l6, l7, l8, l9] (.int a :: S) h Q := ax_iload mt177 dX12_loadOf_248 rfl
theorem s177_205 : aW d 177 205 L S h Q = aW d 177 206 L (.int (nI 0) :: S) h Q := ax_iconst mt177 dX12_loadOf_205 ic_0
theorem s177_142 : aW d 177 142 L S h Q = aW d 177 143 L (.int (nI 0) :: S) h Q := ax_iconst mt177 dX12_loadOf_142 ic_0
theorem s177_124 : aW d 177 124 L S h Q = aW d 177 125 L (.int (nI 0) :: S) h Q := ax_iconst mt177 dX12_loadOf_124 ic_0
theorem s177_63 : aW d 177 63 [l0, l1, l2, l3, l4, l5, .int a, l7, l8, l9] S h Q = aW d 177 65 [l0, l1, l2, l3, l4, l5, .int a, l7, l8, l9] (.int a :: S) h Q := ax_iload mt177 dX12_loadOf_63 rfl
theorem s177_72 : aW d 177 72 L S h Q = aW d 177 73 L (.int (nI 1) :: S) h Q := ax_iconst mt177 dX12_loadOf_72 ic_1
theorem s177_73 : aW d 177 73 L S h Q = aW d 177 77 L S h Q := ax_goto mt177 dX12_loadOf_73 (by decide)
theorem s177_38 : aW d 177 38 L S h Q = aW d 177 39 L (.int ((-1)) :: S) h Q := ax_iconst mt177 dX12_loadOf_38 ic_m1
theorem s177_258 : aW d 177 258 [l0, l1, l2, l3, .int a, l5, l6, l7, l8, l9] S h Q = aW d 177 260 [l0, l1, l2, l3, .int a, l5, l6, l7, l8, l9] (.int a :: S) h Q := ax_iload mt177 dX12_loadOf_258 rfl
theorem s177_260 : aW d 177 260 L S h Q = aW d 177 261 L (.int ((-1)) :: S) h Q := ax_iconst mt177 dX12_loadOf_260 ic_m1
theorem s177_261 : aW d 177 261 L (.int b :: .int a :: S) h Q = (if a = b then aW d 177 301 L S h Q else aW d 177 264 L S h Q) := ax_icmp_eq mt177 dX12_loadOf_261 (by decide)
theorem s177_264 : aW d 177 264 [.ref o, l1, l2, l3, l4, l5, l6, l7, l8, l9] S h Q = aW d 177 265 [.ref o, l1, l2, l3, l4, l5, l6, l7, l8, l9] (.ref o :: S) h Q := ax_aload_n mt177 dX12_loadOf_264 rfl
theorem s177_265 : aW d 177 265 [l0, l1, l2, l3, .int a, l5, l6, l7, l8, l9] S h Q = aW d 177 267 [l0, l1, l2, l3, .int a, l5, l6, l7, l8, l9] (.int a :: S) h Q := ax_iload mt177 dX12_loadOf_265 rfl
theorem s177_267 (hT : gT h o = some (14, 54)) : aW (d + 1) 177 267 L (.int x0 :: .ref o :: []) h Q = aM d 154 (.ref o :: [.int x0]) h (fun v h1 => aW (d + 1) 177 270 L (ab_ps v []) h1 Q) := ax_invv mt177 dX12_loadOf_267 (by decide) ct_49356 (.inl rfl) mt154 ⟨⟨Nat.le_of_ble_eq_true rfl, Nat.le_of_ble_eq_true rfl, Nat.le_of_ble_eq_true rfl⟩, rfl, rfl, rfl⟩ hT
theorem s177_270 : aW d 177 270 [l0, l1, l2, l3, l4, l5, l6, l7, l8, l9] (.int a :: S) h Q = aW d 177 272 [l0, l1, l2, l3, l4, .int a, l6, l7, l8, l9] S h Q := ax_istore mt177 dX12_loadOf_270 (Nat.le_of_ble_eq_true rfl) rfl
theorem s177_272 : aW d 177 272 [.ref o, l1, l2, l3, l4, l5, l6, l7, l8, l9] S h Q = aW d 177 273 [.ref o, l1, l2, l3, l4, l5, l6, l7, l8, l9] (.ref o :: S) h Q := ax_aload_n mt177 dX12_loadOf_272 rfl
theorem s177_273 : aW d 177 273 [.ref o, l1, l2, l3, l4, l5, l6, l7, l8, l9] S h Q = aW d 177 274 [.ref o, l1, l2, l3, l4, l5, l6, l7, l8, l9] (.ref o :: S) h Q := ax_aload_n mt177 dX12_loadOf_273 rfl
theorem s177_274 (hT : gT h o = some (14, 54)) : aW d 177 274 L (.ref o :: S) h Q = (isRf (gR h o 12) = true ∧ aW d 177 277 L (gR h o 12 :: S) h Q) := ax_geta mt177 dX12_loadOf_274 (by decide) ft_49190 fk_49190 hT
theorem s177_277 : aW d 177 277 [l0, .int a, l2, l3, l4, l5, l6, l7, l8, l9] S h Q = aW d 177 278 [l0, .int a, l2, l3, l4, l5, l6, l7, l8, l9] (.int a :: S) h Q := ax_iload_n mt177 dX12_loadOf_277 rfl
theorem s177_278 : aW d 177 278 L (.int a :: .ref o :: S) h Q = (inb a (aI h o) ∧ aW d 177 279 L (.int (gI h o a.toNatClampNeg) :: S) h Q) := ax_iald mt177 dX12_loadOf_278
theorem s177_279 (hT : gT h o = some (14, 54)) : aW (d + 1) 177 279 L (.int x0 :: .ref o :: []) h Q = aM d 154 (.ref o :: [.int x0]) h (fun v h1 => aW (d + 1) 177 282 L (ab_ps v []) h1 Q) := ax_invv mt177 dX12_loadOf_279 (by decide) ct_49356 (.inl rfl) mt154 ⟨⟨Nat.le_of_ble_eq_true rfl, Nat.le_of_ble_eq_true rfl, Nat.le_of_ble_eq_true rfl⟩, rfl, rfl, rfl⟩ hT
theorem s177_282 : aW d 177 282 [l0, l1, l2, l3, l4, l5, l6, l7, l8, l9] (.int a :: S) h Q = aW d 177 284 [l0, l1, l2, l3, l4, l5, .int a, l7, l8, l9] S h Q := ax_istore mt177 dX12_loadOf_282 (Nat.le_of_ble_eq_true rfl) rfl
theorem s177_284 : aW d 177 284 [l0, l1, l2, .int a, l4, l5, l6, l7, l8, l9] S h Q = aW d 177 285 [l0, l1, l2, .int a, l4, l5, l6, l7, l8, l9] (.int a :: S) h Q := ax_iload_n mt177 dX12_loadOf_284 rfl
theorem s177_285 : aW d 177 285 [l0, l1, l2, l3, l4, .int a, l6, l7, l8, l9] S h Q = aW d 177 287 [l0, l1, l2, l3, l4, .int a, l6, l7, l8, l9] (.int a :: S) h Q := ax_iload mt177 dX12_loadOf_285 rfl
theorem s177_287 : aW d 177 287 [l0, l1, l2, l3, l4, l5, .int a, l7, l8, l9] S h Q = aW d 177 289 [l0, l1, l2, l3, l4, l5, .int a, l7, l8, l9] (.int a :: S) h Q := ax_iload mt177 dX12_loadOf_287 rfl
theorem s177_289 : aW d 177 289 L (.int b :: .int a :: S) h Q = (if a < b then aW d 177 292 L S h Q else aW d 177 297 L S h Q) := ax_icmp_ge mt177 dX12_loadOf_289 (by decide)
theorem s177_292 : aW d 177 292 [l0, l1, l2, l3, l4, .int a, l6, l7, l8, l9] S h Q = aW d 177 294 [l0, l1, l2, l3, l4, .int a, l6, l7, l8, l9] (.int a :: S) h Q := ax_iload mt177 dX12_loadOf_292 rfl
theorem s177_294 : aW d 177 294 L S h Q = aW d 177 299 L S h Q := ax_goto mt177 dX12_loadOf_294 (by decide)
theorem s177_299 : aW d 177 299 L (.int b :: .int a :: S) h Q = aW d 177 300 L (.int (a - b) :: S) h Q := ax_isub mt177 dX12_loadOf_299
theorem s177_300 : aW d 177 300 [l0, l1, l2, l3, l4, l5, l6, l7, l8, l9] (.int a :: S) h Q = aW d 177 301 [l0, l1, l2, .int a, l4, l5, l6, l7, l8, l9] S h Q := ax_istore_n mt177 dX12_loadOf_300 (Nat.le_of_ble_eq_true rfl) rfl
theorem s177_297 : aW d 177 297 [l0, l1, l2, l3, l4, l5, .int a, l7, l8, l9] S h Q = aW d 177 299 [l0, l1, l2, l3, l4, l5, .int a, l7, l8, l9] (.int a :: S) h Q := ax_iload mt177 dX12_loadOf_297 rfl
theorem s177_301 : aW d 177 301 [l0, l1, l2, .int a, l4, l5, l6, l7, l8, l9] S h Q = aW d 177 302 [l0, l1, l2, .int a, l4, l5, l6, l7, l8, l9] (.int a :: S) h Q := ax_iload_n mt177 dX12_loadOf_301 rfl
theorem s177_302 : aW d 177 302 L [.int a] h Q = Q (some (.int a)) h := ax_reti mt177 dX12_loadOf_302 rfl
-- method 178: BufferRoomModel.peakBy(II)I
theorem dX12_peakBy_0 : decode cX12_peakBy 0 = .ok (.aload_n 0, 1) := by decide +kernel
theorem dX12_peakBy_1 : decode cX12_peakBy 1 = .ok (.getfield 113, 3) := by decide +kernel
theorem dX12_peakBy_4 : decode cX12_peakBy 4 = .ok (.iload_n 2, 1) := by decide +kernel
theorem dX12_peakBy_5 : decode cX12_peakBy 5 = .ok (.iconst 1, 1) := by decide +kernel
theorem dX12_peakBy_6 : decode cX12_peakBy 6 = .ok (.iload_n 1, 1) := by decide +kernel
theorem dX12_peakBy_7 : decode cX12_peakBy 7 = .ok (.ishl, 1) := by decide +kernel
theorem dX12_peakBy_8 : decode cX12_peakBy 8 = .ok (.ior, 1) := by decide +kernel
theorem dX12_peakBy_9 : decode cX12_peakBy 9 = .ok (.iaload, 1) := by decide +kernel
theorem dX12_peakBy_10 : decode cX12_peakBy 10 = .ok (.istore_n 3, 1) := by decide +kernel
theorem dX12_peakBy_11 : decode cX12_peakBy 11 = .ok (.iload_n 3, 1) := by decide +kernel
theorem dX12_peakBy_12 : decode cX12_peakBy 12 = .ok (.iconst (-1), 1) := by decide +kernel
theorem dX12_peakBy_13 : decode cX12_peakBy 13 = .ok (.if_icmp .ne 7, 3) := by decide +kernel
theorem dX12_peakBy_16 : decode cX12_peakBy 16 = .ok (.iconst 0, 1) := by decide +kernel
theorem dX12_peakBy_17 : decode cX12_peakBy 17 = .ok (.goto 9, 3) := by decide +kernel
theorem dX12_peakBy_20 : decode cX12_peakBy 20 = .ok (.aload_n 0, 1) := by decide +kernel
theorem dX12_peakBy_21 : decode cX12_peakBy 21 = .ok (.iload_n 1, 1) := by decide +kernel
theorem dX12_peakBy_22 : decode cX12_peakBy 22 = .ok (.iload_n 2, 1) := by decide +kernel
theorem dX12_peakBy_23 : decode cX12_peakBy 23 = .ok (.invokevirtual 246, 3) := by decide +kernel
theorem dX12_peakBy_26 : decode cX12_peakBy 26 = .ok (.istore 4, 2) := by decide +kernel
theorem dX12_peakBy_28 : decode cX12_peakBy 28 = .ok (.iload_n 3, 1) := by decide +kernel
theorem dX12_peakBy_29 : decode cX12_peakBy 29 = .ok (.iconst (-1), 1) := by decide +kernel
theorem dX12_peakBy_30 : decode cX12_peakBy 30 = .ok (.if_icmp .ne 7, 3) := by decide +kernel
theorem dX12_peakBy_33 : decode cX12_peakBy 33 = .ok (.iconst (-1), 1) := by decide +kernel
theorem dX12_peakBy_34 : decode cX12_peakBy 34 = .ok (.goto 15, 3) := by decide +kernel
theorem dX12_peakBy_37 : decode cX12_peakBy 37 = .ok (.iload 4, 2) := by decide +kernel
theorem dX12_peakBy_39 : decode cX12_peakBy 39 = .ok (.iload_n 3, 1) := by decide +kernel
theorem dX12_peakBy_40 : decode cX12_peakBy 40 = .ok (.if_icmp .le 8, 3) := by decide +kernel
theorem dX12_peakBy_43 : decode cX12_peakBy 43 = .ok (.iload 4, 2) := by decide +kernel
theorem dX12_peakBy_45 : decode cX12_peakBy 45 = .ok (.goto 4, 3) := by decide +kernel
theorem dX12_peakBy_48 : decode cX12_peakBy 48 = .ok (.iload_n 3, 1) := by decide +kernel
theorem dX12_peakBy_49 : decode cX12_peakBy 49 = .ok (.ireturn, 1) := by decide +kernel
theorem s178_0 : aW d 178 0 [.ref o, l1, l2, l3, l4] S h Q = aW d 178 1 [.ref o, l1, l2, l3, l4] (.ref o :: S) h Q := ax_aload_n mt178 dX12_peakBy_0 rfl
theorem s178_1 (hT : gT h o = some (14, 54)) : aW d 178 1 L (.ref o :: S) h Q = (isRf (gR h o 49) = true ∧ aW d 178 4 L (gR h o 49 :: S) h Q) := ax_geta mt178 dX12_peakBy_1 (by decide) ft_49265 fk_49265 hT
theorem s178_4 : aW d 178 4 [l0, l1, .int a, l3, l4] S h Q = aW d 178 5 [l0, l1, .int a, l3, l4] (.int a :: S) h Q := ax_iload_n mt178 dX12_peakBy_4 rfl
theorem s178_5 : aW d 178 5 L S h Q = aW d 178 6 L (.int (nI 1) :: S) h Q := ax_iconst mt178 dX12_peakBy_5 ic_1
theorem s178_6 : aW d 178 6 [l0, .int a, l2, l3, l4] S h Q = aW d 178 7 [l0, .int a, l2, l3, l4] (.int a :: S) h Q := ax_iload_n mt178 dX12_peakBy_6 rfl
theorem s178_7 : aW d 178 7 L (.int b :: .int a :: S) h Q = aW d 178 8 L (.int (a <<< (b &&& 31)) :: S) h Q := ax_ishl mt178 dX12_peakBy_7
theorem s178_8 : aW d 178 8 L (.int b :: .int a :: S) h Q = aW d 178 9 L (.int (a ||| b) :: S) h Q := ax_ior mt178 dX12_peakBy_8
theorem s178_9 : aW d 178 9 L (.int a :: .ref o :: S) h Q = (inb a (aI h o) ∧ aW d 178 10 L (.int (gI h o a.toNatClampNeg) :: S) h Q) := ax_iald mt178 dX12_peakBy_9
theorem s178_10 : aW d 178 10 [l0, l1, l2, l3, l4] (.int a :: S) h Q = aW d 178 11 [l0, l1, l2, .int a, l4] S h Q := ax_istore_n mt178 dX12_peakBy_10 (Nat.le_of_ble_eq_true rfl) rfl
theorem s178_11 : aW d 178 11 [l0, l1, l2, .int a, l4] S h Q = aW d 178 12 [l0, l1, l2, .int a, l4] (.int a :: S) h Q := ax_iload_n mt178 dX12_peakBy_11 rfl
theorem s178_12 : aW d 178 12 L S h Q = aW d 178 13 L (.int ((-1)) :: S) h Q := ax_iconst mt178 dX12_peakBy_12 ic_m1
theorem s178_13 : aW d 178 13 L (.int b :: .int a :: S) h Q = (if a = b then aW d 178 16 L S h Q else aW d 178 20 L S h Q) := ax_icmp_ne mt178 dX12_peakBy_13 (by decide)
theorem s178_16 : aW d 178 16 L S h Q = aW d 178 17 L (.int (nI 0) :: S) h Q := ax_iconst mt178 dX12_peakBy_16 ic_0
theorem s178_17 : aW d 178 17 L S h Q = aW d 178 26 L S h Q := ax_goto mt178 dX12_peakBy_17 (by decide)
theorem s178_26 : aW d 178 26 [l0, l1, l2, l3, l4] (.int a :: S) h Q = aW d 178 28 [l0, l1, l2, l3, .int a] S h Q := ax_istore mt178 dX12_peakBy_26 (Nat.le_of_ble_eq_true rfl) rfl
theorem s178_28 : aW d 178 28 [l0, l1, l2, .int a, l4] S h Q = aW d 178 29 [l0, l1, l2, .int a, l4] (.int a :: S) h Q := ax_iload_n mt178 dX12_peakBy_28 rfl
theorem s178_29 : aW d 178 29 L S h Q = aW d 178 30 L (.int ((-1)) :: S) h Q := ax_iconst mt178 dX12_peakBy_29 ic_m1
theorem s178_30 : aW d 178 30 L (.int b :: .int a :: S) h Q = (if a = b then aW d 178 33 L S h Q else aW d 178 37 L S h Q) := ax_icmp_ne mt178 dX12_peakBy_30 (by decide)
theorem s178_33 : aW d 178 33 L S h Q = aW d 178 34 L (.int ((-1)) :: S) h Q := ax_iconst mt178 dX12_peakBy_33 ic_m1
theorem s178_34 : aW d 178 34 L S h Q = aW d 178 49 L S h Q := ax_goto mt178 dX12_peakBy_34 (by decide)
theorem s178_49 : aW d 178 49 L [.int a] h Q = Q (some (.int a)) h := ax_reti mt178 dX12_peakBy_49 rfl
theorem s178_37 : aW d 178 37 [l0, l1, l2, l3, .int a] S h Q = aW d 178 39 [l0, l1, l2, l3, .int a] (.int a :: S) h Q := ax_iload mt178 dX12_peakBy_37 rfl
theorem s178_39 : aW d 178 39 [l0, l1, l2, .int a, l4] S h Q = aW d 178 40 [l0, l1, l2, .int a, l4] (.int a :: S) h Q := ax_iload_n mt178 dX12_peakBy_39 rfl
theorem s178_40 : aW d 178 40 L (.int b :: .int a :: S) h Q = (if b < a then aW d 178 43 L S h Q else aW d 178 48 L S h Q) := ax_icmp_le mt178 dX12_peakBy_40 (by decide)
theorem s178_43 : aW d 178 43 [l0, l1, l2, l3, .int a] S h Q = aW d 178 45 [l0, l1, l2, l3, .int a] (.int a :: S) h Q := ax_iload mt178 dX12_peakBy_43 rfl
theorem s178_45 : aW d 178 45 L S h Q = aW d 178 49 L S h Q := ax_goto mt178 dX12_peakBy_45 (by decide)
theorem s178_48 : aW d 178 48 [l0, l1, l2, .int a, l4] S h Q = aW d 178 49 [l0, l1, l2, .int a, l4] (.int a :: S) h Q := ax_iload_n mt178 dX12_peakBy_48 rfl
theorem s178_20 : aW d 178 20 [.ref o, l1, l2, l3, l4] S h Q = aW d 178 21 [.ref o, l1, l2, l3, l4] (.ref o :: S) h Q := ax_aload_n mt178 dX12_peakBy_20 rfl
theorem s178_21 : aW d 178 21 [l0, .int a, l2, l3, l4] S h Q = aW d 178 22 [l0, .int a, l2, l3, l4] (.int a :: S) h Q := ax_iload_n mt178 dX12_peakBy_21 rfl
theorem s178_22 : aW d 178 22 [l0, l1, .int a, l3, l4] S h Q = aW d 178 23 [l0, l1, .int a, l3, l4] (.int a :: S) h Q := ax_iload_n mt178 dX12_peakBy_22 rfl
theorem s178_23 (hT : gT h o = some (14, 54)) : aW (d + 1) 178 23 L (.int x1 :: .int x0 :: .ref o :: []) h Q = aM d 177 (.ref o :: [.int x0, .int x1]) h (fun v h1 => aW (d + 1) 178 26 L (ab_ps v []) h1 Q) := ax_invv mt178 dX12_peakBy_23 (by decide) ct_49398 (.inl rfl) mt177 ⟨⟨Nat.le_of_ble_eq_true rfl, Nat.le_of_ble_eq_true rfl, Nat.le_of_ble_eq_true rfl⟩, rfl, rfl, rfl⟩ hT
-- method 179: BufferRoomModel.leastPeak(I)I
theorem dX12_leastPeak_0 : decode cX12_leastPeak 0 = .ok (.iload_n 1, 1) := by decide +kernel
theorem dX12_leastPeak_1 : decode cX12_leastPeak 1 = .ok (.bipush (-2), 2) := by decide +kernel
theorem dX12_leastPeak_3 : decode cX12_leastPeak 3 = .ok (.aload_n 0, 1) := by decide +kernel
theorem dX12_leastPeak_4 : decode cX12_leastPeak 4 = .ok (.getfield 165, 3) := by decide +kernel
theorem dX12_leastPeak_7 : decode cX12_leastPeak 7 = .ok (.iconst 1, 1) := by decide +kernel
theorem dX12_leastPeak_8 : decode cX12_leastPeak 8 = .ok (.isub, 1) := by decide +kernel
theorem dX12_leastPeak_9 : decode cX12_leastPeak 9 = .ok (.invokestatic 125, 3) := by decide +kernel
theorem dX12_leastPeak_12 : decode cX12_leastPeak 12 = .ok (.ifCond .ne 6, 3) := by decide +kernel
theorem dX12_leastPeak_15 : decode cX12_leastPeak 15 = .ok (.bipush (-5), 2) := by decide +kernel
theorem dX12_leastPeak_17 : decode cX12_leastPeak 17 = .ok (.ireturn, 1) := by decide +kernel
theorem dX12_leastPeak_18 : decode cX12_leastPeak 18 = .ok (.iconst 1, 1) := by decide +kernel
theorem dX12_leastPeak_19 : decode cX12_leastPeak 19 = .ok (.aload_n 0, 1) := by decide +kernel
theorem dX12_leastPeak_20 : decode cX12_leastPeak 20 = .ok (.getfield 165, 3) := by decide +kernel
theorem dX12_leastPeak_23 : decode cX12_leastPeak 23 = .ok (.ishl, 1) := by decide +kernel
theorem dX12_leastPeak_24 : decode cX12_leastPeak 24 = .ok (.iconst 1, 1) := by decide +kernel
theorem dX12_leastPeak_25 : decode cX12_leastPeak 25 = .ok (.isub, 1) := by decide +kernel
theorem dX12_leastPeak_26 : decode cX12_leastPeak 26 = .ok (.istore_n 2, 1) := by decide +kernel
theorem dX12_leastPeak_27 : decode cX12_leastPeak 27 = .ok (.iconst 0, 1) := by decide +kernel
theorem dX12_leastPeak_28 : decode cX12_leastPeak 28 = .ok (.istore_n 3, 1) := by decide +kernel
theorem dX12_leastPeak_29 : decode cX12_leastPeak 29 = .ok (.iload_n 2, 1) := by decide +kernel
theorem dX12_leastPeak_30 : decode cX12_leastPeak 30 = .ok (.istore 4, 2) := by decide +kernel
theorem dX12_leastPeak_32 : decode cX12_leastPeak 32 = .ok (.iload 4, 2) := by decide +kernel
theorem dX12_leastPeak_34 : decode cX12_leastPeak 34 = .ok (.ifCond .lt 137, 3) := by decide +kernel
theorem dX12_leastPeak_37 : decode cX12_leastPeak 37 = .ok (.aload_n 0, 1) := by decide +kernel
theorem dX12_leastPeak_38 : decode cX12_leastPeak 38 = .ok (.getfield 113, 3) := by decide +kernel
theorem dX12_leastPeak_41 : decode cX12_leastPeak 41 = .ok (.iload 4, 2) := by decide +kernel
theorem dX12_leastPeak_43 : decode cX12_leastPeak 43 = .ok (.iload 4, 2) := by decide +kernel
theorem dX12_leastPeak_45 : decode cX12_leastPeak 45 = .ok (.iload_n 2, 1) := by decide +kernel
theorem dX12_leastPeak_46 : decode cX12_leastPeak 46 = .ok (.if_icmp .ne 7, 3) := by decide +kernel
theorem dX12_leastPeak_49 : decode cX12_leastPeak 49 = .ok (.iconst 0, 1) := by decide +kernel
theorem dX12_leastPeak_50 : decode cX12_leastPeak 50 = .ok (.goto 4, 3) := by decide +kernel
theorem dX12_leastPeak_53 : decode cX12_leastPeak 53 = .ok (.iconst (-1), 1) := by decide +kernel
theorem dX12_leastPeak_54 : decode cX12_leastPeak 54 = .ok (.iastore, 1) := by decide +kernel
theorem dX12_leastPeak_55 : decode cX12_leastPeak 55 = .ok (.iconst 0, 1) := by decide +kernel
theorem dX12_leastPeak_56 : decode cX12_leastPeak 56 = .ok (.istore 5, 2) := by decide +kernel
theorem dX12_leastPeak_58 : decode cX12_leastPeak 58 = .ok (.iload 5, 2) := by decide +kernel
theorem dX12_leastPeak_60 : decode cX12_leastPeak 60 = .ok (.aload_n 0, 1) := by decide +kernel
theorem dX12_leastPeak_61 : decode cX12_leastPeak 61 = .ok (.getfield 165, 3) := by decide +kernel
theorem dX12_leastPeak_64 : decode cX12_leastPeak 64 = .ok (.if_icmp .ge 82, 3) := by decide +kernel
theorem dX12_leastPeak_67 : decode cX12_leastPeak 67 = .ok (.aload_n 0, 1) := by decide +kernel
theorem dX12_leastPeak_68 : decode cX12_leastPeak 68 = .ok (.iload 5, 2) := by decide +kernel
theorem dX12_leastPeak_70 : decode cX12_leastPeak 70 = .ok (.iload 4, 2) := by decide +kernel
theorem dX12_leastPeak_72 : decode cX12_leastPeak 72 = .ok (.invokevirtual 211, 3) := by decide +kernel
theorem dX12_leastPeak_75 : decode cX12_leastPeak 75 = .ok (.ifCond .eq 14, 3) := by decide +kernel
theorem dX12_leastPeak_78 : decode cX12_leastPeak 78 = .ok (.aload_n 0, 1) := by decide +kernel
theorem dX12_leastPeak_79 : decode cX12_leastPeak 79 = .ok (.iload 5, 2) := by decide +kernel
theorem dX12_leastPeak_81 : decode cX12_leastPeak 81 = .ok (.iload 4, 2) := by decide +kernel
theorem dX12_leastPeak_83 : decode cX12_leastPeak 83 = .ok (.invokevirtual 249, 3) := by decide +kernel
theorem dX12_leastPeak_86 : decode cX12_leastPeak 86 = .ok (.goto 4, 3) := by decide +kernel
theorem dX12_leastPeak_89 : decode cX12_leastPeak 89 = .ok (.iconst (-1), 1) := by decide +kernel
theorem dX12_leastPeak_90 : decode cX12_leastPeak 90 = .ok (.istore 6, 2) := by decide +kernel
theorem dX12_leastPeak_92 : decode cX12_leastPeak 92 = .ok (.aload_n 0, 1) := by decide +kernel
theorem dX12_leastPeak_93 : decode cX12_leastPeak 93 = .ok (.getfield 113, 3) := by decide +kernel
theorem dX12_leastPeak_96 : decode cX12_leastPeak 96 = .ok (.iload 4, 2) := by decide +kernel
theorem dX12_leastPeak_98 : decode cX12_leastPeak 98 = .ok (.iload 6, 2) := by decide +kernel
theorem dX12_leastPeak_100 : decode cX12_leastPeak 100 = .ok (.iconst (-1), 1) := by decide +kernel
theorem dX12_leastPeak_101 : decode cX12_leastPeak 101 = .ok (.if_icmp .eq 31, 3) := by decide +kernel
theorem dX12_leastPeak_104 : decode cX12_leastPeak 104 = .ok (.aload_n 0, 1) := by decide +kernel
theorem dX12_leastPeak_105 : decode cX12_leastPeak 105 = .ok (.getfield 113, 3) := by decide +kernel
theorem dX12_leastPeak_108 : decode cX12_leastPeak 108 = .ok (.iload 4, 2) := by decide +kernel
theorem dX12_leastPeak_110 : decode cX12_leastPeak 110 = .ok (.iaload, 1) := by decide +kernel
theorem dX12_leastPeak_111 : decode cX12_leastPeak 111 = .ok (.iconst (-1), 1) := by decide +kernel
theorem dX12_leastPeak_112 : decode cX12_leastPeak 112 = .ok (.if_icmp .eq 15, 3) := by decide +kernel
theorem dX12_leastPeak_115 : decode cX12_leastPeak 115 = .ok (.iload 6, 2) := by decide +kernel
theorem dX12_leastPeak_117 : decode cX12_leastPeak 117 = .ok (.aload_n 0, 1) := by decide +kernel
theorem dX12_leastPeak_118 : decode cX12_leastPeak 118 = .ok (.getfield 113, 3) := by decide +kernel
theorem dX12_leastPeak_121 : decode cX12_leastPeak 121 = .ok (.iload 4, 2) := by decide +kernel
theorem dX12_leastPeak_123 : decode cX12_leastPeak 123 = .ok (.iaload, 1) := by decide +kernel
theorem dX12_leastPeak_124 : decode cX12_leastPeak 124 = .ok (.if_icmp .ge 8, 3) := by decide +kernel
theorem dX12_leastPeak_127 : decode cX12_leastPeak 127 = .ok (.iload 6, 2) := by decide +kernel
theorem dX12_leastPeak_129 : decode cX12_leastPeak 129 = .ok (.goto 10, 3) := by decide +kernel
theorem dX12_leastPeak_132 : decode cX12_leastPeak 132 = .ok (.aload_n 0, 1) := by decide +kernel
theorem dX12_leastPeak_133 : decode cX12_leastPeak 133 = .ok (.getfield 113, 3) := by decide +kernel
theorem dX12_leastPeak_136 : decode cX12_leastPeak 136 = .ok (.iload 4, 2) := by decide +kernel
theorem dX12_leastPeak_138 : decode cX12_leastPeak 138 = .ok (.iaload, 1) := by decide +kernel
theorem dX12_leastPeak_139 : decode cX12_leastPeak 139 = .ok (.iastore, 1) := by decide +kernel
theorem dX12_leastPeak_140 : decode cX12_leastPeak 140 = .ok (.iinc 5 1, 3) := by decide +kernel
theorem dX12_leastPeak_143 : decode cX12_leastPeak 143 = .ok (.goto (-85), 3) := by decide +kernel
theorem dX12_leastPeak_146 : decode cX12_leastPeak 146 = .ok (.iload_n 3, 1) := by decide +kernel
theorem dX12_leastPeak_147 : decode cX12_leastPeak 147 = .ok (.aload_n 0, 1) := by decide +kernel
theorem dX12_leastPeak_148 : decode cX12_leastPeak 148 = .ok (.getfield 113, 3) := by decide +kernel
theorem dX12_leastPeak_151 : decode cX12_leastPeak 151 = .ok (.iload 4, 2) := by decide +kernel
theorem dX12_leastPeak_153 : decode cX12_leastPeak 153 = .ok (.iaload, 1) := by decide +kernel
theorem dX12_leastPeak_154 : decode cX12_leastPeak 154 = .ok (.iconst (-1), 1) := by decide +kernel
theorem dX12_leastPeak_155 : decode cX12_leastPeak 155 = .ok (.if_icmp .ne 7, 3) := by decide +kernel
theorem dX12_leastPeak_158 : decode cX12_leastPeak 158 = .ok (.iconst 0, 1) := by decide +kernel
theorem dX12_leastPeak_159 : decode cX12_leastPeak 159 = .ok (.goto 4, 3) := by decide +kernel
theorem dX12_leastPeak_162 : decode cX12_leastPeak 162 = .ok (.iconst 1, 1) := by decide +kernel
theorem dX12_leastPeak_163 : decode cX12_leastPeak 163 = .ok (.iadd, 1) := by decide +kernel
theorem dX12_leastPeak_164 : decode cX12_leastPeak 164 = .ok (.istore_n 3, 1) := by decide +kernel
theorem dX12_leastPeak_165 : decode cX12_leastPeak 165 = .ok (.iinc 4 (-1), 3) := by decide +kernel
theorem dX12_leastPeak_168 : decode cX12_leastPeak 168 = .ok (.goto (-136), 3) := by decide +kernel
theorem dX12_leastPeak_171 : decode cX12_leastPeak 171 = .ok (.aload_n 0, 1) := by decide +kernel
theorem dX12_leastPeak_172 : decode cX12_leastPeak 172 = .ok (.getfield 113, 3) := by decide +kernel
theorem dX12_leastPeak_175 : decode cX12_leastPeak 175 = .ok (.iconst 0, 1) := by decide +kernel
theorem dX12_leastPeak_176 : decode cX12_leastPeak 176 = .ok (.iaload, 1) := by decide +kernel
theorem dX12_leastPeak_177 : decode cX12_leastPeak 177 = .ok (.iconst (-1), 1) := by decide +kernel
theorem dX12_leastPeak_178 : decode cX12_leastPeak 178 = .ok (.if_icmp .ne 6, 3) := by decide +kernel
theorem dX12_leastPeak_181 : decode cX12_leastPeak 181 = .ok (.bipush (-3), 2) := by decide +kernel
theorem dX12_leastPeak_183 : decode cX12_leastPeak 183 = .ok (.ireturn, 1) := by decide +kernel
theorem dX12_leastPeak_184 : decode cX12_leastPeak 184 = .ok (.iload_n 1, 1) := by decide +kernel
theorem dX12_leastPeak_185 : decode cX12_leastPeak 185 = .ok (.ifCond .ge 19, 3) := by decide +kernel
theorem dX12_leastPeak_188 : decode cX12_leastPeak 188 = .ok (.iload_n 1, 1) := by decide +kernel
theorem dX12_leastPeak_189 : decode cX12_leastPeak 189 = .ok (.iconst (-1), 1) := by decide +kernel
theorem dX12_leastPeak_190 : decode cX12_leastPeak 190 = .ok (.if_icmp .ne 12, 3) := by decide +kernel
theorem dX12_leastPeak_193 : decode cX12_leastPeak 193 = .ok (.aload_n 0, 1) := by decide +kernel
theorem dX12_leastPeak_194 : decode cX12_leastPeak 194 = .ok (.getfield 113, 3) := by decide +kernel
theorem dX12_leastPeak_197 : decode cX12_leastPeak 197 = .ok (.iconst 0, 1) := by decide +kernel
theorem dX12_leastPeak_198 : decode cX12_leastPeak 198 = .ok (.iaload, 1) := by decide +kernel
theorem dX12_leastPeak_199 : decode cX12_leastPeak 199 = .ok (.goto 4, 3) := by decide +kernel
theorem dX12_leastPeak_202 : decode cX12_leastPeak 202 = .ok (.iload_n 3, 1) := by decide +kernel
theorem dX12_leastPeak_203 : decode cX12_leastPeak 203 = .ok (.ireturn, 1) := by decide +kernel
theorem dX12_leastPeak_204 : decode cX12_leastPeak 204 = .ok (.iconst 0, 1) := by decide +kernel
theorem dX12_leastPeak_205 : decode cX12_leastPeak 205 = .ok (.istore 4, 2) := by decide +kernel
theorem dX12_leastPeak_207 : decode cX12_leastPeak 207 = .ok (.iconst 0, 1) := by decide +kernel
theorem dX12_leastPeak_208 : decode cX12_leastPeak 208 = .ok (.istore 5, 2) := by decide +kernel
theorem dX12_leastPeak_210 : decode cX12_leastPeak 210 = .ok (.iconst 0, 1) := by decide +kernel
theorem dX12_leastPeak_211 : decode cX12_leastPeak 211 = .ok (.istore 6, 2) := by decide +kernel
theorem dX12_leastPeak_213 : decode cX12_leastPeak 213 = .ok (.iload 6, 2) := by decide +kernel
theorem dX12_leastPeak_215 : decode cX12_leastPeak 215 = .ok (.iload_n 1, 1) := by decide +kernel
theorem dX12_leastPeak_216 : decode cX12_leastPeak 216 = .ok (.if_icmp .gt 67, 3) := by decide +kernel
theorem dX12_leastPeak_219 : decode cX12_leastPeak 219 = .ok (.iconst 0, 1) := by decide +kernel
theorem dX12_leastPeak_220 : decode cX12_leastPeak 220 = .ok (.istore 5, 2) := by decide +kernel
theorem dX12_leastPeak_222 : decode cX12_leastPeak 222 = .ok (.aload_n 0, 1) := by decide +kernel
theorem dX12_leastPeak_223 : decode cX12_leastPeak 223 = .ok (.iload 5, 2) := by decide +kernel
theorem dX12_leastPeak_225 : decode cX12_leastPeak 225 = .ok (.iload 4, 2) := by decide +kernel
theorem dX12_leastPeak_227 : decode cX12_leastPeak 227 = .ok (.invokevirtual 211, 3) := by decide +kernel
theorem dX12_leastPeak_230 : decode cX12_leastPeak 230 = .ok (.ifCond .eq 32, 3) := by decide +kernel
theorem dX12_leastPeak_233 : decode cX12_leastPeak 233 = .ok (.aload_n 0, 1) := by decide +kernel
theorem dX12_leastPeak_234 : decode cX12_leastPeak 234 = .ok (.iload 5, 2) := by decide +kernel
theorem dX12_leastPeak_236 : decode cX12_leastPeak 236 = .ok (.iload 4, 2) := by decide +kernel
theorem dX12_leastPeak_238 : decode cX12_leastPeak 238 = .ok (.invokevirtual 249, 3) := by decide +kernel
theorem dX12_leastPeak_241 : decode cX12_leastPeak 241 = .ok (.iconst (-1), 1) := by decide +kernel
theorem dX12_leastPeak_242 : decode cX12_leastPeak 242 = .ok (.if_icmp .eq 20, 3) := by decide +kernel
theorem dX12_leastPeak_245 : decode cX12_leastPeak 245 = .ok (.aload_n 0, 1) := by decide +kernel
theorem dX12_leastPeak_246 : decode cX12_leastPeak 246 = .ok (.iload 5, 2) := by decide +kernel
theorem dX12_leastPeak_248 : decode cX12_leastPeak 248 = .ok (.iload 4, 2) := by decide +kernel
theorem dX12_leastPeak_250 : decode cX12_leastPeak 250 = .ok (.invokevirtual 249, 3) := by decide +kernel
theorem dX12_leastPeak_253 : decode cX12_leastPeak 253 = .ok (.aload_n 0, 1) := by decide +kernel
theorem dX12_leastPeak_254 : decode cX12_leastPeak 254 = .ok (.getfield 113, 3) := by decide +kernel
theorem dX12_leastPeak_257 : decode cX12_leastPeak 257 = .ok (.iconst 0, 1) := by decide +kernel
theorem dX12_leastPeak_258 : decode cX12_leastPeak 258 = .ok (.iaload, 1) := by decide +kernel
theorem dX12_leastPeak_259 : decode cX12_leastPeak 259 = .ok (.if_icmp .le 9, 3) := by decide +kernel
theorem dX12_leastPeak_262 : decode cX12_leastPeak 262 = .ok (.iinc 5 1, 3) := by decide +kernel
theorem dX12_leastPeak_265 : decode cX12_leastPeak 265 = .ok (.goto (-43), 3) := by decide +kernel
theorem dX12_leastPeak_268 : decode cX12_leastPeak 268 = .ok (.iload 4, 2) := by decide +kernel
theorem dX12_leastPeak_270 : decode cX12_leastPeak 270 = .ok (.iconst 1, 1) := by decide +kernel
theorem dX12_leastPeak_271 : decode cX12_leastPeak 271 = .ok (.iload 5, 2) := by decide +kernel
theorem dX12_leastPeak_273 : decode cX12_leastPeak 273 = .ok (.ishl, 1) := by decide +kernel
theorem dX12_leastPeak_274 : decode cX12_leastPeak 274 = .ok (.ior, 1) := by decide +kernel
theorem dX12_leastPeak_275 : decode cX12_leastPeak 275 = .ok (.istore 4, 2) := by decide +kernel
theorem dX12_leastPeak_277 : decode cX12_leastPeak 277 = .ok (.iinc 6 1, 3) := by decide +kernel
theorem dX12_leastPeak_280 : decode cX12_leastPeak 280 = .ok (.goto (-67), 3) := by decide +kernel
theorem dX12_leastPeak_283 : decode cX12_leastPeak 283 = .ok (.iload 5, 2) := by decide +kernel
theorem dX12_leastPeak_285 : decode cX12_leastPeak 285 = .ok (.ireturn, 1) := by decide +kernel
theorem s179_0 : aW d 179 0 [l0, .int a, l2, l3, l4, l5, l6] S h Q = aW d 179 1 [l0, .int a, l2, l3, l4, l5, l6] (.int a :: S) h Q := ax_iload_n mt179 dX12_leastPeak_0 rfl
theorem s179_1 : aW d 179 1 L S h Q = aW d 179 3 L (.int ((-2)) :: S) h Q := ax_bipush mt179 dX12_leastPeak_1 bp_m2
theorem s179_3 : aW d 179 3 [.ref o, l1, l2, l3, l4, l5, l6] S h Q = aW d 179 4 [.ref o, l1, l2, l3, l4, l5, l6] (.ref o :: S) h Q := ax_aload_n mt179 dX12_leastPeak_3 rfl
theorem s179_4 (hT : gT h o = some (14, 54)) : aW d 179 4 L (.ref o :: S) h Q = aW d 179 7 L (.int (gI h o 4) :: S) h Q := ax_geti mt179 dX12_leastPeak_4 (by decide) ft_49317 fk_49317 hT
theorem s179_7 : aW d 179 7 L S h Q = aW d 179 8 L (.int (nI 1) :: S) h Q := ax_iconst mt179 dX12_leastPeak_7 ic_1
theorem s179_8 : aW d 179 8 L (.int b :: .int a :: S) h Q = aW d 179 9 L (.int (a - b) :: S) h Q := ax_isub mt179 dX12_leastPeak_8
theorem s179_9 : aW (d + 1) 179 9 L (.int x2 :: .int x1 :: .int x0 :: []) h Q = aM d 139 [.int x0, .int x1, .int x2] h (fun v h1 => aW (d + 1) 179 12 L (ab_ps v []) h1 Q) := ax_invs mt179 dX12_leastPeak_9 (by decide) ct_49277 (.inl rfl) mt139 ⟨⟨Nat.le_of_ble_eq_true rfl, Nat.le_of_ble_eq_true rfl, Nat.le_of_ble_eq_true rfl⟩, rfl, rfl⟩
theorem s179_12 : aW d 179 12 L (.int a :: S) h Q = (if a = 0 then aW d 179 15 L S h Q else aW d 179 18 L S h Q) := ax_if_ne mt179 dX12_leastPeak_12 (by decide)
theorem s179_15 : aW d 179 15 L S h Q = aW d 179 17 L (.int ((-5)) :: S) h Q := ax_bipush mt179 dX12_leastPeak_15 bp_m5
theorem s179_17 : aW d 179 17 L [.int a] h Q = Q (some (.int a)) h := ax_reti mt179 dX12_leastPeak_17 rfl
theorem s179_18 : aW d 179 18 L S h Q = aW d 179 19 L (.int (nI 1) :: S) h Q := ax_iconst mt179 dX12_leastPeak_18 ic_1
theorem s179_19 : aW d 179 19 [.ref o, l1, l2, l3, l4, l5, l6] S h Q = aW d 179 20 [.ref o, l1, l2, l3, l4, l5, l6] (.ref o :: S) h Q := ax_aload_n mt179 dX12_leastPeak_19 rfl
theorem s179_20 (hT : gT h o = some (14, 54)) : aW d 179 20 L (.ref o :: S) h Q = aW d 179 23 L (.int (gI h o 4) :: S) h Q := ax_geti mt179 dX12_leastPeak_20 (by decide) ft_49317 fk_49317 hT
theorem s179_23 : aW d 179 23 L (.int b :: .int a :: S) h Q = aW d 179 24 L (.int (a <<< (b &&& 31)) :: S) h Q := ax_ishl mt179 dX12_leastPeak_23
theorem s179_24 : aW d 179 24 L S h Q = aW d 179 25 L (.int (nI 1) :: S) h Q := ax_iconst mt179 dX12_leastPeak_24 ic_1
theorem s179_25 : aW d 179 25 L (.int b :: .int a :: S) h Q = aW d 179 26 L (.int (a - b) :: S) h Q := ax_isub mt179 dX12_leastPeak_25
theorem s179_26 : aW d 179 26 [l0, l1, l2, l3, l4, l5, l6] (.int a :: S) h Q = aW d 179 27 [l0, l1, .int a, l3, l4, l5, l6] S h Q := ax_istore_n mt179 dX12_leastPeak_26 (Nat.le_of_ble_eq_true rfl) rfl
theorem s179_27 : aW d 179 27 L S h Q = aW d 179 28 L (.int (nI 0) :: S) h Q := ax_iconst mt179 dX12_leastPeak_27 ic_0
theorem s179_28 : aW d 179 28 [l0, l1, l2, l3, l4, l5, l6] (.int a :: S) h Q = aW d 179 29 [l0, l1, l2, .int a, l4, l5, l6] S h Q := ax_istore_n mt179 dX12_leastPeak_28 (Nat.le_of_ble_eq_true rfl) rfl
theorem s179_29 : aW d 179 29 [l0, l1, .int a, l3, l4, l5, l6] S h Q = aW d 179 30 [l0, l1, .int a, l3, l4, l5, l6] (.int a :: S) h Q := ax_iload_n mt179 dX12_leastPeak_29 rfl
theorem s179_30 : aW d 179 30 [l0, l1, l2, l3, l4, l5, l6] (.int a :: S) h Q = aW d 179 32 [l0, l1, l2, l3, .int a, l5, l6] S h Q := ax_istore mt179 dX12_leastPeak_30 (Nat.le_of_ble_eq_true rfl) rfl
theorem s179_32 : aW d 179 32 [l0, l1, l2, l3, .int a, l5, l6] S h Q = aW d 179 34 [l0, l1, l2, l3, .int a, l5, l6] (.int a :: S) h Q := ax_iload mt179 dX12_leastPeak_32 rfl
theorem s179_34 : aW d 179 34 L (.int a :: S) h Q = (if a < 0 then aW d 179 171 L S h Q else aW d 179 37 L S h Q) := ax_if_lt mt179 dX12_leastPeak_34 (by decide)
theorem s179_37 : aW d 179 37 [.ref o, l1, l2, l3, l4, l5, l6] S h Q = aW d 179 38 [.ref o, l1, l2, l3, l4, l5, l6] (.ref o :: S) h Q := ax_aload_n mt179 dX12_leastPeak_37 rfl
theorem s179_38 (hT : gT h o = some (14, 54)) : aW d 179 38 L (.ref o :: S) h Q = (isRf (gR h o 49) = true ∧ aW d 179 41 L (gR h o 49 :: S) h Q) := ax_geta mt179 dX12_leastPeak_38 (by decide) ft_49265 fk_49265 hT
theorem s179_41 : aW d 179 41 [l0, l1, l2, l3, .int a, l5, l6] S h Q = aW d 179 43 [l0, l1, l2, l3, .int a, l5, l6] (.int a :: S) h Q := ax_iload mt179 dX12_leastPeak_41 rfl
theorem s179_43 : aW d 179 43 [l0, l1, l2, l3, .int a, l5, l6] S h Q = aW d 179 45 [l0, l1, l2, l3, .int a, l5, l6] (.int a :: S) h Q := ax_iload mt179 dX12_leastPeak_43 rfl
theorem s179_45 : aW d 179 45 [l0, l1, .int a, l3, l4, l5, l6] S h Q = aW d 179 46 [l0, l1, .int a, l3, l4, l5, l6] (.int a :: S) h Q := ax_iload_n mt179 dX12_leastPeak_45 rfl
theorem s179_46 : aW d 179 46 L (.int b :: .int a :: S) h Q = (if a = b then aW d 179 49 L S h Q else aW d 179 53 L S h Q) := ax_icmp_ne mt179 dX12_leastPeak_46 (by decide)
theorem s179_49 : aW d 179 49 L S h Q = aW d 179 50 L (.int (nI 0) :: S) h Q := ax_iconst mt179 dX12_leastPeak_49 ic_0
theorem s179_50 : aW d 179 50 L S h Q = aW d 179 54 L S h Q := ax_goto mt179 dX12_leastPeak_50 (by decide)
theorem s179_54 : aW d 179 54 L (.int b :: .int a :: .ref o :: S) h Q = (inb a (aJ h o) ∧ aW d 179 55 L S (pI h o a.toNatClampNeg b) Q) := ax_iast mt179 dX12_leastPeak_54
theorem s179_55 : aW d 179 55 L S h Q = aW d 179 56 L (.int (nI 0) :: S) h Q := ax_iconst mt179 dX12_leastPeak_55 ic_0
theorem s179_56 : aW d 179 56 [l0, l1, l2, l3, l4, l5, l6] (.int a :: S) h Q = aW d 179 58 [l0, l1, l2, l3, l4, .int a, l6] S h Q := ax_istore mt179 dX12_leastPeak_56 (Nat.le_of_ble_eq_true rfl) rfl
theorem s179_58 : aW d 179 58 [l0, l1, l2, l3, l4, .int a, l6] S h Q = aW d 179 60 [l0, l1, l2, l3, l4, .int a, l6] (.int a :: S) h Q := ax_iload mt179 dX12_leastPeak_58 rfl
theorem s179_60 : aW d 179 60 [.ref o, l1, l2, l3, l4, l5, l6] S h Q = aW d 179 61 [.ref o, l1, l2, l3, l4, l5, l6] (.ref o :: S) h Q := ax_aload_n mt179 dX12_leastPeak_60 rfl
theorem s179_61 (hT : gT h o = some (14, 54)) : aW d 179 61 L (.ref o :: S) h Q = aW d 179 64 L (.int (gI h o 4) :: S) h Q := ax_geti mt179 dX12_leastPeak_61 (by decide) ft_49317 fk_49317 hT
theorem s179_64 : aW d 179 64 L (.int b :: .int a :: S) h Q = (if a < b then aW d 179 67 L S h Q else aW d 179 146 L S h Q) := ax_icmp_ge mt179 dX12_leastPeak_64 (by decide)
theorem s179_67 : aW d 179 67 [.ref o, l1, l2, l3, l4, l5, l6] S h Q = aW d 179 68 [.ref o, l1, l2, l3, l4, l5, l6] (.ref o :: S) h Q := ax_aload_n mt179 dX12_leastPeak_67 rfl
theorem s179_68 : aW d 179 68 [l0, l1, l2, l3, l4, .int a, l6] S h Q = aW d 179 70 [l0, l1, l2, l3, l4, .int a, l6] (.int a :: S) h Q := ax_iload mt179 dX12_leastPeak_68 rfl
theorem s179_70 : aW d 179 70 [l0, l1, l2, l3, .int a, l5, l6] S h Q = aW d 179 72 [l0, l1, l2, l3, .int a, l5, l6] (.int a :: S) h Q := ax_iload mt179 dX12_leastPeak_70 rfl
theorem s179_72 (hT : gT h o = some (14, 54)) : aW (d + 1) 179 72 L (.int x1 :: .int x0 :: .ref o :: []) h Q = aM d 162 (.ref o :: [.int x0, .int x1]) h (fun v h1 => aW (d + 1) 179 75 L (ab_ps v []) h1 Q) := ax_invv mt179 dX12_leastPeak_72 (by decide) ct_49363 (.inl rfl) mt162 ⟨⟨Nat.le_of_ble_eq_true rfl, Nat.le_of_ble_eq_true rfl, Nat.le_of_ble_eq_true rfl⟩, rfl, rfl, rfl⟩ hT
theorem s179_75 : aW d 179 75 L (.int a :: S) h Q = (if a = 0 then aW d 179 89 L S h Q else aW d 179 78 L S h Q) := ax_if_eq mt179 dX12_leastPeak_75 (by decide)
theorem s179_78 : aW d 179 78 [.ref o, l1, l2, l3, l4, l5, l6] S h Q = aW d 179 79 [.ref o, l1, l2, l3, l4, l5, l6] (.ref o :: S) h Q := ax_aload_n mt179 dX12_leastPeak_78 rfl
theorem s179_79 : aW d 179 79 [l0, l1, l2, l3, l4, .int a, l6] S h Q = aW d 179 81 [l0, l1, l2, l3, l4, .int a, l6] (.int a :: S) h Q := ax_iload mt179 dX12_leastPeak_79 rfl
theorem s179_81 : aW d 179 81 [l0, l1, l2, l3, .int a, l5, l6] S h Q = aW d 179 83 [l0, l1, l2, l3, .int a, l5, l6] (.int a :: S) h Q := ax_iload mt179 dX12_leastPeak_81 rfl
theorem s179_83 (hT : gT h o = some (14, 54)) : aW (d + 1) 179 83 L (.int x1 :: .int x0 :: .ref o :: []) h Q = aM d 178 (.ref o :: [.int x0, .int x1]) h (fun v h1 => aW (d + 1) 179 86 L (ab_ps v []) h1 Q) := ax_invv mt179 dX12_leastPeak_83 (by decide) ct_49401 (.inl rfl) mt178 ⟨⟨Nat.le_of_ble_eq_true rfl, Nat.le_of_ble_eq_true rfl, Nat.le_of_ble_eq_true rfl⟩, rfl, rfl, rfl⟩ hT
theorem s179_86 : aW d 179 86 L S h Q = aW d 179 90 L S h Q := ax_goto mt179 dX12_leastPeak_86 (by decide)
theorem s179_90 : aW d 179 90 [l0, l1, l2, l3, l4, l5, l6] (.int a :: S) h Q = aW d 179 92 [l0, l1, l2, l3, l4, l5, .int a] S h Q := ax_istore mt179 dX12_leastPeak_90 (Nat.le_of_ble_eq_true rfl) rfl
theorem s179_92 : aW d 179 92 [.ref o, l1, l2, l3, l4, l5, l6] S h Q = aW d 179 93 [.ref o, l1, l2, l3, l4, l5, l6] (.ref o :: S) h Q := ax_aload_n mt179 dX12_leastPeak_92 rfl
theorem s179_93 (hT : gT h o = some (14, 54)) : aW d 179 93 L (.ref o :: S) h Q = (isRf (gR h o 49) = true ∧ aW d 179 96 L (gR h o 49 :: S) h Q) := ax_geta mt179 dX12_leastPeak_93 (by decide) ft_49265 fk_49265 hT
theorem s179_96 : aW d 179 96 [l0, l1, l2, l3, .int a, l5, l6] S h Q = aW d 179 98 [l0, l1, l2, l3, .int a, l5, l6] (.int a :: S) h Q := ax_iload mt179 dX12_leastPeak_96 rfl
theorem s179_98 : aW d 179 98 [l0, l1, l2, l3, l4, l5, .int a] S h Q = aW d 179 100 [l0, l1, l2, l3, l4, l5, .int a] (.int a :: S) h Q := ax_iload mt179 dX12_leastPeak_98 rfl
theorem s179_100 : aW d 179 100 L S h Q = aW d 179 101 L (.int ((-1)) :: S) h Q := ax_iconst mt179 dX12_leastPeak_100 ic_m1
theorem s179_101 : aW d 179 101 L (.int b :: .int a :: S) h Q = (if a = b then aW d 179 132 L S h Q else aW d 179 104 L S h Q) := ax_icmp_eq mt179 dX12_leastPeak_101 (by decide)
theorem s179_104 : aW d 179 104 [.ref o, l1, l2, l3, l4, l5, l6] S h Q = aW d 179 105 [.ref o, l1, l2, l3, l4, l5, l6] (.ref o :: S) h Q := ax_aload_n mt179 dX12_leastPeak_104 rfl
theorem s179_105 (hT : gT h o = some (14, 54)) : aW d 179 105 L (.ref o :: S) h Q = (isRf (gR h o 49) = true ∧ aW d 179 108 L (gR h o 49 :: S) h Q) := ax_geta mt179 dX12_leastPeak_105 (by decide) ft_49265 fk_49265 hT
theorem s179_108 : aW d 179 108 [l0, l1, l2, l3, .int a, l5, l6] S h Q = aW d 179 110 [l0, l1, l2, l3, .int a, l5, l6] (.int a :: S) h Q := ax_iload mt179 dX12_leastPeak_108 rfl
theorem s179_110 : aW d 179 110 L (.int a :: .ref o :: S) h Q = (inb a (aI h o) ∧ aW d 179 111 L (.int (gI h o a.toNatClampNeg) :: S) h Q) := ax_iald mt179 dX12_leastPeak_110
theorem s179_111 : aW d 179 111 L S h Q = aW d 179 112 L (.int ((-1)) :: S) h Q := ax_iconst mt179 dX12_leastPeak_111 ic_m1
theorem s179_112 : aW d 179 112 L (.int b :: .int a :: S) h Q = (if a = b then aW d 179 127 L S h Q else aW d 179 115 L S h Q) := ax_icmp_eq mt179 dX12_leastPeak_112 (by decide)
theorem s179_115 : aW d 179 115 [l0, l1, l2, l3, l4, l5, .int a] S h Q = aW d 179 117 [l0, l1, l2, l3, l4, l5, .int a] (.int a :: S) h Q := ax_iload mt179 dX12_leastPeak_115 rfl
theorem s179_117 : aW d 179 117 [.ref o, l1, l2, l3, l4, l5, l6] S h Q = aW d 179 118 [.ref o, l1, l2, l3, l4, l5, l6] (.ref o :: S) h Q := ax_aload_n mt179 dX12_leastPeak_117 rfl
theorem s179_118 (hT : gT h o = some (14, 54)) : aW d 179 118 L (.ref o :: S) h Q = (isRf (gR h o 49) = true ∧ aW d 179 121 L (gR h o 49 :: S) h Q) := ax_geta mt179 dX12_leastPeak_118 (by decide) ft_49265 fk_49265 hT
theorem s179_121 : aW d 179 121 [l0, l1, l2, l3, .int a, l5, l6] S h Q = aW d 179 123 [l0, l1, l2, l3, .int a, l5, l6] (.int a :: S) h Q := ax_iload mt179 dX12_leastPeak_121 rfl
theorem s179_123 : aW d 179 123 L (.int a :: .ref o :: S) h Q = (inb a (aI h o) ∧ aW d 179 124 L (.int (gI h o a.toNatClampNeg) :: S) h Q) := ax_iald mt179 dX12_leastPeak_123
theorem s179_124 : aW d 179 124 L (.int b :: .int a :: S) h Q = (if a < b then aW d 179 127 L S h Q else aW d 179 132 L S h Q) := ax_icmp_ge mt179 dX12_leastPeak_124 (by decide)
theorem s179_127 : aW d 179 127 [l0, l1, l2, l3, l4, l5, .int a] S h Q = aW d 179 129 [l0, l1, l2, l3, l4, l5, .int a] (.int a :: S) h Q := ax_iload mt179 dX12_leastPeak_127 rfl
theorem s179_129 : aW d 179 129 L S h Q = aW d 179 139 L S h Q := ax_goto mt179 dX12_leastPeak_129 (by decide)
theorem s179_139 : aW d 179 139 L (.int b :: .int a :: .ref o :: S) h Q = (inb a (aJ h o) ∧ aW d 179 140 L S (pI h o a.toNatClampNeg b) Q) := ax_iast mt179 dX12_leastPeak_139
theorem s179_140 : aW d 179 140 [l0, l1, l2, l3, l4, .int a, l6] S h Q = aW d 179 143 [l0, l1, l2, l3, l4, .int (a + nI 1), l6] S h Q := ax_iinc mt179 dX12_leastPeak_140 rfl ic_1 rfl
theorem s179_143 : aW d 179 143 L S h Q = aW d 179 58 L S h Q := ax_goto mt179 dX12_leastPeak_143 (by decide)
theorem s179_132 : aW d 179 132 [.ref o, l1, l2, l3, l4, l5, l6] S h Q = aW d 179 133 [.ref o, l1, l2, l3, l4, l5, l6] (.ref o :: S) h Q := ax_aload_n mt179 dX12_leastPeak_132 rfl
theorem s179_133 (hT : gT h o = some (14, 54)) : aW d 179 133 L (.ref o :: S) h Q = (isRf (gR h o 49) = true ∧ aW d 179 136 L (gR h o 49 :: S) h Q) := ax_geta mt179 dX12_leastPeak_133 (by decide) ft_49265 fk_49265 hT
theorem s179_136 : aW d 179 136 [l0, l1, l2, l3, .int a, l5, l6] S h Q = aW d 179 138 [l0, l1, l2, l3, .int a, l5, l6] (.int a :: S) h Q := ax_iload mt179 dX12_leastPeak_136 rfl
theorem s179_138 : aW d 179 138 L (.int a :: .ref o :: S) h Q = (inb a (aI h o) ∧ aW d 179 139 L (.int (gI h o a.toNatClampNeg) :: S) h Q) := ax_iald mt179 dX12_leastPeak_138
theorem s179_89 : aW d 179 89 L S h Q = aW d 179 90 L (.int ((-1)) :: S) h Q := ax_iconst mt179 dX12_leastPeak_89 ic_m1
theorem s179_146 : aW d 179 146 [l0, l1, l2, .int a, l4, l5, l6] S h Q = aW d 179 147 [l0, l1, l2, .int a, l4, l5, l6] (.int a :: S) h Q := ax_iload_n mt179 dX12_leastPeak_146 rfl
theorem s179_147 : aW d 179 147 [.ref o, l1, l2, l3, l4, l5, l6] S h Q = aW d 179 148 [.ref o, l1, l2, l3, l4, l5, l6] (.ref o :: S) h Q := ax_aload_n mt179 dX12_leastPeak_147 rfl
theorem s179_148 (hT : gT h o = some (14, 54)) : aW d 179 148 L (.ref o :: S) h Q = (isRf (gR h o 49) = true ∧ aW d 179 151 L (gR h o 49 :: S) h Q) := ax_geta mt179 dX12_leastPeak_148 (by decide) ft_49265 fk_49265 hT
theorem s179_151 : aW d 179 151 [l0, l1, l2, l3, .int a, l5, l6] S h Q = aW d 179 153 [l0, l1, l2, l3, .int a, l5, l6] (.int a :: S) h Q := ax_iload mt179 dX12_leastPeak_151 rfl
theorem s179_153 : aW d 179 153 L (.int a :: .ref o :: S) h Q = (inb a (aI h o) ∧ aW d 179 154 L (.int (gI h o a.toNatClampNeg) :: S) h Q) := ax_iald mt179 dX12_leastPeak_153
theorem s179_154 : aW d 179 154 L S h Q = aW d 179 155 L (.int ((-1)) :: S) h Q := ax_iconst mt179 dX12_leastPeak_154 ic_m1
theorem s179_155 : aW d 179 155 L (.int b :: .int a :: S) h Q = (if a = b then aW d 179 158 L S h Q else aW d 179 162 L S h Q) := ax_icmp_ne mt179 dX12_leastPeak_155 (by decide)
theorem s179_158 : aW d 179 158 L S h Q = aW d 179 159 L (.int (nI 0) :: S) h Q := ax_iconst mt179 dX12_leastPeak_158 ic_0
theorem s179_159 : aW d 179 159 L S h Q = aW d 179 163 L S h Q := ax_goto mt179 dX12_leastPeak_159 (by decide)
theorem s179_163 : aW d 179 163 L (.int b :: .int a :: S) h Q = aW d 179 164 L (.int (a + b) :: S) h Q := ax_iadd mt179 dX12_leastPeak_163
theorem s179_164 : aW d 179 164 [l0, l1, l2, l3, l4, l5, l6] (.int a :: S) h Q = aW d 179 165 [l0, l1, l2, .int a, l4, l5, l6] S h Q := ax_istore_n mt179 dX12_leastPeak_164 (Nat.le_of_ble_eq_true rfl) rfl
theorem s179_165 : aW d 179 165 [l0, l1, l2, l3, .int a, l5, l6] S h Q = aW d 179 168 [l0, l1, l2, l3, .int (a + (-1)), l5, l6] S h Q := ax_iinc mt179 dX12_leastPeak_165 rfl ic_m1 rfl
theorem s179_168 : aW d 179 168 L S h Q = aW d 179 32 L S h Q := ax_goto mt179 dX12_leastPeak_168 (by decide)
theorem s179_162 : aW d 179 162 L S h Q = aW d 179 163 L (.int (nI 1) :: S) h Q := ax_iconst mt179 dX12_leastPeak_162 ic_1
theorem s179_53 : aW d 179 53 L S h Q = aW d 179 54 L (.int ((-1)) :: S) h Q := ax_iconst mt179 dX12_leastPeak_53 ic_m1
theorem s179_171 : aW d 179 171 [.ref o, l1, l2, l3, l4, l5, l6] S h Q = aW d 179 172 [.ref o, l1, l2, l3, l4, l5, l6] (.ref o :: S) h Q := ax_aload_n mt179 dX12_leastPeak_171 rfl
theorem s179_172 (hT : gT h o = some (14, 54)) : aW d 179 172 L (.ref o :: S) h Q = (isRf (gR h o 49) = true ∧ aW d 179 175 L (gR h o 49 :: S) h Q) := ax_geta mt179 dX12_leastPeak_172 (by decide) ft_49265 fk_49265 hT
theorem s179_175 : aW d 179 175 L S h Q = aW d 179 176 L (.int (nI 0) :: S) h Q := ax_iconst mt179 dX12_leastPeak_175 ic_0
theorem s179_176 : aW d 179 176 L (.int a :: .ref o :: S) h Q = (inb a (aI h o) ∧ aW d 179 177 L (.int (gI h o a.toNatClampNeg) :: S) h Q) := ax_iald mt179 dX12_leastPeak_176
theorem s179_177 : aW d 179 177 L S h Q = aW d 179 178 L (.int ((-1)) :: S) h Q := ax_iconst mt179 dX12_leastPeak_177 ic_m1
theorem s179_178 : aW d 179 178 L (.int b :: .int a :: S) h Q = (if a = b then aW d 179 181 L S h Q else aW d 179 184 L S h Q) := ax_icmp_ne mt179 dX12_leastPeak_178 (by decide)
theorem s179_181 : aW d 179 181 L S h Q = aW d 179 183 L (.int ((-3)) :: S) h Q := ax_bipush mt179 dX12_leastPeak_181 bp_m3
theorem s179_183 : aW d 179 183 L [.int a] h Q = Q (some (.int a)) h := ax_reti mt179 dX12_leastPeak_183 rfl
theorem s179_184 : aW d 179 184 [l0, .int a, l2, l3, l4, l5, l6] S h Q = aW d 179 185 [l0, .int a, l2, l3, l4, l5, l6] (.int a :: S) h Q := ax_iload_n mt179 dX12_leastPeak_184 rfl
theorem s179_185 : aW d 179 185 L (.int a :: S) h Q = (if a < 0 then aW d 179 188 L S h Q else aW d 179 204 L S h Q) := ax_if_ge mt179 dX12_leastPeak_185 (by decide)
theorem s179_188 : aW d 179 188 [l0, .int a, l2, l3, l4, l5, l6] S h Q = aW d 179 189 [l0, .int a, l2, l3, l4, l5, l6] (.int a :: S) h Q := ax_iload_n mt179 dX12_leastPeak_188 rfl
theorem s179_189 : aW d 179 189 L S h Q = aW d 179 190 L (.int ((-1)) :: S) h Q := ax_iconst mt179 dX12_leastPeak_189 ic_m1
theorem s179_190 : aW d 179 190 L (.int b :: .int a :: S) h Q = (if a = b then aW d 179 193 L S h Q else aW d 179 202 L S h Q) := ax_icmp_ne mt179 dX12_leastPeak_190 (by decide)
theorem s179_193 : aW d 179 193 [.ref o, l1, l2, l3, l4, l5, l6] S h Q = aW d 179 194 [.ref o, l1, l2, l3, l4, l5, l6] (.ref o :: S) h Q := ax_aload_n mt179 dX12_leastPeak_193 rfl
theorem s179_194 (hT : gT h o = some (14, 54)) : aW d 179 194 L (.ref o :: S) h Q = (isRf (gR h o 49) = true ∧ aW d 179 197 L (gR h o 49 :: S) h Q) := ax_geta mt179 dX12_leastPeak_194 (by decide) ft_49265 fk_49265 hT
theorem s179_197 : aW d 179 197 L S h Q = aW d 179 198 L (.int (nI 0) :: S) h Q := ax_iconst mt179 dX12_leastPeak_197 ic_0
theorem s179_198 : aW d 179 198 L (.int a :: .ref o :: S) h Q = (inb a (aI h o) ∧ aW d 179 199 L (.int (gI h o a.toNatClampNeg) :: S) h Q) := ax_iald mt179 dX12_leastPeak_198
theorem s179_199 : aW d 179 199 L S h Q = aW d 179 203 L S h Q := ax_goto mt179 dX12_leastPeak_199 (by decide)
theorem s179_203 : aW d 179 203 L [.int a] h Q = Q (some (.int a)) h := ax_reti mt179 dX12_leastPeak_203 rfl
theorem s179_202 : aW d 179 202 [l0, l1, l2, .int a, l4, l5, l6] S h Q = aW d 179 203 [l0, l1, l2, .int a, l4, l5, l6] (.int a :: S) h Q := ax_iload_n mt179 dX12_leastPeak_202 rfl
theorem s179_204 : aW d 179 204 L S h Q = aW d 179 205 L (.int (nI 0) :: S) h Q := ax_iconst mt179 dX12_leastPeak_204 ic_0
theorem s179_205 : aW d 179 205 [l0, l1, l2, l3, l4, l5, l6] (.int a :: S) h Q = aW d 179 207 [l0, l1, l2, l3, .int a, l5, l6] S h Q := ax_istore mt179 dX12_leastPeak_205 (Nat.le_of_ble_eq_true rfl) rfl
theorem s179_207 : aW d 179 207 L S h Q = aW d 179 208 L (.int (nI 0) :: S) h Q := ax_iconst mt179 dX12_leastPeak_207 ic_0
theorem s179_208 : aW d 179 208 [l0, l1, l2, l3, l4, l5, l6] (.int a :: S) h Q = aW d 179 210 [l0, l1, l2, l3, l4, .int a, l6] S h Q := ax_istore mt179 dX12_leastPeak_208 (Nat.le_of_ble_eq_true rfl) rfl
theorem s179_210 : aW d 179 210 L S h Q = aW d 179 211 L (.int (nI 0) :: S) h Q := ax_iconst mt179 dX12_leastPeak_210 ic_0
theorem s179_211 : aW d 179 211 [l0, l1, l2, l3, l4, l5, l6] (.int a :: S) h Q = aW d 179 213 [l0, l1, l2, l3, l4, l5, .int a] S h Q := ax_istore mt179 dX12_leastPeak_211 (Nat.le_of_ble_eq_true rfl) rfl
theorem s179_213 : aW d 179 213 [l0, l1, l2, l3, l4, l5, .int a] S h Q = aW d 179 215 [l0, l1, l2, l3, l4, l5, .int a] (.int a :: S) h Q := ax_iload mt179 dX12_leastPeak_213 rfl
theorem s179_215 : aW d 179 215 [l0, .int a, l2, l3, l4, l5, l6] S h Q = aW d 179 216 [l0, .int a, l2, l3, l4, l5, l6] (.int a :: S) h Q := ax_iload_n mt179 dX12_leastPeak_215 rfl
theorem s179_216 : aW d 179 216 L (.int b :: .int a :: S) h Q = (if b < a then aW d 179 283 L S h Q else aW d 179 219 L S h Q) := ax_icmp_gt mt179 dX12_leastPeak_216 (by decide)
theorem s179_219 : aW d 179 219 L S h Q = aW d 179 220 L (.int (nI 0) :: S) h Q := ax_iconst mt179 dX12_leastPeak_219 ic_0
theorem s179_220 : aW d 179 220 [l0, l1, l2, l3, l4, l5, l6] (.int a :: S) h Q = aW d 179 222 [l0, l1, l2, l3, l4, .int a, l6] S h Q := ax_istore mt179 dX12_leastPeak_220 (Nat.le_of_ble_eq_true rfl) rfl
theorem s179_222 : aW d 179 222 [.ref o, l1, l2, l3, l4, l5, l6] S h Q = aW d 179 223 [.ref o, l1, l2, l3, l4, l5, l6] (.ref o :: S) h Q := ax_aload_n mt179 dX12_leastPeak_222 rfl
theorem s179_223 : aW d 179 223 [l0, l1, l2, l3, l4, .int a, l6] S h Q = aW d 179 225 [l0, l1, l2, l3, l4, .int a, l6] (.int a :: S) h Q := ax_iload mt179 dX12_leastPeak_223 rfl
theorem s179_225 : aW d 179 225 [l0, l1, l2, l3, .int a, l5, l6] S h Q = aW d 179 227 [l0, l1, l2, l3, .int a, l5, l6] (.int a :: S) h Q := ax_iload mt179 dX12_leastPeak_225 rfl
theorem s179_227 (hT : gT h o = some (14, 54)) : aW (d + 1) 179 227 L (.int x1 :: .int x0 :: .ref o :: []) h Q = aM d 162 (.ref o :: [.int x0, .int x1]) h (fun v h1 => aW (d + 1) 179 230 L (ab_ps v []) h1 Q) := ax_invv mt179 dX12_leastPeak_227 (by decide) ct_49363 (.inl rfl) mt162 ⟨⟨Nat.le_of_ble_eq_true rfl, Nat.le_of_ble_eq_true rfl, Nat.le_of_ble_eq_true rfl⟩, rfl, rfl, rfl⟩ hT
theorem s179_230 : aW d 179 230 L (.int a :: S) h Q = (if a = 0 then aW d 179 262 L S h Q else aW d 179 233 L S h Q) := ax_if_eq mt179 dX12_leastPeak_230 (by decide)
theorem s179_233 : aW d 179 233 [.ref o, l1, l2, l3, l4, l5, l6] S h Q = aW d 179 234 [.ref o, l1, l2, l3, l4, l5, l6] (.ref o :: S) h Q := ax_aload_n mt179 dX12_leastPeak_233 rfl
theorem s179_234 : aW d 179 234 [l0, l1, l2, l3, l4, .int a, l6] S h Q = aW d 179 236 [l0, l1, l2, l3, l4, .int a, l6] (.int a :: S) h Q := ax_iload mt179 dX12_leastPeak_234 rfl
theorem s179_236 : aW d 179 236 [l0, l1, l2, l3, .int a, l5, l6] S h Q = aW d 179 238 [l0, l1, l2, l3, .int a, l5, l6] (.int a :: S) h Q := ax_iload mt179 dX12_leastPeak_236 rfl
theorem s179_238 (hT : gT h o = some (14, 54)) : aW (d + 1) 179 238 L (.int x1 :: .int x0 :: .ref o :: []) h Q = aM d 178 (.ref o :: [.int x0, .int x1]) h (fun v h1 => aW (d + 1) 179 241 L (ab_ps v []) h1 Q) := ax_invv mt179 dX12_leastPeak_238 (by decide) ct_49401 (.inl rfl) mt178 ⟨⟨Nat.le_of_ble_eq_true rfl, Nat.le_of_ble_eq_true rfl, Nat.le_of_ble_eq_true rfl⟩, rfl, rfl, rfl⟩ hT
theorem s179_241 : aW d 179 241 L S h Q = aW d 179 242 L (.int ((-1)) :: S) h Q := ax_iconst mt179 dX12_leastPeak_241 ic_m1
theorem s179_242 : aW d 179 242 L (.int b :: .int a :: S) h Q = (if a = b then aW d 179 262 L S h Q else aW d 179 245 L S h Q) := ax_icmp_eq mt179 dX12_leastPeak_242 (by decide)
theorem s179_245 : aW d 179 245 [.ref o, l1, l2, l3, l4, l5, l6] S h Q = aW d 179 246 [.ref o, l1, l2, l3, l4, l5, l6] (.ref o :: S) h Q := ax_aload_n mt179 dX12_leastPeak_245 rfl
theorem s179_246 : aW d 179 246 [l0, l1, l2, l3, l4, .int a, l6] S h Q = aW d 179 248 [l0, l1, l2, l3, l4, .int a, l6] (.int a :: S) h Q := ax_iload mt179 dX12_leastPeak_246 rfl
theorem s179_248 : aW d 179 248 [l0, l1, l2, l3, .int a, l5, l6] S h Q = aW d 179 250 [l0, l1, l2, l3, .int a, l5, l6] (.int a :: S) h Q := ax_iload mt179 dX12_leastPeak_248 rfl
theorem s179_250 (hT : gT h o = some (14, 54)) : aW (d + 1) 179 250 L (.int x1 :: .int x0 :: .ref o :: []) h Q = aM d 178 (.ref o :: [.int x0, .int x1]) h (fun v h1 => aW (d + 1) 179 253 L (ab_ps v []) h1 Q) := ax_invv mt179 dX12_leastPeak_250 (by decide) ct_49401 (.inl rfl) mt178 ⟨⟨Nat.le_of_ble_eq_true rfl, Nat.le_of_ble_eq_true rfl, Nat.le_of_ble_eq_true rfl⟩, rfl, rfl, rfl⟩ hT
theorem s179_253 : aW d 179 253 [.ref o, l1, l2, l3, l4, l5, l6] S h Q = aW d 179 254 [.ref o, l1, l2, l3, l4, l5, l6] (.ref o :: S) h Q := ax_aload_n mt179 dX12_leastPeak_253 rfl
theorem s179_254 (hT : gT h o = some (14, 54)) : aW d 179 254 L (.ref o :: S) h Q = (isRf (gR h o 49) = true ∧ aW d 179 257 L (gR h o 49 :: S) h Q) := ax_geta mt179 dX12_leastPeak_254 (by decide) ft_49265 fk_49265 hT
theorem s179_257 : aW d 179 257 L S h Q = aW d 179 258 L (.int (nI 0) :: S) h Q := ax_iconst mt179 dX12_leastPeak_257 ic_0
theorem s179_258 : aW d 179 258 L (.int a :: .ref o :: S) h Q = (inb a (aI h o) ∧ aW d 179 259 L (.int (gI h o a.toNatClampNeg) :: S) h Q) := ax_iald mt179 dX12_leastPeak_258
theorem s179_259 : aW d 179 259 L (.int b :: .int a :: S) h Q = (if b < a then aW d 179 262 L S h Q else aW d 179 268 L S h Q) := ax_icmp_le mt179 dX12_leastPeak_259 (by decide)
theorem s179_268 : aW d 179 268 [l0, l1, l2, l3, .int a, l5, l6] S h Q = aW d 179 270 [l0, l1, l2, l3, .int a, l5, l6] (.int a :: S) h Q := ax_iload mt179 dX12_leastPeak_268 rfl
theorem s179_270 : aW d 179 270 L S h Q = aW d 179 271 L (.int (nI 1) :: S) h Q := ax_iconst mt179 dX12_leastPeak_270 ic_1
theorem s179_271 : aW d 179 271 [l0, l1, l2, l3, l4, .int a, l6] S h Q = aW d 179 273 [l0, l1, l2, l3, l4, .int a, l6] (.int a :: S) h Q := ax_iload mt179 dX12_leastPeak_271 rfl
theorem s179_273 : aW d 179 273 L (.int b :: .int a :: S) h Q = aW d 179 274 L (.int (a <<< (b &&& 31)) :: S) h Q := ax_ishl mt179 dX12_leastPeak_273
theorem s179_274 : aW d 179 274 L (.int b :: .int a :: S) h Q = aW d 179 275 L (.int (a ||| b) :: S) h Q := ax_ior mt179 dX12_leastPeak_274
theorem s179_275 : aW d 179 275 [l0, l1, l2, l3, l4, l5, l6] (.int a :: S) h Q = aW d 179 277 [l0, l1, l2, l3, .int a, l5, l6] S h Q := ax_istore mt179 dX12_leastPeak_275 (Nat.le_of_ble_eq_true rfl) rfl
theorem s179_277 : aW d 179 277 [l0, l1, l2, l3, l4, l5, .int a] S h Q = aW d 179 280 [l0, l1, l2, l3, l4, l5, .int (a + nI 1)] S h Q := ax_iinc mt179 dX12_leastPeak_277 rfl ic_1 rfl
theorem s179_280 : aW d 179 280 L S h Q = aW d 179 213 L S h Q := ax_goto mt179 dX12_leastPeak_280 (by decide)
theorem s179_262 : aW d 179 262 [l0, l1, l2, l3, l4, .int a, l6] S h Q = aW d 179 265 [l0, l1, l2, l3, l4, .int (a + nI 1), l6] S h Q := ax_iinc mt179 dX12_leastPeak_262 rfl ic_1 rfl
theorem s179_265 : aW d 179 265 L S h Q = aW d 179 222 L S h Q := ax_goto mt179 dX12_leastPeak_265 (by decide)
theorem s179_283 : aW d 179 283 [l0, l1, l2, l3, l4, .int a, l6] S h Q = aW d 179 285 [l0, l1, l2, l3, l4, .int a, l6] (.int a :: S) h Q := ax_iload mt179 dX12_leastPeak_283 rfl
theorem s179_285 : aW d 179 285 L [.int a] h Q = Q (some (.int a)) h := ax_reti mt179 dX12_leastPeak_285 rfl
-- method 180: BufferRoomModel.shares(II)Z
theorem dX12_shares_0 : decode cX12_shares 0 = .ok (.iconst 0, 1) := by decide +kernel
theorem dX12_shares_1 : decode cX12_shares 1 = .ok (.istore_n 3, 1) := by decide +kernel
theorem dX12_shares_2 : decode cX12_shares 2 = .ok (.iload_n 3, 1) := by decide +kernel
theorem dX12_shares_3 : decode cX12_shares 3 = .ok (.aload_n 0, 1) := by decide +kernel
theorem dX12_shares_4 : decode cX12_shares 4 = .ok (.getfield 165, 3) := by decide +kernel
theorem dX12_shares_7 : decode cX12_shares 7 = .ok (.if_icmp .ge 29, 3) := by decide +kernel
theorem dX12_shares_10 : decode cX12_shares 10 = .ok (.aload_n 0, 1) := by decide +kernel
theorem dX12_shares_11 : decode cX12_shares 11 = .ok (.iload_n 1, 1) := by decide +kernel
theorem dX12_shares_12 : decode cX12_shares 12 = .ok (.iload_n 3, 1) := by decide +kernel
theorem dX12_shares_13 : decode cX12_shares 13 = .ok (.invokevirtual 231, 3) := by decide +kernel
theorem dX12_shares_16 : decode cX12_shares 16 = .ok (.ifCond .eq 14, 3) := by decide +kernel
theorem dX12_shares_19 : decode cX12_shares 19 = .ok (.aload_n 0, 1) := by decide +kernel
theorem dX12_shares_20 : decode cX12_shares 20 = .ok (.iload_n 2, 1) := by decide +kernel
theorem dX12_shares_21 : decode cX12_shares 21 = .ok (.iload_n 3, 1) := by decide +kernel
theorem dX12_shares_22 : decode cX12_shares 22 = .ok (.invokevirtual 231, 3) := by decide +kernel
theorem dX12_shares_25 : decode cX12_shares 25 = .ok (.ifCond .eq 5, 3) := by decide +kernel
theorem dX12_shares_28 : decode cX12_shares 28 = .ok (.iconst 1, 1) := by decide +kernel
theorem dX12_shares_29 : decode cX12_shares 29 = .ok (.ireturn, 1) := by decide +kernel
theorem dX12_shares_30 : decode cX12_shares 30 = .ok (.iinc 3 1, 3) := by decide +kernel
theorem dX12_shares_33 : decode cX12_shares 33 = .ok (.goto (-31), 3) := by decide +kernel
theorem dX12_shares_36 : decode cX12_shares 36 = .ok (.iconst 0, 1) := by decide +kernel
theorem dX12_shares_37 : decode cX12_shares 37 = .ok (.ireturn, 1) := by decide +kernel
theorem s180_0 : aW d 180 0 L S h Q = aW d 180 1 L (.int (nI 0) :: S) h Q := ax_iconst mt180 dX12_shares_0 ic_0
theorem s180_1 : aW d 180 1 [l0, l1, l2, l3] (.int a :: S) h Q = aW d 180 2 [l0, l1, l2, .int a] S h Q := ax_istore_n mt180 dX12_shares_1 (Nat.le_of_ble_eq_true rfl) rfl
theorem s180_2 : aW d 180 2 [l0, l1, l2, .int a] S h Q = aW d 180 3 [l0, l1, l2, .int a] (.int a :: S) h Q := ax_iload_n mt180 dX12_shares_2 rfl
theorem s180_3 : aW d 180 3 [.ref o, l1, l2, l3] S h Q = aW d 180 4 [.ref o, l1, l2, l3] (.ref o :: S) h Q := ax_aload_n mt180 dX12_shares_3 rfl
theorem s180_4 (hT : gT h o = some (14, 54)) : aW d 180 4 L (.ref o :: S) h Q = aW d 180 7 L (.int (gI h o 4) :: S) h Q := ax_geti mt180 dX12_shares_4 (by decide) ft_49317 fk_49317 hT
theorem s180_7 : aW d 180 7 L (.int b :: .int a :: S) h Q = (if a < b then aW d 180 10 L S h Q else aW d 180 36 L S h Q) := ax_icmp_ge mt180 dX12_shares_7 (by decide)
theorem s180_10 : aW d 180 10 [.ref o, l1, l2, l3] S h Q = aW d 180 11 [.ref o, l1, l2, l3] (.ref o :: S) h Q := ax_aload_n mt180 dX12_shares_10 rfl
theorem s180_11 : aW d 180 11 [l0, .int a, l2, l3] S h Q = aW d 180 12 [l0, .int a, l2, l3] (.int a :: S) h Q := ax_iload_n mt180 dX12_shares_11 rfl
theorem s180_12 : aW d 180 12 [l0, l1, l2, .int a] S h Q = aW d 180 13 [l0, l1, l2, .int a] (.int a :: S) h Q := ax_iload_n mt180 dX12_shares_12 rfl
theorem s180_13 (hT : gT h o = some (14, 54)) : aW (d + 1) 180 13 L (.int x1 :: .int x0 :: .ref o :: []) h Q = aM d 165 (.ref o :: [.int x0, .int x1]) h (fun v h1 => aW (d + 1) 180 16 L (ab_ps v []) h1 Q) := ax_invv mt180 dX12_shares_13 (by decide) ct_49383 (.inl rfl) mt165 ⟨⟨Nat.le_of_ble_eq_true rfl, Nat.le_of_ble_eq_true rfl, Nat.le_of_ble_eq_true rfl⟩, rfl, rfl, rfl⟩ hT
theorem s180_16 : aW d 180 16 L (.int a :: S) h Q = (if a = 0 then aW d 180 30 L S h Q else aW d 180 19 L S h Q) := ax_if_eq mt180 dX12_shares_16 (by decide)
theorem s180_19 : aW d 180 19 [.ref o, l1, l2, l3] S h Q = aW d 180 20 [.ref o, l1, l2, l3] (.ref o :: S) h Q := ax_aload_n mt180 dX12_shares_19 rfl
theorem s180_20 : aW d 180 20 [l0, l1, .int a, l3] S h Q = aW d 180 21 [l0, l1, .int a, l3] (.int a :: S) h Q := ax_iload_n mt180 dX12_shares_20 rfl
theorem s180_21 : aW d 180 21 [l0, l1, l2, .int a] S h Q = aW d 180 22 [l0, l1, l2, .int a] (.int a :: S) h Q := ax_iload_n mt180 dX12_shares_21 rfl
theorem s180_22 (hT : gT h o = some (14, 54)) : aW (d + 1) 180 22 L (.int x1 :: .int x0 :: .ref o :: []) h Q = aM d 165 (.ref o :: [.int x0, .int x1]) h (fun v h1 => aW (d + 1) 180 25 L (ab_ps v []) h1 Q) := ax_invv mt180 dX12_shares_22 (by decide) ct_49383 (.inl rfl) mt165 ⟨⟨Nat.le_of_ble_eq_true rfl, Nat.le_of_ble_eq_true rfl, Nat.le_of_ble_eq_true rfl⟩, rfl, rfl, rfl⟩ hT
theorem s180_25 : aW d 180 25 L (.int a :: S) h Q = (if a = 0 then aW d 180 30 L S h Q else aW d 180 28 L S h Q) := ax_if_eq mt180 dX12_shares_25 (by decide)
theorem s180_28 : aW d 180 28 L S h Q = aW d 180 29 L (.int (nI 1) :: S) h Q := ax_iconst mt180 dX12_shares_28 ic_1
theorem s180_29 : aW d 180 29 L [.int a] h Q = (b01 a ∧ Q (some (.int a)) h) := ax_retz mt180 dX12_shares_29 rfl
theorem s180_30 : aW d 180 30 [l0, l1, l2, .int a] S h Q = aW d 180 33 [l0, l1, l2, .int (a + nI 1)] S h Q := ax_iinc mt180 dX12_shares_30 rfl ic_1 rfl
theorem s180_33 : aW d 180 33 L S h Q = aW d 180 2 L S h Q := ax_goto mt180 dX12_shares_33 (by decide)
theorem s180_36 : aW d 180 36 L S h Q = aW d 180 37 L (.int (nI 0) :: S) h Q := ax_iconst mt180 dX12_shares_36 ic_0
theorem s180_37 : aW d 180 37 L [.int a] h Q = (b01 a ∧ Q (some (.int a)) h) := ax_retz mt180 dX12_shares_37 rfl
-- method 181: BufferRoomModel.meet(IIII)Z
theorem dX12_meet_0 : decode cX12_meet 0 = .ok (.iload_n 1, 1) := by decide +kernel
theorem dX12_meet_1 : decode cX12_meet 1 = .ok (.ifCond .le 25, 3) := by decide +kernel
theorem dX12_meet_4 : decode cX12_meet 4 = .ok (.iload_n 3, 1) := by decide +kernel
theorem dX12_meet_5 : decode cX12_meet 5 = .ok (.ifCond .le 21, 3) := by decide +kernel
theorem dX12_meet_8 : decode cX12_meet 8 = .ok (.iload_n 0, 1) := by decide +kernel
theorem dX12_meet_9 : decode cX12_meet 9 = .ok (.iload_n 2, 1) := by decide +kernel
theorem dX12_meet_10 : decode cX12_meet 10 = .ok (.iload_n 3, 1) := by decide +kernel
theorem dX12_meet_11 : decode cX12_meet 11 = .ok (.iadd, 1) := by decide +kernel
theorem dX12_meet_12 : decode cX12_meet 12 = .ok (.if_icmp .ge 14, 3) := by decide +kernel
theorem dX12_meet_15 : decode cX12_meet 15 = .ok (.iload_n 2, 1) := by decide +kernel
theorem dX12_meet_16 : decode cX12_meet 16 = .ok (.iload_n 0, 1) := by decide +kernel
theorem dX12_meet_17 : decode cX12_meet 17 = .ok (.iload_n 1, 1) := by decide +kernel
theorem dX12_meet_18 : decode cX12_meet 18 = .ok (.iadd, 1) := by decide +kernel
theorem dX12_meet_19 : decode cX12_meet 19 = .ok (.if_icmp .ge 7, 3) := by decide +kernel
theorem dX12_meet_22 : decode cX12_meet 22 = .ok (.iconst 1, 1) := by decide +kernel
theorem dX12_meet_23 : decode cX12_meet 23 = .ok (.goto 4, 3) := by decide +kernel
theorem dX12_meet_26 : decode cX12_meet 26 = .ok (.iconst 0, 1) := by decide +kernel
theorem dX12_meet_27 : decode cX12_meet 27 = .ok (.ireturn, 1) := by decide +kernel
theorem s181_0 : aW d 181 0 [l0, .int a, l2, l3] S h Q = aW d 181 1 [l0, .int a, l2, l3] (.int a :: S) h Q := ax_iload_n mt181 dX12_meet_0 rfl
theorem s181_1 : aW d 181 1 L (.int a :: S) h Q = (if 0 < a then aW d 181 4 L S h Q else aW d 181 26 L S h Q) := ax_if_le mt181 dX12_meet_1 (by decide)
theorem s181_4 : aW d 181 4 [l0, l1, l2, .int a] S h Q = aW d 181 5 [l0, l1, l2, .int a] (.int a :: S) h Q := ax_iload_n mt181 dX12_meet_4 rfl
theorem s181_5 : aW d 181 5 L (.int a :: S) h Q = (if 0 < a then aW d 181 8 L S h Q else aW d 181 26 L S h Q) := ax_if_le mt181 dX12_meet_5 (by decide)
theorem s181_8 : aW d 181 8 [.int a, l1, l2, l3] S h Q = aW d 181 9 [.int a, l1, l2, l3] (.int a :: S) h Q := ax_iload_n mt181 dX12_meet_8 rfl
theorem s181_9 : aW d 181 9 [l0, l1, .int a, l3] S h Q = aW d 181 10 [l0, l1, .int a, l3] (.int a :: S) h Q := ax_iload_n mt181 dX12_meet_9 rfl
theorem s181_10 : aW d 181 10 [l0, l1, l2, .int a] S h Q = aW d 181 11 [l0, l1, l2, .int a] (.int a :: S) h Q := ax_iload_n mt181 dX12_meet_10 rfl
theorem s181_11 : aW d 181 11 L (.int b :: .int a :: S) h Q = aW d 181 12 L (.int (a + b) :: S) h Q := ax_iadd mt181 dX12_meet_11
theorem s181_12 : aW d 181 12 L (.int b :: .int a :: S) h Q = (if a < b then aW d 181 15 L S h Q else aW d 181 26 L S h Q) := ax_icmp_ge mt181 dX12_meet_12 (by decide)
theorem s181_15 : aW d 181 15 [l0, l1, .int a, l3] S h Q = aW d 181 16 [l0, l1, .int a, l3] (.int a :: S) h Q := ax_iload_n mt181 dX12_meet_15 rfl
theorem s181_16 : aW d 181 16 [.int a, l1, l2, l3] S h Q = aW d 181 17 [.int a, l1, l2, l3] (.int a :: S) h Q := ax_iload_n mt181 dX12_meet_16 rfl
theorem s181_17 : aW d 181 17 [l0, .int a, l2, l3] S h Q = aW d 181 18 [l0, .int a, l2, l3] (.int a :: S) h Q := ax_iload_n mt181 dX12_meet_17 rfl
theorem s181_18 : aW d 181 18 L (.int b :: .int a :: S) h Q = aW d 181 19 L (.int (a + b) :: S) h Q := ax_iadd mt181 dX12_meet_18
theorem s181_19 : aW d 181 19 L (.int b :: .int a :: S) h Q = (if a < b then aW d 181 22 L S h Q else aW d 181 26 L S h Q) := ax_icmp_ge mt181 dX12_meet_19 (by decide)
theorem s181_22 : aW d 181 22 L S h Q = aW d 181 23 L (.int (nI 1) :: S) h Q := ax_iconst mt181 dX12_meet_22 ic_1
theorem s181_23 : aW d 181 23 L S h Q = aW d 181 27 L S h Q := ax_goto mt181 dX12_meet_23 (by decide)
theorem s181_27 : aW d 181 27 L [.int a] h Q = (b01 a ∧ Q (some (.int a)) h) := ax_retz mt181 dX12_meet_27 rfl
theorem s181_26 : aW d 181 26 L S h Q = aW d 181 27 L (.int (nI 0) :: S) h Q := ax_iconst mt181 dX12_meet_26 ic_0
-- method 182: BufferRoomModel.laysRow(II)I
theorem dX12_laysRow_0 : decode cX12_laysRow 0 = .ok (.iconst 0, 1) := by decide +kernel
theorem dX12_laysRow_1 : decode cX12_laysRow 1 = .ok (.istore_n 3, 1) := by decide +kernel
theorem dX12_laysRow_2 : decode cX12_laysRow 2 = .ok (.iconst 0, 1) := by decide +kernel
theorem dX12_laysRow_3 : decode cX12_laysRow 3 = .ok (.istore 4, 2) := by decide +kernel
theorem dX12_laysRow_5 : decode cX12_laysRow 5 = .ok (.iload 4, 2) := by decide +kernel
theorem dX12_laysRow_7 : decode cX12_laysRow 7 = .ok (.iload_n 2, 1) := by decide +kernel
theorem dX12_laysRow_8 : decode cX12_laysRow 8 = .ok (.if_icmp .ge 184, 3) := by decide +kernel
theorem dX12_laysRow_11 : decode cX12_laysRow 11 = .ok (.aload_n 0, 1) := by decide +kernel
theorem dX12_laysRow_12 : decode cX12_laysRow 12 = .ok (.getfield 101, 3) := by decide +kernel
theorem dX12_laysRow_15 : decode cX12_laysRow 15 = .ok (.bipush 40, 2) := by decide +kernel
theorem dX12_laysRow_17 : decode cX12_laysRow 17 = .ok (.iload_n 1, 1) := by decide +kernel
theorem dX12_laysRow_18 : decode cX12_laysRow 18 = .ok (.imul, 1) := by decide +kernel
theorem dX12_laysRow_19 : decode cX12_laysRow 19 = .ok (.aload_n 0, 1) := by decide +kernel
theorem dX12_laysRow_20 : decode cX12_laysRow 20 = .ok (.getfield 116, 3) := by decide +kernel
theorem dX12_laysRow_23 : decode cX12_laysRow 23 = .ok (.iload 4, 2) := by decide +kernel
theorem dX12_laysRow_25 : decode cX12_laysRow 25 = .ok (.iaload, 1) := by decide +kernel
theorem dX12_laysRow_26 : decode cX12_laysRow 26 = .ok (.iadd, 1) := by decide +kernel
theorem dX12_laysRow_27 : decode cX12_laysRow 27 = .ok (.iaload, 1) := by decide +kernel
theorem dX12_laysRow_28 : decode cX12_laysRow 28 = .ok (.istore 5, 2) := by decide +kernel
theorem dX12_laysRow_30 : decode cX12_laysRow 30 = .ok (.aload_n 0, 1) := by decide +kernel
theorem dX12_laysRow_31 : decode cX12_laysRow 31 = .ok (.iload 5, 2) := by decide +kernel
theorem dX12_laysRow_33 : decode cX12_laysRow 33 = .ok (.invokevirtual 204, 3) := by decide +kernel
theorem dX12_laysRow_36 : decode cX12_laysRow 36 = .ok (.istore 6, 2) := by decide +kernel
theorem dX12_laysRow_38 : decode cX12_laysRow 38 = .ok (.iconst 0, 1) := by decide +kernel
theorem dX12_laysRow_39 : decode cX12_laysRow 39 = .ok (.istore 7, 2) := by decide +kernel
theorem dX12_laysRow_41 : decode cX12_laysRow 41 = .ok (.iconst 1, 1) := by decide +kernel
theorem dX12_laysRow_42 : decode cX12_laysRow 42 = .ok (.istore 8, 2) := by decide +kernel
theorem dX12_laysRow_44 : decode cX12_laysRow 44 = .ok (.iload 8, 2) := by decide +kernel
theorem dX12_laysRow_46 : decode cX12_laysRow 46 = .ok (.ifCond .eq 107, 3) := by decide +kernel
theorem dX12_laysRow_49 : decode cX12_laysRow 49 = .ok (.iconst 0, 1) := by decide +kernel
theorem dX12_laysRow_50 : decode cX12_laysRow 50 = .ok (.istore 8, 2) := by decide +kernel
theorem dX12_laysRow_52 : decode cX12_laysRow 52 = .ok (.iconst 0, 1) := by decide +kernel
theorem dX12_laysRow_53 : decode cX12_laysRow 53 = .ok (.istore 9, 2) := by decide +kernel
theorem dX12_laysRow_55 : decode cX12_laysRow 55 = .ok (.iload 9, 2) := by decide +kernel
theorem dX12_laysRow_57 : decode cX12_laysRow 57 = .ok (.iload 4, 2) := by decide +kernel
theorem dX12_laysRow_59 : decode cX12_laysRow 59 = .ok (.if_icmp .ge 91, 3) := by decide +kernel
theorem dX12_laysRow_62 : decode cX12_laysRow 62 = .ok (.aload_n 0, 1) := by decide +kernel
theorem dX12_laysRow_63 : decode cX12_laysRow 63 = .ok (.getfield 101, 3) := by decide +kernel
theorem dX12_laysRow_66 : decode cX12_laysRow 66 = .ok (.bipush 40, 2) := by decide +kernel
theorem dX12_laysRow_68 : decode cX12_laysRow 68 = .ok (.iload_n 1, 1) := by decide +kernel
theorem dX12_laysRow_69 : decode cX12_laysRow 69 = .ok (.imul, 1) := by decide +kernel
theorem dX12_laysRow_70 : decode cX12_laysRow 70 = .ok (.aload_n 0, 1) := by decide +kernel
theorem dX12_laysRow_71 : decode cX12_laysRow 71 = .ok (.getfield 116, 3) := by decide +kernel
theorem dX12_laysRow_74 : decode cX12_laysRow 74 = .ok (.iload 9, 2) := by decide +kernel
theorem dX12_laysRow_76 : decode cX12_laysRow 76 = .ok (.iaload, 1) := by decide +kernel
theorem dX12_laysRow_77 : decode cX12_laysRow 77 = .ok (.iadd, 1) := by decide +kernel
theorem dX12_laysRow_78 : decode cX12_laysRow 78 = .ok (.iaload, 1) := by decide +kernel
theorem dX12_laysRow_79 : decode cX12_laysRow 79 = .ok (.istore 10, 2) := by decide +kernel
theorem dX12_laysRow_81 : decode cX12_laysRow 81 = .ok (.aload_n 0, 1) := by decide +kernel
theorem dX12_laysRow_82 : decode cX12_laysRow 82 = .ok (.iload 5, 2) := by decide +kernel
theorem dX12_laysRow_84 : decode cX12_laysRow 84 = .ok (.iload 10, 2) := by decide +kernel
theorem dX12_laysRow_86 : decode cX12_laysRow 86 = .ok (.invokevirtual 252, 3) := by decide +kernel
theorem dX12_laysRow_89 : decode cX12_laysRow 89 = .ok (.ifCond .eq 55, 3) := by decide +kernel
theorem dX12_laysRow_92 : decode cX12_laysRow 92 = .ok (.iload 7, 2) := by decide +kernel
theorem dX12_laysRow_94 : decode cX12_laysRow 94 = .ok (.iload 6, 2) := by decide +kernel
theorem dX12_laysRow_96 : decode cX12_laysRow 96 = .ok (.aload_n 0, 1) := by decide +kernel
theorem dX12_laysRow_97 : decode cX12_laysRow 97 = .ok (.getfield 119, 3) := by decide +kernel
theorem dX12_laysRow_100 : decode cX12_laysRow 100 = .ok (.aload_n 0, 1) := by decide +kernel
theorem dX12_laysRow_101 : decode cX12_laysRow 101 = .ok (.getfield 116, 3) := by decide +kernel
theorem dX12_laysRow_104 : decode cX12_laysRow 104 = .ok (.iload 9, 2) := by decide +kernel
theorem dX12_laysRow_106 : decode cX12_laysRow 106 = .ok (.iaload, 1) := by decide +kernel
theorem dX12_laysRow_107 : decode cX12_laysRow 107 = .ok (.iaload, 1) := by decide +kernel
theorem dX12_laysRow_108 : decode cX12_laysRow 108 = .ok (.aload_n 0, 1) := by decide +kernel
theorem dX12_laysRow_109 : decode cX12_laysRow 109 = .ok (.iload 10, 2) := by decide +kernel
theorem dX12_laysRow_111 : decode cX12_laysRow 111 = .ok (.invokevirtual 204, 3) := by decide +kernel
theorem dX12_laysRow_114 : decode cX12_laysRow 114 = .ok (.invokestatic 255, 3) := by decide +kernel
theorem dX12_laysRow_117 : decode cX12_laysRow 117 = .ok (.ifCond .eq 27, 3) := by decide +kernel
theorem dX12_laysRow_120 : decode cX12_laysRow 120 = .ok (.aload_n 0, 1) := by decide +kernel
theorem dX12_laysRow_121 : decode cX12_laysRow 121 = .ok (.getfield 119, 3) := by decide +kernel
theorem dX12_laysRow_124 : decode cX12_laysRow 124 = .ok (.aload_n 0, 1) := by decide +kernel
theorem dX12_laysRow_125 : decode cX12_laysRow 125 = .ok (.getfield 116, 3) := by decide +kernel
theorem dX12_laysRow_128 : decode cX12_laysRow 128 = .ok (.iload 9, 2) := by decide +kernel
theorem dX12_laysRow_130 : decode cX12_laysRow 130 = .ok (.iaload, 1) := by decide +kernel
theorem dX12_laysRow_131 : decode cX12_laysRow 131 = .ok (.iaload, 1) := by decide +kernel
theorem dX12_laysRow_132 : decode cX12_laysRow 132 = .ok (.aload_n 0, 1) := by decide +kernel
theorem dX12_laysRow_133 : decode cX12_laysRow 133 = .ok (.iload 10, 2) := by decide +kernel
theorem dX12_laysRow_135 : decode cX12_laysRow 135 = .ok (.invokevirtual 204, 3) := by decide +kernel
theorem dX12_laysRow_138 : decode cX12_laysRow 138 = .ok (.iadd, 1) := by decide +kernel
theorem dX12_laysRow_139 : decode cX12_laysRow 139 = .ok (.istore 7, 2) := by decide +kernel
theorem dX12_laysRow_141 : decode cX12_laysRow 141 = .ok (.iconst 1, 1) := by decide +kernel
theorem dX12_laysRow_142 : decode cX12_laysRow 142 = .ok (.istore 8, 2) := by decide +kernel
theorem dX12_laysRow_144 : decode cX12_laysRow 144 = .ok (.iinc 9 1, 3) := by decide +kernel
theorem dX12_laysRow_147 : decode cX12_laysRow 147 = .ok (.goto (-92), 3) := by decide +kernel
theorem dX12_laysRow_150 : decode cX12_laysRow 150 = .ok (.goto (-106), 3) := by decide +kernel
theorem dX12_laysRow_153 : decode cX12_laysRow 153 = .ok (.aload_n 0, 1) := by decide +kernel
theorem dX12_laysRow_154 : decode cX12_laysRow 154 = .ok (.getfield 119, 3) := by decide +kernel
theorem dX12_laysRow_157 : decode cX12_laysRow 157 = .ok (.aload_n 0, 1) := by decide +kernel
theorem dX12_laysRow_158 : decode cX12_laysRow 158 = .ok (.getfield 116, 3) := by decide +kernel
theorem dX12_laysRow_161 : decode cX12_laysRow 161 = .ok (.iload 4, 2) := by decide +kernel
theorem dX12_laysRow_163 : decode cX12_laysRow 163 = .ok (.iaload, 1) := by decide +kernel
theorem dX12_laysRow_164 : decode cX12_laysRow 164 = .ok (.iload 7, 2) := by decide +kernel
theorem dX12_laysRow_166 : decode cX12_laysRow 166 = .ok (.iastore, 1) := by decide +kernel
theorem dX12_laysRow_167 : decode cX12_laysRow 167 = .ok (.iload 7, 2) := by decide +kernel
theorem dX12_laysRow_169 : decode cX12_laysRow 169 = .ok (.iload 6, 2) := by decide +kernel
theorem dX12_laysRow_171 : decode cX12_laysRow 171 = .ok (.iadd, 1) := by decide +kernel
theorem dX12_laysRow_172 : decode cX12_laysRow 172 = .ok (.iload_n 3, 1) := by decide +kernel
theorem dX12_laysRow_173 : decode cX12_laysRow 173 = .ok (.if_icmp .le 11, 3) := by decide +kernel
theorem dX12_laysRow_176 : decode cX12_laysRow 176 = .ok (.iload 7, 2) := by decide +kernel
theorem dX12_laysRow_178 : decode cX12_laysRow 178 = .ok (.iload 6, 2) := by decide +kernel
theorem dX12_laysRow_180 : decode cX12_laysRow 180 = .ok (.iadd, 1) := by decide +kernel
theorem dX12_laysRow_181 : decode cX12_laysRow 181 = .ok (.goto 4, 3) := by decide +kernel
theorem dX12_laysRow_184 : decode cX12_laysRow 184 = .ok (.iload_n 3, 1) := by decide +kernel
theorem dX12_laysRow_185 : decode cX12_laysRow 185 = .ok (.istore_n 3, 1) := by decide +kernel
theorem dX12_laysRow_186 : decode cX12_laysRow 186 = .ok (.iinc 4 1, 3) := by decide +kernel
theorem dX12_laysRow_189 : decode cX12_laysRow 189 = .ok (.goto (-184), 3) := by decide +kernel
theorem dX12_laysRow_192 : decode cX12_laysRow 192 = .ok (.iload_n 3, 1) := by decide +kernel
theorem dX12_laysRow_193 : decode cX12_laysRow 193 = .ok (.ireturn, 1) := by decide +kernel
theorem s182_0 : aW d 182 0 L S h Q = aW d 182 1 L (.int (nI 0) :: S) h Q := ax_iconst mt182 dX12_laysRow_0 ic_0
theorem s182_1 : aW d 182 1 [l0, l1, l2, l3, l4, l5, l6, l7, l8, l9, l10] (.int a :: S) h Q = aW d 182 2 [l0, l1, l2, .int a, l4, l5, l6, l7, l8, l9, l10] S h Q := ax_istore_n mt182 dX12_laysRow_1 (Nat.le_of_ble_eq_true rfl) rfl
theorem s182_2 : aW d 182 2 L S h Q = aW d 182 3 L (.int (nI 0) :: S) h Q := ax_iconst mt182 dX12_laysRow_2 ic_0
theorem s182_3 : aW d 182 3 [l0, l1, l2, l3, l4, l5, l6, l7, l8, l9, l10] (.int a :: S) h Q = aW d 182 5 [l0, l1, l2, l3, .int a, l5, l6, l7, l8, l9, l10] S h Q := ax_istore mt182 dX12_laysRow_3 (Nat.le_of_ble_eq_true rfl) rfl
theorem s182_5 : aW d 182 5 [l0, l1, l2, l3, .int a, l5, l6, l7, l8, l9, l10] S h Q = aW d 182 7 [l0, l1, l2, l3, .int a, l5, l6, l7, l8, l9, l10] (.int a :: S) h Q := ax_iload mt182 dX12_laysRow_5 rfl
theorem s182_7 : aW d 182 7 [l0, l1, .int a, l3, l4, l5, l6, l7, l8, l9, l10] S h Q = aW d 182 8 [l0, l1, .int a, l3, l4, l5, l6, l7, l8, l9, l10] (.int a :: S) h Q := ax_iload_n mt182 dX12_laysRow_7 rfl
theorem s182_8 : aW d 182 8 L (.int b :: .int a :: S) h Q = (if a < b then aW d 182 11 L S h Q else aW d 182 192 L S h Q) := ax_icmp_ge mt182 dX12_laysRow_8 (by decide)
theorem s182_11 : aW d 182 11 [.ref o, l1, l2, l3, l4, l5, l6, l7, l8, l9, l10] S h Q = aW d 182 12 [.ref o, l1, l2, l3, l4, l5, l6, l7, l8, l9, l10] (.ref o :: S) h Q := ax_aload_n mt182 dX12_laysRow_11 rfl
theorem s182_12 (hT : gT h o = some (14, 54)) : aW d 182 12 L (.ref o :: S) h Q = (isRf (gR h o 44) = true ∧ aW d 182 15 L (gR h o 44 :: S) h Q) := ax_geta mt182 dX12_laysRow_12 (by decide) ft_49253 fk_49253 hT
theorem s182_15 : aW d 182 15 L S h Q = aW d 182 17 L (.int (nI 40) :: S) h Q := ax_bipush mt182 dX12_laysRow_15 bp_40
theorem s182_17 : aW d 182 17 [l0, .int a, l2, l3, l4, l5, l6, l7, l8, l9, l10] S h Q = aW d 182 18 [l0, .int a, l2, l3, l4, l5, l6, l7, l8, l9, l10] (.int a :: S) h Q := ax_iload_n mt182 dX12_laysRow_17 rfl
theorem s182_18 : aW d 182 18 L (.int b :: .int a :: S) h Q = aW d 182 19 L (.int (a * b) :: S) h Q := ax_imul mt182 dX12_laysRow_18
theorem s182_19 : aW d 182 19 [.ref o, l1, l2, l3, l4, l5, l6, l7, l8, l9, l10] S h Q = aW d 182 20 [.ref o, l1, l2, l3, l4, l5, l6, l7, l8, l9, l10] (.ref o :: S) h Q := ax_aload_n mt182 dX12_laysRow_19 rfl
theorem s182_20 (hT : gT h o = some (14, 54)) : aW d 182 20 L (.ref o :: S) h Q = (isRf (gR h o 50) = true ∧ aW d 182 23 L (gR h o 50 :: S) h Q) := ax_geta mt182 dX12_laysRow_20 (by decide) ft_49268 fk_49268 hT
theorem s182_23 : aW d 182 23 [l0, l1, l2, l3, .int a, l5, l6, l7, l8, l9, l10] S h Q = aW d 182 25 [l0, l1, l2, l3, .int a, l5, l6, l7, l8, l9, l10] (.int a :: S) h Q := ax_iload mt182 dX12_laysRow_23 rfl
theorem s182_25 : aW d 182 25 L (.int a :: .ref o :: S) h Q = (inb a (aI h o) ∧ aW d 182 26 L (.int (gI h o a.toNatClampNeg) :: S) h Q) := ax_iald mt182 dX12_laysRow_25
theorem s182_26 : aW d 182 26 L (.int b :: .int a :: S) h Q = aW d 182 27 L (.int (a + b) :: S) h Q := ax_iadd mt182 dX12_laysRow_26
theorem s182_27 : aW d 182 27 L (.int a :: .ref o :: S) h Q = (inb a (aI h o) ∧ aW d 182 28 L (.int (gI h o a.toNatClampNeg) :: S) h Q) := ax_iald mt182 dX12_laysRow_27
theorem s182_28 : aW d 182 28 [l0, l1, l2, l3, l4, l5, l6, l7, l8, l9, l10] (.int a :: S) h Q = aW d 182 30 [l0, l1, l2, l3, l4, .int a, l6, l7, l8, l9, l10] S h Q := ax_istore mt182 dX12_laysRow_28 (Nat.le_of_ble_eq_true rfl) rfl
theorem s182_30 : aW d 182 30 [.ref o, l1, l2, l3, l4, l5, l6, l7, l8, l9, l10] S h Q = aW d 182 31 [.ref o, l1, l2, l3, l4, l5, l6, l7, l8, l9, l10] (.ref o :: S) h Q := ax_aload_n mt182 dX12_laysRow_30 rfl
theorem s182_31 : aW d 182 31 [l0, l1, l2, l3, l4, .int a, l6, l7, l8, l9, l10] S h Q = aW d 182 33 [l0, l1, l2, l3, l4, .int a, l6, l7, l8, l9, l10] (.int a :: S) h Q := ax_iload mt182 dX12_laysRow_31 rfl
theorem s182_33 (hT : gT h o = some (14, 54)) : aW (d + 1) 182 33 L (.int x0 :: .ref o :: []) h Q = aM d 154 (.ref o :: [.int x0]) h (fun v h1 => aW (d + 1) 182 36 L (ab_ps v []) h1 Q) := ax_invv mt182 dX12_laysRow_33 (by decide) ct_49356 (.inl rfl) mt154 ⟨⟨Nat.le_of_ble_eq_true rfl, Nat.le_of_ble_eq_true rfl, Nat.le_of_ble_eq_true rfl⟩, rfl, rfl, rfl⟩ hT
theorem s182_36 : aW d 182 36 [l0, l1, l2, l3, l4, l5, l6, l7, l8, l9, l10] (.int a :: S) h Q = aW d 182 38 [l0, l1, l2, l3, l4, l5, .int a, l7, l8, l9, l10] S h Q := ax_istore mt182 dX12_laysRow_36 (Nat.le_of_ble_eq_true rfl) rfl
theorem s182_38 : aW d 182 38 L S h Q = aW d 182 39 L (.int (nI 0) :: S) h Q := ax_iconst mt182 dX12_laysRow_38 ic_0
theorem s182_39 : aW d 182 39 [l0, l1, l2, l3, l4, l5, l6, l7, l8, l9, l10] (.int a :: S) h Q = aW d 182 41 [l0, l1, l2, l3, l4, l5, l6, .int a, l8, l9, l10] S h Q := ax_istore mt182 dX12_laysRow_39 (Nat.le_of_ble_eq_true rfl) rfl
theorem s182_41 : aW d 182 41 L S h Q = aW d 182 42 L (.int (nI 1) :: S) h Q := ax_iconst mt182 dX12_laysRow_41 ic_1
theorem s182_42 : aW d 182 42 [l0, l1, l2, l3, l4, l5, l6, l7, l8, l9, l10] (.int a :: S) h Q = aW d 182 44 [l0, l1, l2, l3, l4, l5, l6, l7, .int a, l9, l10] S h Q := ax_istore mt182 dX12_laysRow_42 (Nat.le_of_ble_eq_true rfl) rfl
theorem s182_44 : aW d 182 44 [l0, l1, l2, l3, l4, l5, l6, l7, .int a, l9, l10] S h Q = aW d 182 46 [l0, l1, l2, l3, l4, l5, l6, l7, .int a, l9, l10] (.int a :: S) h Q := ax_iload mt182 dX12_laysRow_44 rfl
theorem s182_46 : aW d 182 46 L (.int a :: S) h Q = (if a = 0 then aW d 182 153 L S h Q else aW d 182 49 L S h Q) := ax_if_eq mt182 dX12_laysRow_46 (by decide)
theorem s182_49 : aW d 182 49 L S h Q = aW d 182 50 L (.int (nI 0) :: S) h Q := ax_iconst mt182 dX12_laysRow_49 ic_0
theorem s182_50 : aW d 182 50 [l0, l1, l2, l3, l4, l5, l6, l7, l8, l9, l10] (.int a :: S) h Q = aW d 182 52 [l0, l1, l2, l3, l4, l5, l6, l7, .int a, l9, l10] S h Q := ax_istore mt182 dX12_laysRow_50 (Nat.le_of_ble_eq_true rfl) rfl
theorem s182_52 : aW d 182 52 L S h Q = aW d 182 53 L (.int (nI 0) :: S) h Q := ax_iconst mt182 dX12_laysRow_52 ic_0
theorem s182_53 : aW d 182 53 [l0, l1, l2, l3, l4, l5, l6, l7, l8, l9, l10] (.int a :: S) h Q = aW d 182 55 [l0, l1, l2, l3, l4, l5, l6, l7, l8, .int a, l10] S h Q := ax_istore mt182 dX12_laysRow_53 (Nat.le_of_ble_eq_true rfl) rfl
theorem s182_55 : aW d 182 55 [l0, l1, l2, l3, l4, l5, l6, l7, l8, .int a, l10] S h Q = aW d 182 57 [l0, l1, l2, l3, l4, l5, l6, l7, l8, .int a, l10] (.int a :: S) h Q := ax_iload mt182 dX12_laysRow_55 rfl
theorem s182_57 : aW d 182 57 [l0, l1, l2, l3, .int a, l5, l6, l7, l8, l9, l10] S h Q = aW d 182 59 [l0, l1, l2, l3, .int a, l5, l6, l7, l8, l9, l10] (.int a :: S) h Q := ax_iload mt182 dX12_laysRow_57 rfl
theorem s182_59 : aW d 182 59 L (.int b :: .int a :: S) h Q = (if a < b then aW d 182 62 L S h Q else aW d 182 150 L S h Q) := ax_icmp_ge mt182 dX12_laysRow_59 (by decide)
theorem s182_62 : aW d 182 62 [.ref o, l1, l2, l3, l4, l5, l6, l7, l8, l9, l10] S h Q = aW d 182 63 [.ref o, l1, l2, l3, l4, l5, l6, l7, l8, l9, l10] (.ref o :: S) h Q := ax_aload_n mt182 dX12_laysRow_62 rfl
theorem s182_63 (hT : gT h o = some (14, 54)) : aW d 182 63 L (.ref o :: S) h Q = (isRf (gR h o 44) = true ∧ aW d 182 66 L (gR h o 44 :: S) h Q) := ax_geta mt182 dX12_laysRow_63 (by decide) ft_49253 fk_49253 hT
theorem s182_66 : aW d 182 66 L S h Q = aW d 182 68 L (.int (nI 40) :: S) h Q := ax_bipush mt182 dX12_laysRow_66 bp_40
theorem s182_68 : aW d 182 68 [l0, .int a, l2, l3, l4, l5, l6, l7, l8, l9, l10] S h Q = aW d 182 69 [l0, .int a, l2, l3, l4, l5, l6, l7, l8, l9, l10] (.int a :: S) h Q := ax_iload_n mt182 dX12_laysRow_68 rfl
theorem s182_69 : aW d 182 69 L (.int b :: .int a :: S) h Q = aW d 182 70 L (.int (a * b) :: S) h Q := ax_imul mt182 dX12_laysRow_69
theorem s182_70 : aW d 182 70 [.ref o, l1, l2, l3, l4, l5, l6, l7, l8, l9, l10] S h Q = aW d 182 71 [.ref o, l1, l2, l3, l4, l5, l6, l7, l8, l9, l10] (.ref o :: S) h Q := ax_aload_n mt182 dX12_laysRow_70 rfl
theorem s182_71 (hT : gT h o = some (14, 54)) : aW d 182 71 L (.ref o :: S) h Q = (isRf (gR h o 50) = true ∧ aW d 182 74 L (gR h o 50 :: S) h Q) := ax_geta mt182 dX12_laysRow_71 (by decide) ft_49268 fk_49268 hT
theorem s182_74 : aW d 182 74 [l0, l1, l2, l3, l4, l5, l6, l7, l8, .int a, l10] S h Q = aW d 182 76 [l0, l1, l2, l3, l4, l5, l6, l7, l8, .int a, l10] (.int a :: S) h Q := ax_iload mt182 dX12_laysRow_74 rfl
theorem s182_76 : aW d 182 76 L (.int a :: .ref o :: S) h Q = (inb a (aI h o) ∧ aW d 182 77 L (.int (gI h o a.toNatClampNeg) :: S) h Q) := ax_iald mt182 dX12_laysRow_76
theorem s182_77 : aW d 182 77 L (.int b :: .int a :: S) h Q = aW d 182 78 L (.int (a + b) :: S) h Q := ax_iadd mt182 dX12_laysRow_77
theorem s182_78 : aW d 182 78 L (.int a :: .ref o :: S) h Q = (inb a (aI h o) ∧ aW d 182 79 L (.int (gI h o a.toNatClampNeg) :: S) h Q) := ax_iald mt182 dX12_laysRow_78
theorem s182_79 : aW d 182 79 [l0, l1, l2, l3, l4, l5, l6, l7, l8, l9, l10] (.int a :: S) h Q = aW d 182 81 [l0, l1, l2, l3, l4, l5, l6, l7, l8, l9, .int a] S h Q := ax_istore mt182 dX12_laysRow_79 (Nat.le_of_ble_eq_true rfl) rfl
theorem s182_81 : aW d 182 81 [.ref o, l1, l2, l3, l4, l5, l6, l7, l8, l9, l10] S h Q = aW d 182 82 [.ref o, l1, l2, l3, l4, l5, l6, l7, l8, l9, l10] (.ref o :: S) h Q := ax_aload_n mt182 dX12_laysRow_81 rfl
theorem s182_82 : aW d 182 82 [l0, l1, l2, l3, l4, .int a, l6, l7, l8, l9, l10] S h Q = aW d 182 84 [l0, l1, l2, l3, l4, .int a, l6, l7, l8, l9, l10] (.int a :: S) h Q := ax_iload mt182 dX12_laysRow_82 rfl
theorem s182_84 : aW d 182 84 [l0, l1, l2, l3, l4, l5, l6, l7, l8, l9, .int a] S h Q = aW d 182 86 [l0, l1, l2, l3, l4, l5, l6, l7, l8, l9, .int a] (.int a :: S) h Q := ax_iload mt182 dX12_laysRow_84 rfl
theorem s182_86 (hT : gT h o = some (14, 54)) : aW (d + 1) 182 86 L (.int x1 :: .int x0 :: .ref o :: []) h Q = aM d 180 (.ref o :: [.int x0, .int x1]) h (fun v h1 => aW (d + 1) 182 89 L (ab_ps v []) h1 Q) := ax_invv mt182 dX12_laysRow_86 (by decide) ct_49404 (.inl rfl) mt180 ⟨⟨Nat.le_of_ble_eq_true rfl, Nat.le_of_ble_eq_true rfl, Nat.le_of_ble_eq_true rfl⟩, rfl, rfl, rfl⟩ hT
theorem s182_89 : aW d 182 89 L (.int a :: S) h Q = (if a = 0 then aW d 182 144 L S h Q else aW d 182 92 L S h Q) := ax_if_eq mt182 dX12_laysRow_89 (by decide)
theorem s182_92 : aW d 182 92 [l0, l1, l2, l3, l4, l5, l6, .int a, l8, l9, l10] S h Q = aW d 182 94 [l0, l1, l2, l3, l4, l5, l6, .int a, l8, l9, l10] (.int a :: S) h Q := ax_iload mt182 dX12_laysRow_92 rfl
theorem s182_94 : aW d 182 94 [l0, l1, l2, l3, l4, l5, .int a, l7, l8, l9, l10] S h Q = aW d 182 96 [l0, l1, l2, l3, l4, l5, .int a, l7, l8, l9, l10] (.int a :: S) h Q := ax_iload mt182 dX12_laysRow_94 rfl
theorem s182_96 : aW d 182 96 [.ref o, l1, l2, l3, l4, l5, l6, l7, l8, l9, l10] S h Q = aW d 182 97 [.ref o, l1, l2, l3, l4, l5, l6, l7, l8, l9, l10] (.ref o :: S) h Q := ax_aload_n mt182 dX12_laysRow_96 rfl
theorem s182_97 (hT : gT h o = some (14, 54)) : aW d 182 97 L (.ref o :: S) h Q = (isRf (gR h o 51) = true ∧ aW d 182 100 L (gR h o 51 :: S) h Q) := ax_geta mt182 dX12_laysRow_97 (by decide) ft_49271 fk_49271 hT
theorem s182_100 : aW d 182 100 [.ref o, l1, l2, l3, l4, l5, l6, l7, l8, l9, l10] S h Q = aW d 182 101 [.ref o, l1, l2, l3, l4, l5, l6, l7, l8, l9, l10] (.ref o :: S) h Q := ax_aload_n mt182 dX12_laysRow_100 rfl
theorem s182_101 (hT : gT h o = some (14, 54)) : aW d 182 101 L (.ref o :: S) h Q = (isRf (gR h o 50) = true ∧ aW d 182 104 L (gR h o 50 :: S) h Q) := ax_geta mt182 dX12_laysRow_101 (by decide) ft_49268 fk_49268 hT
theorem s182_104 : aW d 182 104 [l0, l1, l2, l3, l4, l5, l6, l7, l8, .int a, l10] S h Q = aW d 182 106 [l0, l1, l2, l3, l4, l5, l6, l7, l8, .int a, l10] (.int a :: S) h Q := ax_iload mt182 dX12_laysRow_104 rfl
theorem s182_106 : aW d 182 106 L (.int a :: .ref o :: S) h Q = (inb a (aI h o) ∧ aW d 182 107 L (.int (gI h o a.toNatClampNeg) :: S) h Q) := ax_iald mt182 dX12_laysRow_106
theorem s182_107 : aW d 182 107 L (.int a :: .ref o :: S) h Q = (inb a (aI h o) ∧ aW d 182 108 L (.int (gI h o a.toNatClampNeg) :: S) h Q) := ax_iald mt182 dX12_laysRow_107
theorem s182_108 : aW d 182 108 [.ref o, l1, l2, l3, l4, l5, l6, l7, l8, l9, l10] S h Q = aW d 182 109 [.ref o, l1, l2, l3, l4, l5, l6, l7, l8, l9, l10] (.ref o :: S) h Q := ax_aload_n mt182 dX12_laysRow_108 rfl
theorem s182_109 : aW d 182 109 [l0, l1, l2, l3, l4, l5, l6, l7, l8, l9, .int a] S h Q = aW d 182 111 [l0, l1, l2, l3, l4, l5, l6, l7, l8, l9, .int a] (.int a :: S) h Q := ax_iload mt182 dX12_laysRow_109 rfl
theorem s182_111 (hT : gT h o = some (14, 54)) : aW (d + 1) 182 111 L (.int x0 :: .ref o :: [.int y0, .int y1, .int y2]) h Q = aM d 154 (.ref o :: [.int x0]) h (fun v h1 => aW (d + 1) 182 114 L (ab_ps v [.int y0, .int y1, .int y2]) h1 Q) := ax_invv mt182 dX12_laysRow_111 (by decide) ct_49356 (.inl rfl) mt154 ⟨⟨Nat.le_of_ble_eq_true rfl, Nat.le_of_ble_eq_true rfl, Nat.le_of_ble_eq_true rfl⟩, rfl, rfl, rfl⟩ hT
theorem s182_114 : aW (d + 1) 182 114 L (.int x3 :: .int x2 :: .int x1 :: .int x0 :: []) h Q = aM d 181 [.int x0, .int x1, .int x2, .int x3] h (fun v h1 => aW (d + 1) 182 117 L (ab_ps v []) h1 Q) := ax_invs mt182 dX12_laysRow_114 (by decide) ct_49407 (.inl rfl) mt181 ⟨⟨Nat.le_of_ble_eq_true rfl, Nat.le_of_ble_eq_true rfl, Nat.le_of_ble_eq_true rfl⟩, rfl, rfl⟩
theorem s182_117 : aW d 182 117 L (.int a :: S) h Q = (if a = 0 then aW d 182 144 L S h Q else aW d 182 120 L S h Q) := ax_if_eq mt182 dX12_laysRow_117 (by decide)
theorem s182_120 : aW d 182 120 [.ref o, l1, l2, l3, l4, l5, l6, l7, l8, l9, l10] S h Q = aW d 182 121 [.ref o, l1, l2, l3, l4, l5, l6, l7, l8, l9, l10] (.ref o :: S) h Q := ax_aload_n mt182 dX12_laysRow_120 rfl
theorem s182_121 (hT : gT h o = some (14, 54)) : aW d 182 121 L (.ref o :: S) h Q = (isRf (gR h o 51) = true ∧ aW d 182 124 L (gR h o 51 :: S) h Q) := ax_geta mt182 dX12_laysRow_121 (by decide) ft_49271 fk_49271 hT
theorem s182_124 : aW d 182 124 [.ref o, l1, l2, l3, l4, l5, l6, l7, l8, l9, l10] S h Q = aW d 182 125 [.ref o, l1, l2, l3, l4, l5, l6, l7, l8, l9, l10] (.ref o :: S) h Q := ax_aload_n mt182 dX12_laysRow_124 rfl
theorem s182_125 (hT : gT h o = some (14, 54)) : aW d 182 125 L (.ref o :: S) h Q = (isRf (gR h o 50) = true ∧ aW d 182 128 L (gR h o 50 :: S) h Q) := ax_geta mt182 dX12_laysRow_125 (by decide) ft_49268 fk_49268 hT
theorem s182_128 : aW d 182 128 [l0, l1, l2, l3, l4, l5, l6, l7, l8, .int a, l10] S h Q = aW d 182 130 [l0, l1, l2, l3, l4, l5, l6, l7, l8, .int a, l10] (.int a :: S) h Q := ax_iload mt182 dX12_laysRow_128 rfl
theorem s182_130 : aW d 182 130 L (.int a :: .ref o :: S) h Q = (inb a (aI h o) ∧ aW d 182 131 L (.int (gI h o a.toNatClampNeg) :: S) h Q) := ax_iald mt182 dX12_laysRow_130
theorem s182_131 : aW d 182 131 L (.int a :: .ref o :: S) h Q = (inb a (aI h o) ∧ aW d 182 132 L (.int (gI h o a.toNatClampNeg) :: S) h Q) := ax_iald mt182 dX12_laysRow_131
theorem s182_132 : aW d 182 132 [.ref o, l1, l2, l3, l4, l5, l6, l7, l8, l9, l10] S h Q = aW d 182 133 [.ref o, l1, l2, l3, l4, l5, l6, l7, l8, l9, l10] (.ref o :: S) h Q := ax_aload_n mt182 dX12_laysRow_132 rfl
theorem s182_133 : aW d 182 133 [l0, l1, l2, l3, l4, l5, l6, l7, l8, l9, .int a] S h Q = aW d 182 135 [l0, l1, l2, l3, l4, l5, l6, l7, l8, l9, .int a] (.int a :: S) h Q := ax_iload mt182 dX12_laysRow_133 rfl
theorem s182_135 (hT : gT h o = some (14, 54)) : aW (d + 1) 182 135 L (.int x0 :: .ref o :: [.int y0]) h Q = aM d 154 (.ref o :: [.int x0]) h (fun v h1 => aW (d + 1) 182 138 L (ab_ps v [.int y0]) h1 Q) := ax_invv mt182 dX12_laysRow_135 (by decide) ct_49356 (.inl rfl) mt154 ⟨⟨Nat.le_of_ble_eq_true rfl, Nat.le_of_ble_eq_true rfl, Nat.le_of_ble_eq_true rfl⟩, rfl, rfl, rfl⟩ hT
theorem s182_138 : aW d 182 138 L (.int b :: .int a :: S) h Q = aW d 182 139 L (.int (a + b) :: S) h Q := ax_iadd mt182 dX12_laysRow_138
theorem s182_139 : aW d 182 139 [l0, l1, l2, l3, l4, l5, l6, l7, l8, l9, l10] (.int a :: S) h Q = aW d 182 141 [l0, l1, l2, l3, l4, l5, l6, .int a, l8, l9, l10] S h Q := ax_istore mt182 dX12_laysRow_139 (Nat.le_of_ble_eq_true rfl) rfl
theorem s182_141 : aW d 182 141 L S h Q = aW d 182 142 L (.int (nI 1) :: S) h Q := ax_iconst mt182 dX12_laysRow_141 ic_1
theorem s182_142 : aW d 182 142 [l0, l1, l2, l3, l4, l5, l6, l7, l8, l9, l10] (.int a :: S) h Q = aW d 182 144 [l0, l1, l2, l3, l4, l5, l6, l7, .int a, l9, l10] S h Q := ax_istore mt182 dX12_laysRow_142 (Nat.le_of_ble_eq_true rfl) rfl
theorem s182_144 : aW d 182 144 [l0, l1, l2, l3, l4, l5, l6, l7, l8, .int a, l10] S h Q = aW d 182 147 [l0, l1, l2, l3, l4, l5, l6, l7, l8, .int (a + nI 1), l10] S h Q := ax_iinc mt182 dX12_laysRow_144 rfl ic_1 rfl
theorem s182_147 : aW d 182 147 L S h Q = aW d 182 55 L S h Q := ax_goto mt182 dX12_laysRow_147 (by decide)
theorem s182_150 : aW d 182 150 L S h Q = aW d 182 44 L S h Q := ax_goto mt182 dX12_laysRow_150 (by decide)
theorem s182_153 : aW d 182 153 [.ref o, l1, l2, l3, l4, l5, l6, l7, l8, l9, l10] S h Q = aW d 182 154 [.ref o, l1, l2, l3, l4, l5, l6, l7, l8, l9, l10] (.ref o :: S) h Q := ax_aload_n mt182 dX12_laysRow_153 rfl
theorem s182_154 (hT : gT h o = some (14, 54)) : aW d 182 154 L (.ref o :: S) h Q = (isRf (gR h o 51) = true ∧ aW d 182 157 L (gR h o 51 :: S) h Q) := ax_geta mt182 dX12_laysRow_154 (by decide) ft_49271 fk_49271 hT
theorem s182_157 : aW d 182 157 [.ref o, l1, l2, l3, l4, l5, l6, l7, l8, l9, l10] S h Q = aW d 182 158 [.ref o, l1, l2, l3, l4, l5, l6, l7, l8, l9, l10] (.ref o :: S) h Q := ax_aload_n mt182 dX12_laysRow_157 rfl
theorem s182_158 (hT : gT h o = some (14, 54)) : aW d 182 158 L (.ref o :: S) h Q = (isRf (gR h o 50) = true ∧ aW d 182 161 L (gR h o 50 :: S) h Q) := ax_geta mt182 dX12_laysRow_158 (by decide) ft_49268 fk_49268 hT
theorem s182_161 : aW d 182 161 [l0, l1, l2, l3, .int a, l5, l6, l7, l8, l9, l10] S h Q = aW d 182 163 [l0, l1, l2, l3, .int a, l5, l6, l7, l8, l9, l10] (.int a :: S) h Q := ax_iload mt182 dX12_laysRow_161 rfl
theorem s182_163 : aW d 182 163 L (.int a :: .ref o :: S) h Q = (inb a (aI h o) ∧ aW d 182 164 L (.int (gI h o a.toNatClampNeg) :: S) h Q) := ax_iald mt182 dX12_laysRow_163
theorem s182_164 : aW d 182 164 [l0, l1, l2, l3, l4, l5, l6, .int a, l8, l9, l10] S h Q = aW d 182 166 [l0, l1, l2, l3, l4, l5, l6, .int a, l8, l9, l10] (.int a :: S) h Q := ax_iload mt182 dX12_laysRow_164 rfl
theorem s182_166 : aW d 182 166 L (.int b :: .int a :: .ref o :: S) h Q = (inb a (aJ h o) ∧ aW d 182 167 L S (pI h o a.toNatClampNeg b) Q) := ax_iast mt182 dX12_laysRow_166
theorem s182_167 : aW d 182 167 [l0, l1, l2, l3, l4, l5, l6, .int a, l8, l9, l10] S h Q = aW d 182 169 [l0, l1, l2, l3, l4, l5, l6, .int a, l8, l9, l10] (.int a :: S) h Q := ax_iload mt182 dX12_laysRow_167 rfl
theorem s182_169 : aW d 182 169 [l0, l1, l2, l3, l4, l5, .int a, l7, l8, l9, l10] S h Q = aW d 182 171 [l0, l1, l2, l3, l4, l5, .int a, l7, l8, l9, l10] (.int a :: S) h Q := ax_iload mt182 dX12_laysRow_169 rfl
theorem s182_171 : aW d 182 171 L (.int b :: .int a :: S) h Q = aW d 182 172 L (.int (a + b) :: S) h Q := ax_iadd mt182 dX12_laysRow_171
theorem s182_172 : aW d 182 172 [l0, l1, l2, .int a, l4, l5, l6, l7, l8, l9, l10] S h Q = aW d 182 173 [l0, l1, l2, .int a, l4, l5, l6, l7, l8, l9, l10] (.int a :: S) h Q := ax_iload_n mt182 dX12_laysRow_172 rfl
theorem s182_173 : aW d 182 173 L (.int b :: .int a :: S) h Q = (if b < a then aW d 182 176 L S h Q else aW d 182 184 L S h Q) := ax_icmp_le mt182 dX12_laysRow_173 (by decide)
theorem s182_176 : aW d 182 176 [l0, l1, l2, l3, l4, l5, l6, .int a, l8, l9, l10] S h Q = aW d 182 178 [l0, l1, l2, l3, l4, l5, l6, .int a, l8, l9, l10] (.int a :: S) h Q := ax_iload mt182 dX12_laysRow_176 rfl
theorem s182_178 : aW d 182 178 [l0, l1, l2, l3, l4, l5, .int a, l7, l8, l9, l10] S h Q = aW d 182 180 [l0, l1, l2, l3, l4, l5, .int a, l7, l8, l9, l10] (.int a :: S) h Q := ax_iload mt182 dX12_laysRow_178 rfl
theorem s182_180 : aW d 182 180 L (.int b :: .int a :: S) h Q = aW d 182 181 L (.int (a + b) :: S) h Q := ax_iadd mt182 dX12_laysRow_180
theorem s182_181 : aW d 182 181 L S h Q = aW d 182 185 L S h Q := ax_goto mt182 dX12_laysRow_181 (by decide)
theorem s182_185 : aW d 182 185 [l0, l1, l2, l3, l4, l5, l6, l7, l8, l9, l10] (.int a :: S) h Q = aW d 182 186 [l0, l1, l2, .int a, l4, l5, l6, l7, l8, l9, l10] S h Q := ax_istore_n mt182 dX12_laysRow_185 (Nat.le_of_ble_eq_true rfl) rfl
theorem s182_186 : aW d 182 186 [l0, l1, l2, l3, .int a, l5, l6, l7, l8, l9, l10] S h Q = aW d 182 189 [l0, l1, l2, l3, .int (a + nI 1), l5, l6, l7, l8, l9, l10] S h Q := ax_iinc mt182 dX12_laysRow_186 rfl ic_1 rfl
theorem s182_189 : aW d 182 189 L S h Q = aW d 182 5 L S h Q := ax_goto mt182 dX12_laysRow_189 (by decide)
theorem s182_184 : aW d 182 184 [l0, l1, l2, .int a, l4, l5, l6, l7, l8, l9, l10] S h Q = aW d 182 185 [l0, l1, l2, .int a, l4, l5, l6, l7, l8, l9, l10] (.int a :: S) h Q := ax_iload_n mt182 dX12_laysRow_184 rfl
theorem s182_192 : aW d 182 192 [l0, l1, l2, .int a, l4, l5, l6, l7, l8, l9, l10] S h Q = aW d 182 193 [l0, l1, l2, .int a, l4, l5, l6, l7, l8, l9, l10] (.int a :: S) h Q := ax_iload_n mt182 dX12_laysRow_192 rfl
theorem s182_193 : aW d 182 193 L [.int a] h Q = Q (some (.int a)) h := ax_reti mt182 dX12_laysRow_193 rfl
-- method 183: BufferRoomModel.nextRow(I)Z
theorem dX12_nextRow_0 : decode cX12_nextRow 0 = .ok (.iload_n 1, 1) := by decide +kernel
theorem dX12_nextRow_1 : decode cX12_nextRow 1 = .ok (.iconst 2, 1) := by decide +kernel
theorem dX12_nextRow_2 : decode cX12_nextRow 2 = .ok (.isub, 1) := by decide +kernel
theorem dX12_nextRow_3 : decode cX12_nextRow 3 = .ok (.istore_n 2, 1) := by decide +kernel
theorem dX12_nextRow_4 : decode cX12_nextRow 4 = .ok (.iload_n 2, 1) := by decide +kernel
theorem dX12_nextRow_5 : decode cX12_nextRow 5 = .ok (.ifCond .lt 34, 3) := by decide +kernel
theorem dX12_nextRow_8 : decode cX12_nextRow 8 = .ok (.aload_n 0, 1) := by decide +kernel
theorem dX12_nextRow_9 : decode cX12_nextRow 9 = .ok (.getfield 116, 3) := by decide +kernel
theorem dX12_nextRow_12 : decode cX12_nextRow 12 = .ok (.iload_n 2, 1) := by decide +kernel
theorem dX12_nextRow_13 : decode cX12_nextRow 13 = .ok (.ifCond .ge 7, 3) := by decide +kernel
theorem dX12_nextRow_16 : decode cX12_nextRow 16 = .ok (.iconst 0, 1) := by decide +kernel
theorem dX12_nextRow_17 : decode cX12_nextRow 17 = .ok (.goto 4, 3) := by decide +kernel
theorem dX12_nextRow_20 : decode cX12_nextRow 20 = .ok (.iload_n 2, 1) := by decide +kernel
theorem dX12_nextRow_21 : decode cX12_nextRow 21 = .ok (.iaload, 1) := by decide +kernel
theorem dX12_nextRow_22 : decode cX12_nextRow 22 = .ok (.aload_n 0, 1) := by decide +kernel
theorem dX12_nextRow_23 : decode cX12_nextRow 23 = .ok (.getfield 116, 3) := by decide +kernel
theorem dX12_nextRow_26 : decode cX12_nextRow 26 = .ok (.iload_n 2, 1) := by decide +kernel
theorem dX12_nextRow_27 : decode cX12_nextRow 27 = .ok (.iconst 1, 1) := by decide +kernel
theorem dX12_nextRow_28 : decode cX12_nextRow 28 = .ok (.iadd, 1) := by decide +kernel
theorem dX12_nextRow_29 : decode cX12_nextRow 29 = .ok (.iaload, 1) := by decide +kernel
theorem dX12_nextRow_30 : decode cX12_nextRow 30 = .ok (.if_icmp .le 9, 3) := by decide +kernel
theorem dX12_nextRow_33 : decode cX12_nextRow 33 = .ok (.iinc 2 (-1), 3) := by decide +kernel
theorem dX12_nextRow_36 : decode cX12_nextRow 36 = .ok (.goto (-32), 3) := by decide +kernel
theorem dX12_nextRow_39 : decode cX12_nextRow 39 = .ok (.iload_n 2, 1) := by decide +kernel
theorem dX12_nextRow_40 : decode cX12_nextRow 40 = .ok (.ifCond .ge 5, 3) := by decide +kernel
theorem dX12_nextRow_43 : decode cX12_nextRow 43 = .ok (.iconst 0, 1) := by decide +kernel
theorem dX12_nextRow_44 : decode cX12_nextRow 44 = .ok (.ireturn, 1) := by decide +kernel
theorem dX12_nextRow_45 : decode cX12_nextRow 45 = .ok (.iload_n 1, 1) := by decide +kernel
theorem dX12_nextRow_46 : decode cX12_nextRow 46 = .ok (.iconst 1, 1) := by decide +kernel
theorem dX12_nextRow_47 : decode cX12_nextRow 47 = .ok (.isub, 1) := by decide +kernel
theorem dX12_nextRow_48 : decode cX12_nextRow 48 = .ok (.istore_n 3, 1) := by decide +kernel
theorem dX12_nextRow_49 : decode cX12_nextRow 49 = .ok (.aload_n 0, 1) := by decide +kernel
theorem dX12_nextRow_50 : decode cX12_nextRow 50 = .ok (.getfield 116, 3) := by decide +kernel
theorem dX12_nextRow_53 : decode cX12_nextRow 53 = .ok (.iload_n 3, 1) := by decide +kernel
theorem dX12_nextRow_54 : decode cX12_nextRow 54 = .ok (.iaload, 1) := by decide +kernel
theorem dX12_nextRow_55 : decode cX12_nextRow 55 = .ok (.aload_n 0, 1) := by decide +kernel
theorem dX12_nextRow_56 : decode cX12_nextRow 56 = .ok (.getfield 116, 3) := by decide +kernel
theorem dX12_nextRow_59 : decode cX12_nextRow 59 = .ok (.iload_n 2, 1) := by decide +kernel
theorem dX12_nextRow_60 : decode cX12_nextRow 60 = .ok (.iaload, 1) := by decide +kernel
theorem dX12_nextRow_61 : decode cX12_nextRow 61 = .ok (.if_icmp .ge 9, 3) := by decide +kernel
theorem dX12_nextRow_64 : decode cX12_nextRow 64 = .ok (.iinc 3 (-1), 3) := by decide +kernel
theorem dX12_nextRow_67 : decode cX12_nextRow 67 = .ok (.goto (-18), 3) := by decide +kernel
theorem dX12_nextRow_70 : decode cX12_nextRow 70 = .ok (.aload_n 0, 1) := by decide +kernel
theorem dX12_nextRow_71 : decode cX12_nextRow 71 = .ok (.getfield 116, 3) := by decide +kernel
theorem dX12_nextRow_74 : decode cX12_nextRow 74 = .ok (.iload_n 2, 1) := by decide +kernel
theorem dX12_nextRow_75 : decode cX12_nextRow 75 = .ok (.iaload, 1) := by decide +kernel
theorem dX12_nextRow_76 : decode cX12_nextRow 76 = .ok (.istore 4, 2) := by decide +kernel
theorem dX12_nextRow_78 : decode cX12_nextRow 78 = .ok (.aload_n 0, 1) := by decide +kernel
theorem dX12_nextRow_79 : decode cX12_nextRow 79 = .ok (.getfield 116, 3) := by decide +kernel
theorem dX12_nextRow_82 : decode cX12_nextRow 82 = .ok (.iload_n 2, 1) := by decide +kernel
theorem dX12_nextRow_83 : decode cX12_nextRow 83 = .ok (.aload_n 0, 1) := by decide +kernel
theorem dX12_nextRow_84 : decode cX12_nextRow 84 = .ok (.getfield 116, 3) := by decide +kernel
theorem dX12_nextRow_87 : decode cX12_nextRow 87 = .ok (.iload_n 3, 1) := by decide +kernel
theorem dX12_nextRow_88 : decode cX12_nextRow 88 = .ok (.iaload, 1) := by decide +kernel
theorem dX12_nextRow_89 : decode cX12_nextRow 89 = .ok (.iastore, 1) := by decide +kernel
theorem dX12_nextRow_90 : decode cX12_nextRow 90 = .ok (.aload_n 0, 1) := by decide +kernel
theorem dX12_nextRow_91 : decode cX12_nextRow 91 = .ok (.getfield 116, 3) := by decide +kernel
theorem dX12_nextRow_94 : decode cX12_nextRow 94 = .ok (.iload_n 3, 1) := by decide +kernel
theorem dX12_nextRow_95 : decode cX12_nextRow 95 = .ok (.iload 4, 2) := by decide +kernel
theorem dX12_nextRow_97 : decode cX12_nextRow 97 = .ok (.iastore, 1) := by decide +kernel
theorem dX12_nextRow_98 : decode cX12_nextRow 98 = .ok (.iload_n 1, 1) := by decide +kernel
theorem dX12_nextRow_99 : decode cX12_nextRow 99 = .ok (.iconst 1, 1) := by decide +kernel
theorem dX12_nextRow_100 : decode cX12_nextRow 100 = .ok (.isub, 1) := by decide +kernel
theorem dX12_nextRow_101 : decode cX12_nextRow 101 = .ok (.istore 5, 2) := by decide +kernel
theorem dX12_nextRow_103 : decode cX12_nextRow 103 = .ok (.iload_n 2, 1) := by decide +kernel
theorem dX12_nextRow_104 : decode cX12_nextRow 104 = .ok (.iconst 1, 1) := by decide +kernel
theorem dX12_nextRow_105 : decode cX12_nextRow 105 = .ok (.iadd, 1) := by decide +kernel
theorem dX12_nextRow_106 : decode cX12_nextRow 106 = .ok (.istore 6, 2) := by decide +kernel
theorem dX12_nextRow_108 : decode cX12_nextRow 108 = .ok (.iload 6, 2) := by decide +kernel
theorem dX12_nextRow_110 : decode cX12_nextRow 110 = .ok (.iload 5, 2) := by decide +kernel
theorem dX12_nextRow_112 : decode cX12_nextRow 112 = .ok (.if_icmp .ge 44, 3) := by decide +kernel
theorem dX12_nextRow_115 : decode cX12_nextRow 115 = .ok (.aload_n 0, 1) := by decide +kernel
theorem dX12_nextRow_116 : decode cX12_nextRow 116 = .ok (.getfield 116, 3) := by decide +kernel
theorem dX12_nextRow_119 : decode cX12_nextRow 119 = .ok (.iload 6, 2) := by decide +kernel
theorem dX12_nextRow_121 : decode cX12_nextRow 121 = .ok (.iaload, 1) := by decide +kernel
theorem dX12_nextRow_122 : decode cX12_nextRow 122 = .ok (.istore 7, 2) := by decide +kernel
theorem dX12_nextRow_124 : decode cX12_nextRow 124 = .ok (.aload_n 0, 1) := by decide +kernel
theorem dX12_nextRow_125 : decode cX12_nextRow 125 = .ok (.getfield 116, 3) := by decide +kernel
theorem dX12_nextRow_128 : decode cX12_nextRow 128 = .ok (.iload 6, 2) := by decide +kernel
theorem dX12_nextRow_130 : decode cX12_nextRow 130 = .ok (.aload_n 0, 1) := by decide +kernel
theorem dX12_nextRow_131 : decode cX12_nextRow 131 = .ok (.getfield 116, 3) := by decide +kernel
theorem dX12_nextRow_134 : decode cX12_nextRow 134 = .ok (.iload 5, 2) := by decide +kernel
theorem dX12_nextRow_136 : decode cX12_nextRow 136 = .ok (.iaload, 1) := by decide +kernel
theorem dX12_nextRow_137 : decode cX12_nextRow 137 = .ok (.iastore, 1) := by decide +kernel
theorem dX12_nextRow_138 : decode cX12_nextRow 138 = .ok (.aload_n 0, 1) := by decide +kernel
theorem dX12_nextRow_139 : decode cX12_nextRow 139 = .ok (.getfield 116, 3) := by decide +kernel
theorem dX12_nextRow_142 : decode cX12_nextRow 142 = .ok (.iload 5, 2) := by decide +kernel
theorem dX12_nextRow_144 : decode cX12_nextRow 144 = .ok (.iload 7, 2) := by decide +kernel
theorem dX12_nextRow_146 : decode cX12_nextRow 146 = .ok (.iastore, 1) := by decide +kernel
theorem dX12_nextRow_147 : decode cX12_nextRow 147 = .ok (.iinc 5 (-1), 3) := by decide +kernel
theorem dX12_nextRow_150 : decode cX12_nextRow 150 = .ok (.iinc 6 1, 3) := by decide +kernel
theorem dX12_nextRow_153 : decode cX12_nextRow 153 = .ok (.goto (-45), 3) := by decide +kernel
theorem dX12_nextRow_156 : decode cX12_nextRow 156 = .ok (.iconst 1, 1) := by decide +kernel
theorem dX12_nextRow_157 : decode cX12_nextRow 157 = .ok (.ireturn, 1) := by decide +kernel
theorem s183_0 : aW d 183 0 [l0, .int a, l2, l3, l4, l5, l6, l7] S h Q = aW d 183 1 [l0, .int a, l2, l3, l4, l5, l6, l7] (.int a :: S) h Q := ax_iload_n mt183 dX12_nextRow_0 rfl
theorem s183_1 : aW d 183 1 L S h Q = aW d 183 2 L (.int (nI 2) :: S) h Q := ax_iconst mt183 dX12_nextRow_1 ic_2
theorem s183_2 : aW d 183 2 L (.int b :: .int a :: S) h Q = aW d 183 3 L (.int (a - b) :: S) h Q := ax_isub mt183 dX12_nextRow_2
theorem s183_3 : aW d 183 3 [l0, l1, l2, l3, l4, l5, l6, l7] (.int a :: S) h Q = aW d 183 4 [l0, l1, .int a, l3, l4, l5, l6, l7] S h Q := ax_istore_n mt183 dX12_nextRow_3 (Nat.le_of_ble_eq_true rfl) rfl
theorem s183_4 : aW d 183 4 [l0, l1, .int a, l3, l4, l5, l6, l7] S h Q = aW d 183 5 [l0, l1, .int a, l3, l4, l5, l6, l7] (.int a :: S) h Q := ax_iload_n mt183 dX12_nextRow_4 rfl
theorem s183_5 : aW d 183 5 L (.int a :: S) h Q = (if a < 0 then aW d 183 39 L S h Q else aW d 183 8 L S h Q) := ax_if_lt mt183 dX12_nextRow_5 (by decide)
theorem s183_8 : aW d 183 8 [.ref o, l1, l2, l3, l4, l5, l6, l7] S h Q = aW d 183 9 [.ref o, l1, l2, l3, l4, l5, l6, l7] (.ref o :: S) h Q := ax_aload_n mt183 dX12_nextRow_8 rfl
theorem s183_9 (hT : gT h o = some (14, 54)) : aW d 183 9 L (.ref o :: S) h Q = (isRf (gR h o 50) = true ∧ aW d 183 12 L (gR h o 50 :: S) h Q) := ax_geta mt183 dX12_nextRow_9 (by decide) ft_49268 fk_49268 hT
theorem s183_12 : aW d 183 12 [l0, l1, .int a, l3, l4, l5, l6, l7] S h Q = aW d 183 13 [l0, l1, .int a, l3, l4, l5, l6, l7] (.int a :: S) h Q := ax_iload_n mt183 dX12_nextRow_12 rfl
theorem s183_13 : aW d 183 13 L (.int a :: S) h Q = (if a < 0 then aW d 183 16 L S h Q else aW d 183 20 L S h Q) := ax_if_ge mt183 dX12_nextRow_13 (by decide)
theorem s183_16 : aW d 183 16 L S h Q = aW d 183 17 L (.int (nI 0) :: S) h Q := ax_iconst mt183 dX12_nextRow_16 ic_0
theorem s183_17 : aW d 183 17 L S h Q = aW d 183 21 L S h Q := ax_goto mt183 dX12_nextRow_17 (by decide)
theorem s183_21 : aW d 183 21 L (.int a :: .ref o :: S) h Q = (inb a (aI h o) ∧ aW d 183 22 L (.int (gI h o a.toNatClampNeg) :: S) h Q) := ax_iald mt183 dX12_nextRow_21
theorem s183_22 : aW d 183 22 [.ref o, l1, l2, l3, l4, l5, l6, l7] S h Q = aW d 183 23 [.ref o, l1, l2, l3, l4, l5, l6, l7] (.ref o :: S) h Q := ax_aload_n mt183 dX12_nextRow_22 rfl
theorem s183_23 (hT : gT h o = some (14, 54)) : aW d 183 23 L (.ref o :: S) h Q = (isRf (gR h o 50) = true ∧ aW d 183 26 L (gR h o 50 :: S) h Q) := ax_geta mt183 dX12_nextRow_23 (by decide) ft_49268 fk_49268 hT
theorem s183_26 : aW d 183 26 [l0, l1, .int a, l3, l4, l5, l6, l7] S h Q = aW d 183 27 [l0, l1, .int a, l3, l4, l5, l6, l7] (.int a :: S) h Q := ax_iload_n mt183 dX12_nextRow_26 rfl
theorem s183_27 : aW d 183 27 L S h Q = aW d 183 28 L (.int (nI 1) :: S) h Q := ax_iconst mt183 dX12_nextRow_27 ic_1
theorem s183_28 : aW d 183 28 L (.int b :: .int a :: S) h Q = aW d 183 29 L (.int (a + b) :: S) h Q := ax_iadd mt183 dX12_nextRow_28
theorem s183_29 : aW d 183 29 L (.int a :: .ref o :: S) h Q = (inb a (aI h o) ∧ aW d 183 30 L (.int (gI h o a.toNatClampNeg) :: S) h Q) := ax_iald mt183 dX12_nextRow_29
theorem s183_30 : aW d 183 30 L (.int b :: .int a :: S) h Q = (if b < a then aW d 183 33 L S h Q else aW d 183 39 L S h Q) := ax_icmp_le mt183 dX12_nextRow_30 (by decide)
theorem s183_33 : aW d 183 33 [l0, l1, .int a, l3, l4, l5, l6, l7] S h Q = aW d 183 36 [l0, l1, .int (a + (-1)), l3, l4, l5, l6, l7] S h Q := ax_iinc mt183 dX12_nextRow_33 rfl ic_m1 rfl
theorem s183_36 : aW d 183 36 L S h Q = aW d 183 4 L S h Q := ax_goto mt183 dX12_nextRow_36 (by decide)
theorem s183_20 : aW d 183 20 [l0, l1, .int a, l3, l4, l5, l6, l7] S h Q = aW d 183 21 [l0, l1, .int a, l3, l4, l5, l6, l7] (.int a :: S) h Q := ax_iload_n mt183 dX12_nextRow_20 rfl
theorem s183_39 : aW d 183 39 [l0, l1, .int a, l3, l4, l5, l6, l7] S h Q = aW d 183 40 [l0, l1, .int a, l3, l4, l5, l6, l7] (.int a :: S) h Q := ax_iload_n mt183 dX12_nextRow_39 rfl
theorem s183_40 : aW d 183 40 L (.int a :: S) h Q = (if a < 0 then aW d 183 43 L S h Q else aW d 183 45 L S h Q) := ax_if_ge mt183 dX12_nextRow_40 (by decide)
theorem s183_43 : aW d 183 43 L S h Q = aW d 183 44 L (.int (nI 0) :: S) h Q := ax_iconst mt183 dX12_nextRow_43 ic_0
theorem s183_44 : aW d 183 44 L [.int a] h Q = (b01 a ∧ Q (some (.int a)) h) := ax_retz mt183 dX12_nextRow_44 rfl
theorem s183_45 : aW d 183 45 [l0, .int a, l2, l3, l4, l5, l6, l7] S h Q = aW d 183 46 [l0, .int a, l2, l3, l4, l5, l6, l7] (.int a :: S) h Q := ax_iload_n mt183 dX12_nextRow_45 rfl
theorem s183_46 : aW d 183 46 L S h Q = aW d 183 47 L (.int (nI 1) :: S) h Q := ax_iconst mt183 dX12_nextRow_46 ic_1
theorem s183_47 : aW d 183 47 L (.int b :: .int a :: S) h Q = aW d 183 48 L (.int (a - b) :: S) h Q := ax_isub mt183 dX12_nextRow_47
theorem s183_48 : aW d 183 48 [l0, l1, l2, l3, l4, l5, l6, l7] (.int a :: S) h Q = aW d 183 49 [l0, l1, l2, .int a, l4, l5, l6, l7] S h Q := ax_istore_n mt183 dX12_nextRow_48 (Nat.le_of_ble_eq_true rfl) rfl
theorem s183_49 : aW d 183 49 [.ref o, l1, l2, l3, l4, l5, l6, l7] S h Q = aW d 183 50 [.ref o, l1, l2, l3, l4, l5, l6, l7] (.ref o :: S) h Q := ax_aload_n mt183 dX12_nextRow_49 rfl
theorem s183_50 (hT : gT h o = some (14, 54)) : aW d 183 50 L (.ref o :: S) h Q = (isRf (gR h o 50) = true ∧ aW d 183 53 L (gR h o 50 :: S) h Q) := ax_geta mt183 dX12_nextRow_50 (by decide) ft_49268 fk_49268 hT
theorem s183_53 : aW d 183 53 [l0, l1, l2, .int a, l4, l5, l6, l7] S h Q = aW d 183 54 [l0, l1, l2, .int a, l4, l5, l6, l7] (.int a :: S) h Q := ax_iload_n mt183 dX12_nextRow_53 rfl
theorem s183_54 : aW d 183 54 L (.int a :: .ref o :: S) h Q = (inb a (aI h o) ∧ aW d 183 55 L (.int (gI h o a.toNatClampNeg) :: S) h Q) := ax_iald mt183 dX12_nextRow_54
theorem s183_55 : aW d 183 55 [.ref o, l1, l2, l3, l4, l5, l6, l7] S h Q = aW d 183 56 [.ref o, l1, l2, l3, l4, l5, l6, l7] (.ref o :: S) h Q := ax_aload_n mt183 dX12_nextRow_55 rfl
theorem s183_56 (hT : gT h o = some (14, 54)) : aW d 183 56 L (.ref o :: S) h Q = (isRf (gR h o 50) = true ∧ aW d 183 59 L (gR h o 50 :: S) h Q) := ax_geta mt183 dX12_nextRow_56 (by decide) ft_49268 fk_49268 hT
theorem s183_59 : aW d 183 59 [l0, l1, .int a, l3, l4, l5, l6, l7] S h Q = aW d 183 60 [l0, l1, .int a, l3, l4, l5, l6, l7] (.int a :: S) h Q := ax_iload_n mt183 dX12_nextRow_59 rfl
theorem s183_60 : aW d 183 60 L (.int a :: .ref o :: S) h Q = (inb a (aI h o) ∧ aW d 183 61 L (.int (gI h o a.toNatClampNeg) :: S) h Q) := ax_iald mt183 dX12_nextRow_60
theorem s183_61 : aW d 183 61 L (.int b :: .int a :: S) h Q = (if a < b then aW d 183 64 L S h Q else aW d 183 70 L S h Q) := ax_icmp_ge mt183 dX12_nextRow_61 (by decide)
theorem s183_64 : aW d 183 64 [l0, l1, l2, .int a, l4, l5, l6, l7] S h Q = aW d 183 67 [l0, l1, l2, .int (a + (-1)), l4, l5, l6, l7] S h Q := ax_iinc mt183 dX12_nextRow_64 rfl ic_m1 rfl
theorem s183_67 : aW d 183 67 L S h Q = aW d 183 49 L S h Q := ax_goto mt183 dX12_nextRow_67 (by decide)
theorem s183_70 : aW d 183 70 [.ref o, l1, l2, l3, l4, l5, l6, l7] S h Q = aW d 183 71 [.ref o, l1, l2, l3, l4, l5, l6, l7] (.ref o :: S) h Q := ax_aload_n mt183 dX12_nextRow_70 rfl
theorem s183_71 (hT : gT h o = some (14, 54)) : aW d 183 71 L (.ref o :: S) h Q = (isRf (gR h o 50) = true ∧ aW d 183 74 L (gR h o 50 :: S) h Q) := ax_geta mt183 dX12_nextRow_71 (by decide) ft_49268 fk_49268 hT
theorem s183_74 : aW d 183 74 [l0, l1, .int a, l3, l4, l5, l6, l7] S h Q = aW d 183 75 [l0, l1, .int a, l3, l4, l5, l6, l7] (.int a :: S) h Q := ax_iload_n mt183 dX12_nextRow_74 rfl
theorem s183_75 : aW d 183 75 L (.int a :: .ref o :: S) h Q = (inb a (aI h o) ∧ aW d 183 76 L (.int (gI h o a.toNatClampNeg) :: S) h Q) := ax_iald mt183 dX12_nextRow_75
theorem s183_76 : aW d 183 76 [l0, l1, l2, l3, l4, l5, l6, l7] (.int a :: S) h Q = aW d 183 78 [l0, l1, l2, l3, .int a, l5, l6, l7] S h Q := ax_istore mt183 dX12_nextRow_76 (Nat.le_of_ble_eq_true rfl) rfl
theorem s183_78 : aW d 183 78 [.ref o, l1, l2, l3, l4, l5, l6, l7] S h Q = aW d 183 79 [.ref o, l1, l2, l3, l4, l5, l6, l7] (.ref o :: S) h Q := ax_aload_n mt183 dX12_nextRow_78 rfl
theorem s183_79 (hT : gT h o = some (14, 54)) : aW d 183 79 L (.ref o :: S) h Q = (isRf (gR h o 50) = true ∧ aW d 183 82 L (gR h o 50 :: S) h Q) := ax_geta mt183 dX12_nextRow_79 (by decide) ft_49268 fk_49268 hT
theorem s183_82 : aW d 183 82 [l0, l1, .int a, l3, l4, l5, l6, l7] S h Q = aW d 183 83 [l0, l1, .int a, l3, l4, l5, l6, l7] (.int a :: S) h Q := ax_iload_n mt183 dX12_nextRow_82 rfl
theorem s183_83 : aW d 183 83 [.ref o, l1, l2, l3, l4, l5, l6, l7] S h Q = aW d 183 84 [.ref o, l1, l2, l3, l4, l5, l6, l7] (.ref o :: S) h Q := ax_aload_n mt183 dX12_nextRow_83 rfl
theorem s183_84 (hT : gT h o = some (14, 54)) : aW d 183 84 L (.ref o :: S) h Q = (isRf (gR h o 50) = true ∧ aW d 183 87 L (gR h o 50 :: S) h Q) := ax_geta mt183 dX12_nextRow_84 (by decide) ft_49268 fk_49268 hT
theorem s183_87 : aW d 183 87 [l0, l1, l2, .int a, l4, l5, l6, l7] S h Q = aW d 183 88 [l0, l1, l2, .int a, l4, l5, l6, l7] (.int a :: S) h Q := ax_iload_n mt183 dX12_nextRow_87 rfl
theorem s183_88 : aW d 183 88 L (.int a :: .ref o :: S) h Q = (inb a (aI h o) ∧ aW d 183 89 L (.int (gI h o a.toNatClampNeg) :: S) h Q) := ax_iald mt183 dX12_nextRow_88
theorem s183_89 : aW d 183 89 L (.int b :: .int a :: .ref o :: S) h Q = (inb a (aJ h o) ∧ aW d 183 90 L S (pI h o a.toNatClampNeg b) Q) := ax_iast mt183 dX12_nextRow_89
theorem s183_90 : aW d 183 90 [.ref o, l1, l2, l3, l4, l5, l6, l7] S h Q = aW d 183 91 [.ref o, l1, l2, l3, l4, l5, l6, l7] (.ref o :: S) h Q := ax_aload_n mt183 dX12_nextRow_90 rfl
theorem s183_91 (hT : gT h o = some (14, 54)) : aW d 183 91 L (.ref o :: S) h Q = (isRf (gR h o 50) = true ∧ aW d 183 94 L (gR h o 50 :: S) h Q) := ax_geta mt183 dX12_nextRow_91 (by decide) ft_49268 fk_49268 hT
theorem s183_94 : aW d 183 94 [l0, l1, l2, .int a, l4, l5, l6, l7] S h Q = aW d 183 95 [l0, l1, l2, .int a, l4, l5, l6, l7] (.int a :: S) h Q := ax_iload_n mt183 dX12_nextRow_94 rfl
theorem s183_95 : aW d 183 95 [l0, l1, l2, l3, .int a, l5, l6, l7] S h Q = aW d 183 97 [l0, l1, l2, l3, .int a, l5, l6, l7] (.int a :: S) h Q := ax_iload mt183 dX12_nextRow_95 rfl
theorem s183_97 : aW d 183 97 L (.int b :: .int a :: .ref o :: S) h Q = (inb a (aJ h o) ∧ aW d 183 98 L S (pI h o a.toNatClampNeg b) Q) := ax_iast mt183 dX12_nextRow_97
theorem s183_98 : aW d 183 98 [l0, .int a, l2, l3, l4, l5, l6, l7] S h Q = aW d 183 99 [l0, .int a, l2, l3, l4, l5, l6, l7] (.int a :: S) h Q := ax_iload_n mt183 dX12_nextRow_98 rfl
theorem s183_99 : aW d 183 99 L S h Q = aW d 183 100 L (.int (nI 1) :: S) h Q := ax_iconst mt183 dX12_nextRow_99 ic_1
theorem s183_100 : aW d 183 100 L (.int b :: .int a :: S) h Q = aW d 183 101 L (.int (a - b) :: S) h Q := ax_isub mt183 dX12_nextRow_100
theorem s183_101 : aW d 183 101 [l0, l1, l2, l3, l4, l5, l6, l7] (.int a :: S) h Q = aW d 183 103 [l0, l1, l2, l3, l4, .int a, l6, l7] S h Q := ax_istore mt183 dX12_nextRow_101 (Nat.le_of_ble_eq_true rfl) rfl
theorem s183_103 : aW d 183 103 [l0, l1, .int a, l3, l4, l5, l6, l7] S h Q = aW d 183 104 [l0, l1, .int a, l3, l4, l5, l6, l7] (.int a :: S) h Q := ax_iload_n mt183 dX12_nextRow_103 rfl
theorem s183_104 : aW d 183 104 L S h Q = aW d 183 105 L (.int (nI 1) :: S) h Q := ax_iconst mt183 dX12_nextRow_104 ic_1
theorem s183_105 : aW d 183 105 L (.int b :: .int a :: S) h Q = aW d 183 106 L (.int (a + b) :: S) h Q := ax_iadd mt183 dX12_nextRow_105
theorem s183_106 : aW d 183 106 [l0, l1, l2, l3, l4, l5, l6, l7] (.int a :: S) h Q = aW d 183 108 [l0, l1, l2, l3, l4, l5, .int a, l7] S h Q := ax_istore mt183 dX12_nextRow_106 (Nat.le_of_ble_eq_true rfl) rfl
theorem s183_108 : aW d 183 108 [l0, l1, l2, l3, l4, l5, .int a, l7] S h Q = aW d 183 110 [l0, l1, l2, l3, l4, l5, .int a, l7] (.int a :: S) h Q := ax_iload mt183 dX12_nextRow_108 rfl
theorem s183_110 : aW d 183 110 [l0, l1, l2, l3, l4, .int a, l6, l7] S h Q = aW d 183 112 [l0, l1, l2, l3, l4, .int a, l6, l7] (.int a :: S) h Q := ax_iload mt183 dX12_nextRow_110 rfl
theorem s183_112 : aW d 183 112 L (.int b :: .int a :: S) h Q = (if a < b then aW d 183 115 L S h Q else aW d 183 156 L S h Q) := ax_icmp_ge mt183 dX12_nextRow_112 (by decide)
theorem s183_115 : aW d 183 115 [.ref o, l1, l2, l3, l4, l5, l6, l7] S h Q = aW d 183 116 [.ref o, l1, l2, l3, l4, l5, l6, l7] (.ref o :: S) h Q := ax_aload_n mt183 dX12_nextRow_115 rfl
theorem s183_116 (hT : gT h o = some (14, 54)) : aW d 183 116 L (.ref o :: S) h Q = (isRf (gR h o 50) = true ∧ aW d 183 119 L (gR h o 50 :: S) h Q) := ax_geta mt183 dX12_nextRow_116 (by decide) ft_49268 fk_49268 hT
theorem s183_119 : aW d 183 119 [l0, l1, l2, l3, l4, l5, .int a, l7] S h Q = aW d 183 121 [l0, l1, l2, l3, l4, l5, .int a, l7] (.int a :: S) h Q := ax_iload mt183 dX12_nextRow_119 rfl
theorem s183_121 : aW d 183 121 L (.int a :: .ref o :: S) h Q = (inb a (aI h o) ∧ aW d 183 122 L (.int (gI h o a.toNatClampNeg) :: S) h Q) := ax_iald mt183 dX12_nextRow_121
theorem s183_122 : aW d 183 122 [l0, l1, l2, l3, l4, l5, l6, l7] (.int a :: S) h Q = aW d 183 124 [l0, l1, l2, l3, l4, l5, l6, .int a] S h Q := ax_istore mt183 dX12_nextRow_122 (Nat.le_of_ble_eq_true rfl) rfl
theorem s183_124 : aW d 183 124 [.ref o, l1, l2, l3, l4, l5, l6, l7] S h Q = aW d 183 125 [.ref o, l1, l2, l3, l4, l5, l6, l7] (.ref o :: S) h Q := ax_aload_n mt183 dX12_nextRow_124 rfl
theorem s183_125 (hT : gT h o = some (14, 54)) : aW d 183 125 L (.ref o :: S) h Q = (isRf (gR h o 50) = true ∧ aW d 183 128 L (gR h o 50 :: S) h Q) := ax_geta mt183 dX12_nextRow_125 (by decide) ft_49268 fk_49268 hT
theorem s183_128 : aW d 183 128 [l0, l1, l2, l3, l4, l5, .int a, l7] S h Q = aW d 183 130 [l0, l1, l2, l3, l4, l5, .int a, l7] (.int a :: S) h Q := ax_iload mt183 dX12_nextRow_128 rfl
theorem s183_130 : aW d 183 130 [.ref o, l1, l2, l3, l4, l5, l6, l7] S h Q = aW d 183 131 [.ref o, l1, l2, l3, l4, l5, l6, l7] (.ref o :: S) h Q := ax_aload_n mt183 dX12_nextRow_130 rfl
theorem s183_131 (hT : gT h o = some (14, 54)) : aW d 183 131 L (.ref o :: S) h Q = (isRf (gR h o 50) = true ∧ aW d 183 134 L (gR h o 50 :: S) h Q) := ax_geta mt183 dX12_nextRow_131 (by decide) ft_49268 fk_49268 hT
theorem s183_134 : aW d 183 134 [l0, l1, l2, l3, l4, .int a, l6, l7] S h Q = aW d 183 136 [l0, l1, l2, l3, l4, .int a, l6, l7] (.int a :: S) h Q := ax_iload mt183 dX12_nextRow_134 rfl
theorem s183_136 : aW d 183 136 L (.int a :: .ref o :: S) h Q = (inb a (aI h o) ∧ aW d 183 137 L (.int (gI h o a.toNatClampNeg) :: S) h Q) := ax_iald mt183 dX12_nextRow_136
theorem s183_137 : aW d 183 137 L (.int b :: .int a :: .ref o :: S) h Q = (inb a (aJ h o) ∧ aW d 183 138 L S (pI h o a.toNatClampNeg b) Q) := ax_iast mt183 dX12_nextRow_137
theorem s183_138 : aW d 183 138 [.ref o, l1, l2, l3, l4, l5, l6, l7] S h Q = aW d 183 139 [.ref o, l1, l2, l3, l4, l5, l6, l7] (.ref o :: S) h Q := ax_aload_n mt183 dX12_nextRow_138 rfl
theorem s183_139 (hT : gT h o = some (14, 54)) : aW d 183 139 L (.ref o :: S) h Q = (isRf (gR h o 50) = true ∧ aW d 183 142 L (gR h o 50 :: S) h Q) := ax_geta mt183 dX12_nextRow_139 (by decide) ft_49268 fk_49268 hT
theorem s183_142 : aW d 183 142 [l0, l1, l2, l3, l4, .int a, l6, l7] S h Q = aW d 183 144 [l0, l1, l2, l3, l4, .int a, l6, l7] (.int a :: S) h Q := ax_iload mt183 dX12_nextRow_142 rfl
theorem s183_144 : aW d 183 144 [l0, l1, l2, l3, l4, l5, l6, .int a] S h Q = aW d 183 146 [l0, l1, l2, l3, l4, l5, l6, .int a] (.int a :: S) h Q := ax_iload mt183 dX12_nextRow_144 rfl
theorem s183_146 : aW d 183 146 L (.int b :: .int a :: .ref o :: S) h Q = (inb a (aJ h o) ∧ aW d 183 147 L S (pI h o a.toNatClampNeg b) Q) := ax_iast mt183 dX12_nextRow_146
theorem s183_147 : aW d 183 147 [l0, l1, l2, l3, l4, .int a, l6, l7] S h Q = aW d 183 150 [l0, l1, l2, l3, l4, .int (a + (-1)), l6, l7] S h Q := ax_iinc mt183 dX12_nextRow_147 rfl ic_m1 rfl
theorem s183_150 : aW d 183 150 [l0, l1, l2, l3, l4, l5, .int a, l7] S h Q = aW d 183 153 [l0, l1, l2, l3, l4, l5, .int (a + nI 1), l7] S h Q := ax_iinc mt183 dX12_nextRow_150 rfl ic_1 rfl
theorem s183_153 : aW d 183 153 L S h Q = aW d 183 108 L S h Q := ax_goto mt183 dX12_nextRow_153 (by decide)
theorem s183_156 : aW d 183 156 L S h Q = aW d 183 157 L (.int (nI 1) :: S) h Q := ax_iconst mt183 dX12_nextRow_156 ic_1
theorem s183_157 : aW d 183 157 L [.int a] h Q = (b01 a ∧ Q (some (.int a)) h) := ax_retz mt183 dX12_nextRow_157 rfl
-- method 184: BufferRoomModel.barred(I)I
theorem dX12_barred_0 : decode cX12_barred 0 = .ok (.iload_n 1, 1) := by decide +kernel
theorem dX12_barred_1 : decode cX12_barred 1 = .ok (.iconst 0, 1) := by decide +kernel
theorem dX12_barred_2 : decode cX12_barred 2 = .ok (.iconst 3, 1) := by decide +kernel
theorem dX12_barred_3 : decode cX12_barred 3 = .ok (.invokestatic 125, 3) := by decide +kernel
theorem dX12_barred_6 : decode cX12_barred 6 = .ok (.ifCond .ne 6, 3) := by decide +kernel
theorem dX12_barred_9 : decode cX12_barred 9 = .ok (.bipush (-5), 2) := by decide +kernel
theorem dX12_barred_11 : decode cX12_barred 11 = .ok (.ireturn, 1) := by decide +kernel
theorem dX12_barred_12 : decode cX12_barred 12 = .ok (.aload_n 0, 1) := by decide +kernel
theorem dX12_barred_13 : decode cX12_barred 13 = .ok (.getfield 95, 3) := by decide +kernel
theorem dX12_barred_16 : decode cX12_barred 16 = .ok (.iload_n 1, 1) := by decide +kernel
theorem dX12_barred_17 : decode cX12_barred 17 = .ok (.iaload, 1) := by decide +kernel
theorem dX12_barred_18 : decode cX12_barred 18 = .ok (.iconst (-1), 1) := by decide +kernel
theorem dX12_barred_19 : decode cX12_barred 19 = .ok (.if_icmp .ne 6, 3) := by decide +kernel
theorem dX12_barred_22 : decode cX12_barred 22 = .ok (.bipush (-11), 2) := by decide +kernel
theorem dX12_barred_24 : decode cX12_barred 24 = .ok (.ireturn, 1) := by decide +kernel
theorem dX12_barred_25 : decode cX12_barred 25 = .ok (.aload_n 0, 1) := by decide +kernel
theorem dX12_barred_26 : decode cX12_barred 26 = .ok (.getfield 98, 3) := by decide +kernel
theorem dX12_barred_29 : decode cX12_barred 29 = .ok (.iload_n 1, 1) := by decide +kernel
theorem dX12_barred_30 : decode cX12_barred 30 = .ok (.iaload, 1) := by decide +kernel
theorem dX12_barred_31 : decode cX12_barred 31 = .ok (.bipush 6, 2) := by decide +kernel
theorem dX12_barred_33 : decode cX12_barred 33 = .ok (.if_icmp .le 6, 3) := by decide +kernel
theorem dX12_barred_36 : decode cX12_barred 36 = .ok (.bipush (-2), 2) := by decide +kernel
theorem dX12_barred_38 : decode cX12_barred 38 = .ok (.ireturn, 1) := by decide +kernel
theorem dX12_barred_39 : decode cX12_barred 39 = .ok (.iconst 0, 1) := by decide +kernel
theorem dX12_barred_40 : decode cX12_barred 40 = .ok (.istore_n 2, 1) := by decide +kernel
theorem dX12_barred_41 : decode cX12_barred 41 = .ok (.iload_n 2, 1) := by decide +kernel
theorem dX12_barred_42 : decode cX12_barred 42 = .ok (.aload_n 0, 1) := by decide +kernel
theorem dX12_barred_43 : decode cX12_barred 43 = .ok (.getfield 98, 3) := by decide +kernel
theorem dX12_barred_46 : decode cX12_barred 46 = .ok (.iload_n 1, 1) := by decide +kernel
theorem dX12_barred_47 : decode cX12_barred 47 = .ok (.iaload, 1) := by decide +kernel
theorem dX12_barred_48 : decode cX12_barred 48 = .ok (.if_icmp .ge 30, 3) := by decide +kernel
theorem dX12_barred_51 : decode cX12_barred 51 = .ok (.aload_n 0, 1) := by decide +kernel
theorem dX12_barred_52 : decode cX12_barred 52 = .ok (.aload_n 0, 1) := by decide +kernel
theorem dX12_barred_53 : decode cX12_barred 53 = .ok (.getfield 101, 3) := by decide +kernel
theorem dX12_barred_56 : decode cX12_barred 56 = .ok (.bipush 40, 2) := by decide +kernel
theorem dX12_barred_58 : decode cX12_barred 58 = .ok (.iload_n 1, 1) := by decide +kernel
theorem dX12_barred_59 : decode cX12_barred 59 = .ok (.imul, 1) := by decide +kernel
theorem dX12_barred_60 : decode cX12_barred 60 = .ok (.iload_n 2, 1) := by decide +kernel
theorem dX12_barred_61 : decode cX12_barred 61 = .ok (.iadd, 1) := by decide +kernel
theorem dX12_barred_62 : decode cX12_barred 62 = .ok (.iaload, 1) := by decide +kernel
theorem dX12_barred_63 : decode cX12_barred 63 = .ok (.invokevirtual 240, 3) := by decide +kernel
theorem dX12_barred_66 : decode cX12_barred 66 = .ok (.ifCond .ne 6, 3) := by decide +kernel
theorem dX12_barred_69 : decode cX12_barred 69 = .ok (.bipush (-2), 2) := by decide +kernel
theorem dX12_barred_71 : decode cX12_barred 71 = .ok (.ireturn, 1) := by decide +kernel
theorem dX12_barred_72 : decode cX12_barred 72 = .ok (.iinc 2 1, 3) := by decide +kernel
theorem dX12_barred_75 : decode cX12_barred 75 = .ok (.goto (-34), 3) := by decide +kernel
theorem dX12_barred_78 : decode cX12_barred 78 = .ok (.iconst 0, 1) := by decide +kernel
theorem dX12_barred_79 : decode cX12_barred 79 = .ok (.ireturn, 1) := by decide +kernel
theorem s184_0 : aW d 184 0 [l0, .int a, l2] S h Q = aW d 184 1 [l0, .int a, l2] (.int a :: S) h Q := ax_iload_n mt184 dX12_barred_0 rfl
theorem s184_1 : aW d 184 1 L S h Q = aW d 184 2 L (.int (nI 0) :: S) h Q := ax_iconst mt184 dX12_barred_1 ic_0
theorem s184_2 : aW d 184 2 L S h Q = aW d 184 3 L (.int (nI 3) :: S) h Q := ax_iconst mt184 dX12_barred_2 ic_3
theorem s184_3 : aW (d + 1) 184 3 L (.int x2 :: .int x1 :: .int x0 :: []) h Q = aM d 139 [.int x0, .int x1, .int x2] h (fun v h1 => aW (d + 1) 184 6 L (ab_ps v []) h1 Q) := ax_invs mt184 dX12_barred_3 (by decide) ct_49277 (.inl rfl) mt139 ⟨⟨Nat.le_of_ble_eq_true rfl, Nat.le_of_ble_eq_true rfl, Nat.le_of_ble_eq_true rfl⟩, rfl, rfl⟩
theorem s184_6 : aW d 184 6 L (.int a :: S) h Q = (if a = 0 then aW d 184 9 L S h Q else aW d 184 12 L S h Q) := ax_if_ne mt184 dX12_barred_6 (by decide)
theorem s184_9 : aW d 184 9 L S h Q = aW d 184 11 L (.int ((-5)) :: S) h Q := ax_bipush mt184 dX12_barred_9 bp_m5
theorem s184_11 : aW d 184 11 L [.int a] h Q = Q (some (.int a)) h := ax_reti mt184 dX12_barred_11 rfl
theorem s184_12 : aW d 184 12 [.ref o, l1, l2] S h Q = aW d 184 13 [.ref o, l1, l2] (.ref o :: S) h Q := ax_aload_n mt184 dX12_barred_12 rfl
theorem s184_13 (hT : gT h o = some (14, 54)) : aW d 184 13 L (.ref o :: S) h Q = (isRf (gR h o 42) = true ∧ aW d 184 16 L (gR h o 42 :: S) h Q) := ax_geta mt184 dX12_barred_13 (by decide) ft_49247 fk_49247 hT
theorem s184_16 : aW d 184 16 [l0, .int a, l2] S h Q = aW d 184 17 [l0, .int a, l2] (.int a :: S) h Q := ax_iload_n mt184 dX12_barred_16 rfl
theorem s184_17 : aW d 184 17 L (.int a :: .ref o :: S) h Q = (inb a (aI h o) ∧ aW d 184 18 L (.int (gI h o a.toNatClampNeg) :: S) h Q) := ax_iald mt184 dX12_barred_17
theorem s184_18 : aW d 184 18 L S h Q = aW d 184 19 L (.int ((-1)) :: S) h Q := ax_iconst mt184 dX12_barred_18 ic_m1
theorem s184_19 : aW d 184 19 L (.int b :: .int a :: S) h Q = (if a = b then aW d 184 22 L S h Q else aW d 184 25 L S h Q) := ax_icmp_ne mt184 dX12_barred_19 (by decide)
theorem s184_22 : aW d 184 22 L S h Q = aW d 184 24 L (.int ((-11)) :: S) h Q := ax_bipush mt184 dX12_barred_22 bp_m11
theorem s184_24 : aW d 184 24 L [.int a] h Q = Q (some (.int a)) h := ax_reti mt184 dX12_barred_24 rfl
theorem s184_25 : aW d 184 25 [.ref o, l1, l2] S h Q = aW d 184 26 [.ref o, l1, l2] (.ref o :: S) h Q := ax_aload_n mt184 dX12_barred_25 rfl
theorem s184_26 (hT : gT h o = some (14, 54)) : aW d 184 26 L (.ref o :: S) h Q = (isRf (gR h o 43) = true ∧ aW d 184 29 L (gR h o 43 :: S) h Q) := ax_geta mt184 dX12_barred_26 (by decide) ft_49250 fk_49250 hT
theorem s184_29 : aW d 184 29 [l0, .int a, l2] S h Q = aW d 184 30 [l0, .int a, l2] (.int a :: S) h Q := ax_iload_n mt184 dX12_barred_29 rfl
theorem s184_30 : aW d 184 30 L (.int a :: .ref o :: S) h Q = (inb a (aI h o) ∧ aW d 184 31 L (.int (gI h o a.toNatClampNeg) :: S) h Q) := ax_iald mt184 dX12_barred_30
theorem s184_31 : aW d 184 31 L S h Q = aW d 184 33 L (.int (nI 6) :: S) h Q := ax_bipush mt184 dX12_barred_31 bp_6
theorem s184_33 : aW d 184 33 L (.int b :: .int a :: S) h Q = (if b < a then aW d 184 36 L S h Q else aW d 184 39 L S h Q) := ax_icmp_le mt184 dX12_barred_33 (by decide)
theorem s184_36 : aW d 184 36 L S h Q = aW d 184 38 L (.int ((-2)) :: S) h Q := ax_bipush mt184 dX12_barred_36 bp_m2
theorem s184_38 : aW d 184 38 L [.int a] h Q = Q (some (.int a)) h := ax_reti mt184 dX12_barred_38 rfl
theorem s184_39 : aW d 184 39 L S h Q = aW d 184 40 L (.int (nI 0) :: S) h Q := ax_iconst mt184 dX12_barred_39 ic_0
theorem s184_40 : aW d 184 40 [l0, l1, l2] (.int a :: S) h Q = aW d 184 41 [l0, l1, .int a] S h Q := ax_istore_n mt184 dX12_barred_40 (Nat.le_of_ble_eq_true rfl) rfl
theorem s184_41 : aW d 184 41 [l0, l1, .int a] S h Q = aW d 184 42 [l0, l1, .int a] (.int a :: S) h Q := ax_iload_n mt184 dX12_barred_41 rfl
theorem s184_42 : aW d 184 42 [.ref o, l1, l2] S h Q = aW d 184 43 [.ref o, l1, l2] (.ref o :: S) h Q := ax_aload_n mt184 dX12_barred_42 rfl
theorem s184_43 (hT : gT h o = some (14, 54)) : aW d 184 43 L (.ref o :: S) h Q = (isRf (gR h o 43) = true ∧ aW d 184 46 L (gR h o 43 :: S) h Q) := ax_geta mt184 dX12_barred_43 (by decide) ft_49250 fk_49250 hT
theorem s184_46 : aW d 184 46 [l0, .int a, l2] S h Q = aW d 184 47 [l0, .int a, l2] (.int a :: S) h Q := ax_iload_n mt184 dX12_barred_46 rfl
theorem s184_47 : aW d 184 47 L (.int a :: .ref o :: S) h Q = (inb a (aI h o) ∧ aW d 184 48 L (.int (gI h o a.toNatClampNeg) :: S) h Q) := ax_iald mt184 dX12_barred_47
theorem s184_48 : aW d 184 48 L (.int b :: .int a :: S) h Q = (if a < b then aW d 184 51 L S h Q else aW d 184 78 L S h Q) := ax_icmp_ge mt184 dX12_barred_48 (by decide)
theorem s184_51 : aW d 184 51 [.ref o, l1, l2] S h Q = aW d 184 52 [.ref o, l1, l2] (.ref o :: S) h Q := ax_aload_n mt184 dX12_barred_51 rfl
theorem s184_52 : aW d 184 52 [.ref o, l1, l2] S h Q = aW d 184 53 [.ref o, l1, l2] (.ref o :: S) h Q := ax_aload_n mt184 dX12_barred_52 rfl
theorem s184_53 (hT : gT h o = some (14, 54)) : aW d 184 53 L (.ref o :: S) h Q = (isRf (gR h o 44) = true ∧ aW d 184 56 L (gR h o 44 :: S) h Q) := ax_geta mt184 dX12_barred_53 (by decide) ft_49253 fk_49253 hT
theorem s184_56 : aW d 184 56 L S h Q = aW d 184 58 L (.int (nI 40) :: S) h Q := ax_bipush mt184 dX12_barred_56 bp_40
theorem s184_58 : aW d 184 58 [l0, .int a, l2] S h Q = aW d 184 59 [l0, .int a, l2] (.int a :: S) h Q := ax_iload_n mt184 dX12_barred_58 rfl
theorem s184_59 : aW d 184 59 L (.int b :: .int a :: S) h Q = aW d 184 60 L (.int (a * b) :: S) h Q := ax_imul mt184 dX12_barred_59
theorem s184_60 : aW d 184 60 [l0, l1, .int a] S h Q = aW d 184 61 [l0, l1, .int a] (.int a :: S) h Q := ax_iload_n mt184 dX12_barred_60 rfl
theorem s184_61 : aW d 184 61 L (.int b :: .int a :: S) h Q = aW d 184 62 L (.int (a + b) :: S) h Q := ax_iadd mt184 dX12_barred_61
theorem s184_62 : aW d 184 62 L (.int a :: .ref o :: S) h Q = (inb a (aI h o) ∧ aW d 184 63 L (.int (gI h o a.toNatClampNeg) :: S) h Q) := ax_iald mt184 dX12_barred_62
theorem s184_63 (hT : gT h o = some (14, 54)) : aW (d + 1) 184 63 L (.int x0 :: .ref o :: []) h Q = aM d 153 (.ref o :: [.int x0]) h (fun v h1 => aW (d + 1) 184 66 L (ab_ps v []) h1 Q) := ax_invv mt184 dX12_barred_63 (by decide) ct_49392 (.inl rfl) mt153 ⟨⟨Nat.le_of_ble_eq_true rfl, Nat.le_of_ble_eq_true rfl, Nat.le_of_ble_eq_true rfl⟩, rfl, rfl, rfl⟩ hT
theorem s184_66 : aW d 184 66 L (.int a :: S) h Q = (if a = 0 then aW d 184 69 L S h Q else aW d 184 72 L S h Q) := ax_if_ne mt184 dX12_barred_66 (by decide)
theorem s184_69 : aW d 184 69 L S h Q = aW d 184 71 L (.int ((-2)) :: S) h Q := ax_bipush mt184 dX12_barred_69 bp_m2
theorem s184_71 : aW d 184 71 L [.int a] h Q = Q (some (.int a)) h := ax_reti mt184 dX12_barred_71 rfl
theorem s184_72 : aW d 184 72 [l0, l1, .int a] S h Q = aW d 184 75 [l0, l1, .int (a + nI 1)] S h Q := ax_iinc mt184 dX12_barred_72 rfl ic_1 rfl
theorem s184_75 : aW d 184 75 L S h Q = aW d 184 41 L S h Q := ax_goto mt184 dX12_barred_75 (by decide)
theorem s184_78 : aW d 184 78 L S h Q = aW d 184 79 L (.int (nI 0) :: S) h Q := ax_iconst mt184 dX12_barred_78 ic_0
theorem s184_79 : aW d 184 79 L [.int a] h Q = Q (some (.int a)) h := ax_reti mt184 dX12_barred_79 rfl
-- method 185: BufferRoomModel.height(I)I
theorem dX12_height_0 : decode cX12_height 0 = .ok (.aload_n 0, 1) := by decide +kernel
theorem dX12_height_1 : decode cX12_height 1 = .ok (.iload_n 1, 1) := by decide +kernel
theorem dX12_height_2 : decode cX12_height 2 = .ok (.invokevirtual 259, 3) := by decide +kernel
theorem dX12_height_5 : decode cX12_height 5 = .ok (.istore_n 2, 1) := by decide +kernel
theorem dX12_height_6 : decode cX12_height 6 = .ok (.iload_n 2, 1) := by decide +kernel
theorem dX12_height_7 : decode cX12_height 7 = .ok (.ifCond .eq 5, 3) := by decide +kernel
theorem dX12_height_10 : decode cX12_height 10 = .ok (.iload_n 2, 1) := by decide +kernel
theorem dX12_height_11 : decode cX12_height 11 = .ok (.ireturn, 1) := by decide +kernel
theorem dX12_height_12 : decode cX12_height 12 = .ok (.aload_n 0, 1) := by decide +kernel
theorem dX12_height_13 : decode cX12_height 13 = .ok (.invokevirtual 225, 3) := by decide +kernel
theorem dX12_height_16 : decode cX12_height 16 = .ok (.ifCond .ne 6, 3) := by decide +kernel
theorem dX12_height_19 : decode cX12_height 19 = .ok (.bipush (-3), 2) := by decide +kernel
theorem dX12_height_21 : decode cX12_height 21 = .ok (.ireturn, 1) := by decide +kernel
theorem dX12_height_22 : decode cX12_height 22 = .ok (.aload_n 0, 1) := by decide +kernel
theorem dX12_height_23 : decode cX12_height 23 = .ok (.getfield 98, 3) := by decide +kernel
theorem dX12_height_26 : decode cX12_height 26 = .ok (.iload_n 1, 1) := by decide +kernel
theorem dX12_height_27 : decode cX12_height 27 = .ok (.iaload, 1) := by decide +kernel
theorem dX12_height_28 : decode cX12_height 28 = .ok (.istore_n 3, 1) := by decide +kernel
theorem dX12_height_29 : decode cX12_height 29 = .ok (.iconst 0, 1) := by decide +kernel
theorem dX12_height_30 : decode cX12_height 30 = .ok (.istore 4, 2) := by decide +kernel
theorem dX12_height_32 : decode cX12_height 32 = .ok (.iload 4, 2) := by decide +kernel
theorem dX12_height_34 : decode cX12_height 34 = .ok (.iload_n 3, 1) := by decide +kernel
theorem dX12_height_35 : decode cX12_height 35 = .ok (.if_icmp .ge 18, 3) := by decide +kernel
theorem dX12_height_38 : decode cX12_height 38 = .ok (.aload_n 0, 1) := by decide +kernel
theorem dX12_height_39 : decode cX12_height 39 = .ok (.getfield 116, 3) := by decide +kernel
theorem dX12_height_42 : decode cX12_height 42 = .ok (.iload 4, 2) := by decide +kernel
theorem dX12_height_44 : decode cX12_height 44 = .ok (.iload 4, 2) := by decide +kernel
theorem dX12_height_46 : decode cX12_height 46 = .ok (.iastore, 1) := by decide +kernel
theorem dX12_height_47 : decode cX12_height 47 = .ok (.iinc 4 1, 3) := by decide +kernel
theorem dX12_height_50 : decode cX12_height 50 = .ok (.goto (-18), 3) := by decide +kernel
theorem dX12_height_53 : decode cX12_height 53 = .ok (.iconst (-1), 1) := by decide +kernel
theorem dX12_height_54 : decode cX12_height 54 = .ok (.istore 4, 2) := by decide +kernel
theorem dX12_height_56 : decode cX12_height 56 = .ok (.iconst 1, 1) := by decide +kernel
theorem dX12_height_57 : decode cX12_height 57 = .ok (.istore 5, 2) := by decide +kernel
theorem dX12_height_59 : decode cX12_height 59 = .ok (.iload 5, 2) := by decide +kernel
theorem dX12_height_61 : decode cX12_height 61 = .ok (.ifCond .eq 67, 3) := by decide +kernel
theorem dX12_height_64 : decode cX12_height 64 = .ok (.aload_n 0, 1) := by decide +kernel
theorem dX12_height_65 : decode cX12_height 65 = .ok (.iload_n 1, 1) := by decide +kernel
theorem dX12_height_66 : decode cX12_height 66 = .ok (.iload_n 3, 1) := by decide +kernel
theorem dX12_height_67 : decode cX12_height 67 = .ok (.invokevirtual 262, 3) := by decide +kernel
theorem dX12_height_70 : decode cX12_height 70 = .ok (.istore 6, 2) := by decide +kernel
theorem dX12_height_72 : decode cX12_height 72 = .ok (.iload 4, 2) := by decide +kernel
theorem dX12_height_74 : decode cX12_height 74 = .ok (.iconst (-1), 1) := by decide +kernel
theorem dX12_height_75 : decode cX12_height 75 = .ok (.if_icmp .eq 10, 3) := by decide +kernel
theorem dX12_height_78 : decode cX12_height 78 = .ok (.iload 6, 2) := by decide +kernel
theorem dX12_height_80 : decode cX12_height 80 = .ok (.iload 4, 2) := by decide +kernel
theorem dX12_height_82 : decode cX12_height 82 = .ok (.if_icmp .ge 36, 3) := by decide +kernel
theorem dX12_height_85 : decode cX12_height 85 = .ok (.iload 6, 2) := by decide +kernel
theorem dX12_height_87 : decode cX12_height 87 = .ok (.istore 4, 2) := by decide +kernel
theorem dX12_height_89 : decode cX12_height 89 = .ok (.iconst 0, 1) := by decide +kernel
theorem dX12_height_90 : decode cX12_height 90 = .ok (.istore 7, 2) := by decide +kernel
theorem dX12_height_92 : decode cX12_height 92 = .ok (.iload 7, 2) := by decide +kernel
theorem dX12_height_94 : decode cX12_height 94 = .ok (.iload_n 3, 1) := by decide +kernel
theorem dX12_height_95 : decode cX12_height 95 = .ok (.if_icmp .ge 23, 3) := by decide +kernel
theorem dX12_height_98 : decode cX12_height 98 = .ok (.aload_n 0, 1) := by decide +kernel
theorem dX12_height_99 : decode cX12_height 99 = .ok (.getfield 83, 3) := by decide +kernel
theorem dX12_height_102 : decode cX12_height 102 = .ok (.iload 7, 2) := by decide +kernel
theorem dX12_height_104 : decode cX12_height 104 = .ok (.aload_n 0, 1) := by decide +kernel
theorem dX12_height_105 : decode cX12_height 105 = .ok (.getfield 119, 3) := by decide +kernel
theorem dX12_height_108 : decode cX12_height 108 = .ok (.iload 7, 2) := by decide +kernel
theorem dX12_height_110 : decode cX12_height 110 = .ok (.iaload, 1) := by decide +kernel
theorem dX12_height_111 : decode cX12_height 111 = .ok (.iastore, 1) := by decide +kernel
theorem dX12_height_112 : decode cX12_height 112 = .ok (.iinc 7 1, 3) := by decide +kernel
theorem dX12_height_115 : decode cX12_height 115 = .ok (.goto (-23), 3) := by decide +kernel
theorem dX12_height_118 : decode cX12_height 118 = .ok (.aload_n 0, 1) := by decide +kernel
theorem dX12_height_119 : decode cX12_height 119 = .ok (.iload_n 3, 1) := by decide +kernel
theorem dX12_height_120 : decode cX12_height 120 = .ok (.invokevirtual 265, 3) := by decide +kernel
theorem dX12_height_123 : decode cX12_height 123 = .ok (.istore 5, 2) := by decide +kernel
theorem dX12_height_125 : decode cX12_height 125 = .ok (.goto (-66), 3) := by decide +kernel
theorem dX12_height_128 : decode cX12_height 128 = .ok (.aload_n 0, 1) := by decide +kernel
theorem dX12_height_129 : decode cX12_height 129 = .ok (.iload_n 3, 1) := by decide +kernel
theorem dX12_height_130 : decode cX12_height 130 = .ok (.putfield 268, 3) := by decide +kernel
theorem dX12_height_133 : decode cX12_height 133 = .ok (.iload 4, 2) := by decide +kernel
theorem dX12_height_135 : decode cX12_height 135 = .ok (.ireturn, 1) := by decide +kernel
theorem s185_0 : aW d 185 0 [.ref o, l1, l2, l3, l4, l5, l6, l7] S h Q = aW d 185 1 [.ref o, l1, l2, l3, l4, l5, l6, l7] (.ref o :: S) h Q := ax_aload_n mt185 dX12_height_0 rfl
theorem s185_1 : aW d 185 1 [l0, .int a, l2, l3, l4, l5, l6, l7] S h Q = aW d 185 2 [l0, .int a, l2, l3, l4, l5, l6, l7] (.int a :: S) h Q := ax_iload_n mt185 dX12_height_1 rfl
theorem s185_2 (hT : gT h o = some (14, 54)) : aW (d + 1) 185 2 L (.int x0 :: .ref o :: []) h Q = aM d 184 (.ref o :: [.int x0]) h (fun v h1 => aW (d + 1) 185 5 L (ab_ps v []) h1 Q) := ax_invv mt185 dX12_height_2 (by decide) ct_49411 (.inl rfl) mt184 ⟨⟨Nat.le_of_ble_eq_true rfl, Nat.le_of_ble_eq_true rfl, Nat.le_of_ble_eq_true rfl⟩, rfl, rfl, rfl⟩ hT
theorem s185_5 : aW d 185 5 [l0, l1, l2, l3, l4, l5, l6, l7] (.int a :: S) h Q = aW d 185 6 [l0, l1, .int a, l3, l4, l5, l6, l7] S h Q := ax_istore_n mt185 dX12_height_5 (Nat.le_of_ble_eq_true rfl) rfl
theorem s185_6 : aW d 185 6 [l0, l1, .int a, l3, l4, l5, l6, l7] S h Q = aW d 185 7 [l0, l1, .int a, l3, l4, l5, l6, l7] (.int a :: S) h Q := ax_iload_n mt185 dX12_height_6 rfl
theorem s185_7 : aW d 185 7 L (.int a :: S) h Q = (if a = 0 then aW d 185 12 L S h Q else aW d 185 10 L S h Q) := ax_if_eq mt185 dX12_height_7 (by decide)
theorem s185_10 : aW d 185 10 [l0, l1, .int a, l3, l4, l5, l6, l7] S h Q = aW d 185 11 [l0, l1, .int a, l3, l4, l5, l6, l7] (.int a :: S) h Q := ax_iload_n mt185 dX12_height_10 rfl
theorem s185_11 : aW d 185 11 L [.int a] h Q = Q (some (.int a)) h := ax_reti mt185 dX12_height_11 rfl
theorem s185_12 : aW d 185 12 [.ref o, l1, l2, l3, l4, l5, l6, l7] S h Q = aW d 185 13 [.ref o, l1, l2, l3, l4, l5, l6, l7] (.ref o :: S) h Q := ax_aload_n mt185 dX12_height_12 rfl
theorem s185_13 (hT : gT h o = some (14, 54)) : aW (d + 1) 185 13 L (.ref o :: []) h Q = aM d 163 (.ref o :: []) h (fun v h1 => aW (d + 1) 185 16 L (ab_ps v []) h1 Q) := ax_invv mt185 dX12_height_13 (by decide) ct_49377 (.inl rfl) mt163 ⟨⟨Nat.le_of_ble_eq_true rfl, Nat.le_of_ble_eq_true rfl, Nat.le_of_ble_eq_true rfl⟩, rfl, rfl, rfl⟩ hT
theorem s185_16 : aW d 185 16 L (.int a :: S) h Q = (if a = 0 then aW d 185 19 L S h Q else aW d 185 22 L S h Q) := ax_if_ne mt185 dX12_height_16 (by decide)
theorem s185_19 : aW d 185 19 L S h Q = aW d 185 21 L (.int ((-3)) :: S) h Q := ax_bipush mt185 dX12_height_19 bp_m3
theorem s185_21 : aW d 185 21 L [.int a] h Q = Q (some (.int a)) h := ax_reti mt185 dX12_height_21 rfl
theorem s185_22 : aW d 185 22 [.ref o, l1, l2, l3, l4, l5, l6, l7] S h Q = aW d 185 23 [.ref o, l1, l2, l3, l4, l5, l6, l7] (.ref o :: S) h Q := ax_aload_n mt185 dX12_height_22 rfl
theorem s185_23 (hT : gT h o = some (14, 54)) : aW d 185 23 L (.ref o :: S) h Q = (isRf (gR h o 43) = true ∧ aW d 185 26 L (gR h o 43 :: S) h Q) := ax_geta mt185 dX12_height_23 (by decide) ft_49250 fk_49250 hT
theorem s185_26 : aW d 185 26 [l0, .int a, l2, l3, l4, l5, l6, l7] S h Q = aW d 185 27 [l0, .int a, l2, l3, l4, l5, l6, l7] (.int a :: S) h Q := ax_iload_n mt185 dX12_height_26 rfl
theorem s185_27 : aW d 185 27 L (.int a :: .ref o :: S) h Q = (inb a (aI h o) ∧ aW d 185 28 L (.int (gI h o a.toNatClampNeg) :: S) h Q) := ax_iald mt185 dX12_height_27
theorem s185_28 : aW d 185 28 [l0, l1, l2, l3, l4, l5, l6, l7] (.int a :: S) h Q = aW d 185 29 [l0, l1, l2, .int a, l4, l5, l6, l7] S h Q := ax_istore_n mt185 dX12_height_28 (Nat.le_of_ble_eq_true rfl) rfl
theorem s185_29 : aW d 185 29 L S h Q = aW d 185 30 L (.int (nI 0) :: S) h Q := ax_iconst mt185 dX12_height_29 ic_0
theorem s185_30 : aW d 185 30 [l0, l1, l2, l3, l4, l5, l6, l7] (.int a :: S) h Q = aW d 185 32 [l0, l1, l2, l3, .int a, l5, l6, l7] S h Q := ax_istore mt185 dX12_height_30 (Nat.le_of_ble_eq_true rfl) rfl
theorem s185_32 : aW d 185 32 [l0, l1, l2, l3, .int a, l5, l6, l7] S h Q = aW d 185 34 [l0, l1, l2, l3, .int a, l5, l6, l7] (.int a :: S) h Q := ax_iload mt185 dX12_height_32 rfl
theorem s185_34 : aW d 185 34 [l0, l1, l2, .int a, l4, l5, l6, l7] S h Q = aW d 185 35 [l0, l1, l2, .int a, l4, l5, l6, l7] (.int a :: S) h Q := ax_iload_n mt185 dX12_height_34 rfl
theorem s185_35 : aW d 185 35 L (.int b :: .int a :: S) h Q = (if a < b then aW d 185 38 L S h Q else aW d 185 53 L S h Q) := ax_icmp_ge mt185 dX12_height_35 (by decide)
theorem s185_38 : aW d 185 38 [.ref o, l1, l2, l3, l4, l5, l6, l7] S h Q = aW d 185 39 [.ref o, l1, l2, l3, l4, l5, l6, l7] (.ref o :: S) h Q := ax_aload_n mt185 dX12_height_38 rfl
theorem s185_39 (hT : gT h o = some (14, 54)) : aW d 185 39 L (.ref o :: S) h Q = (isRf (gR h o 50) = true ∧ aW d 185 42 L (gR h o 50 :: S) h Q) := ax_geta mt185 dX12_height_39 (by decide) ft_49268 fk_49268 hT
theorem s185_42 : aW d 185 42 [l0, l1, l2, l3, .int a, l5, l6, l7] S h Q = aW d 185 44 [l0, l1, l2, l3, .int a, l5, l6, l7] (.int a :: S) h Q := ax_iload mt185 dX12_height_42 rfl
theorem s185_44 : aW d 185 44 [l0, l1, l2, l3, .int a, l5, l6, l7] S h Q = aW d 185 46 [l0, l1, l2, l3, .int a, l5, l6, l7] (.int a :: S) h Q := ax_iload mt185 dX12_height_44 rfl
theorem s185_46 : aW d 185 46 L (.int b :: .int a :: .ref o :: S) h Q = (inb a (aJ h o) ∧ aW d 185 47 L S (pI h o a.toNatClampNeg b) Q) := ax_iast mt185 dX12_height_46
theorem s185_47 : aW d 185 47 [l0, l1, l2, l3, .int a, l5, l6, l7] S h Q = aW d 185 50 [l0, l1, l2, l3, .int (a + nI 1), l5, l6, l7] S h Q := ax_iinc mt185 dX12_height_47 rfl ic_1 rfl
theorem s185_50 : aW d 185 50 L S h Q = aW d 185 32 L S h Q := ax_goto mt185 dX12_height_50 (by decide)
theorem s185_53 : aW d 185 53 L S h Q = aW d 185 54 L (.int ((-1)) :: S) h Q := ax_iconst mt185 dX12_height_53 ic_m1
theorem s185_54 : aW d 185 54 [l0, l1, l2, l3, l4, l5, l6, l7] (.int a :: S) h Q = aW d 185 56 [l0, l1, l2, l3, .int a, l5, l6, l7] S h Q := ax_istore mt185 dX12_height_54 (Nat.le_of_ble_eq_true rfl) rfl
theorem s185_56 : aW d 185 56 L S h Q = aW d 185 57 L (.int (nI 1) :: S) h Q := ax_iconst mt185 dX12_height_56 ic_1
theorem s185_57 : aW d 185 57 [l0, l1, l2, l3, l4, l5, l6, l7] (.int a :: S) h Q = aW d 185 59 [l0, l1, l2, l3, l4, .int a, l6, l7] S h Q := ax_istore mt185 dX12_height_57 (Nat.le_of_ble_eq_true rfl) rfl
theorem s185_59 : aW d 185 59 [l0, l1, l2, l3, l4, .int a, l6, l7] S h Q = aW d 185 61 [l0, l1, l2, l3, l4, .int a, l6, l7] (.int a :: S) h Q := ax_iload mt185 dX12_height_59 rfl
theorem s185_61 : aW d 185 61 L (.int a :: S) h Q = (if a = 0 then aW d 185 128 L S h Q else aW d 185 64 L S h Q) := ax_if_eq mt185 dX12_height_61 (by decide)
theorem s185_64 : aW d 185 64 [.ref o, l1, l2, l3, l4, l5, l6, l7] S h Q = aW d 185 65 [.ref o, l1, l2, l3, l4, l5, l6, l7] (.ref o :: S) h Q := ax_aload_n mt185 dX12_height_64 rfl
theorem s185_65 : aW d 185 65 [l0, .int a, l2, l3, l4, l5, l6, l7] S h Q = aW d 185 66 [l0, .int a, l2, l3, l4, l5, l6, l7] (.int a :: S) h Q := ax_iload_n mt185 dX12_height_65 rfl
theorem s185_66 : aW d 185 66 [l0, l1, l2, .int a, l4, l5, l6, l7] S h Q = aW d 185 67 [l0, l1, l2, .int a, l4, l5, l6, l7] (.int a :: S) h Q := ax_iload_n mt185 dX12_height_66 rfl
theorem s185_67 (hT : gT h o = some (14, 54)) : aW (d + 1) 185 67 L (.int x1 :: .int x0 :: .ref o :: []) h Q = aM d 182 (.ref o :: [.int x0, .int x1]) h (fun v h1 => aW (d + 1) 185 70 L (ab_ps v []) h1 Q) := ax_invv mt185 dX12_height_67 (by decide) ct_49414 (.inl rfl) mt182 ⟨⟨Nat.le_of_ble_eq_true rfl, Nat.le_of_ble_eq_true rfl, Nat.le_of_ble_eq_true rfl⟩, rfl, rfl, rfl⟩ hT
theorem s185_70 : aW d 185 70 [l0, l1, l2, l3, l4, l5, l6, l7] (.int a :: S) h Q = aW d 185 72 [l0, l1, l2, l3, l4, l5, .int a, l7] S h Q := ax_istore mt185 dX12_height_70 (Nat.le_of_ble_eq_true rfl) rfl
theorem s185_72 : aW d 185 72 [l0, l1, l2, l3, .int a, l5, l6, l7] S h Q = aW d 185 74 [l0, l1, l2, l3, .int a, l5, l6, l7] (.int a :: S) h Q := ax_iload mt185 dX12_height_72 rfl
theorem s185_74 : aW d 185 74 L S h Q = aW d 185 75 L (.int ((-1)) :: S) h Q := ax_iconst mt185 dX12_height_74 ic_m1
theorem s185_75 : aW d 185 75 L (.int b :: .int a :: S) h Q = (if a = b then aW d 185 85 L S h Q else aW d 185 78 L S h Q) := ax_icmp_eq mt185 dX12_height_75 (by decide)
theorem s185_78 : aW d 185 78 [l0, l1, l2, l3, l4, l5, .int a, l7] S h Q = aW d 185 80 [l0, l1, l2, l3, l4, l5, .int a, l7] (.int a :: S) h Q := ax_iload mt185 dX12_height_78 rfl
theorem s185_80 : aW d 185 80 [l0, l1, l2, l3, .int a, l5, l6, l7] S h Q = aW d 185 82 [l0, l1, l2, l3, .int a, l5, l6, l7] (.int a :: S) h Q := ax_iload mt185 dX12_height_80 rfl
theorem s185_82 : aW d 185 82 L (.int b :: .int a :: S) h Q = (if a < b then aW d 185 85 L S h Q else aW d 185 118 L S h Q) := ax_icmp_ge mt185 dX12_height_82 (by decide)
theorem s185_118 : aW d 185 118 [.ref o, l1, l2, l3, l4, l5, l6, l7] S h Q = aW d 185 119 [.ref o, l1, l2, l3, l4, l5, l6, l7] (.ref o :: S) h Q := ax_aload_n mt185 dX12_height_118 rfl
theorem s185_119 : aW d 185 119 [l0, l1, l2, .int a, l4, l5, l6, l7] S h Q = aW d 185 120 [l0, l1, l2, .int a, l4, l5, l6, l7] (.int a :: S) h Q := ax_iload_n mt185 dX12_height_119 rfl
theorem s185_120 (hT : gT h o = some (14, 54)) : aW (d + 1) 185 120 L (.int x0 :: .ref o :: []) h Q = aM d 183 (.ref o :: [.int x0]) h (fun v h1 => aW (d + 1) 185 123 L (ab_ps v []) h1 Q) := ax_invv mt185 dX12_height_120 (by decide) ct_49417 (.inl rfl) mt183 ⟨⟨Nat.le_of_ble_eq_true rfl, Nat.le_of_ble_eq_true rfl, Nat.le_of_ble_eq_true rfl⟩, rfl, rfl, rfl⟩ hT
theorem s185_123 : aW d 185 123 [l0, l1, l2, l3, l4, l5, l6, l7] (.int a :: S) h Q = aW d 185 125 [l0, l1, l2, l3, l4, .int a, l6, l7] S h Q := ax_istore mt185 dX12_height_123 (Nat.le_of_ble_eq_true rfl) rfl
theorem s185_125 : aW d 185 125 L S h Q = aW d 185 59 L S h Q := ax_goto mt185 dX12_height_125 (by decide)
theorem s185_85 : aW d 185 85 [l0, l1, l2, l3, l4, l5, .int a, l7] S h Q = aW d 185 87 [l0, l1, l2, l3, l4, l5, .int a, l7] (.int a :: S) h Q := ax_iload mt185 dX12_height_85 rfl
theorem s185_87 : aW d 185 87 [l0, l1, l2, l3, l4, l5, l6, l7] (.int a :: S) h Q = aW d 185 89 [l0, l1, l2, l3, .int a, l5, l6, l7] S h Q := ax_istore mt185 dX12_height_87 (Nat.le_of_ble_eq_true rfl) rfl
theorem s185_89 : aW d 185 89 L S h Q = aW d 185 90 L (.int (nI 0) :: S) h Q := ax_iconst mt185 dX12_height_89 ic_0
theorem s185_90 : aW d 185 90 [l0, l1, l2, l3, l4, l5, l6, l7] (.int a :: S) h Q = aW d 185 92 [l0, l1, l2, l3, l4, l5, l6, .int a] S h Q := ax_istore mt185 dX12_height_90 (Nat.le_of_ble_eq_true rfl) rfl
theorem s185_92 : aW d 185 92 [l0, l1, l2, l3, l4, l5, l6, .int a] S h Q = aW d 185 94 [l0, l1, l2, l3, l4, l5, l6, .int a] (.int a :: S) h Q := ax_iload mt185 dX12_height_92 rfl
theorem s185_94 : aW d 185 94 [l0, l1, l2, .int a, l4, l5, l6, l7] S h Q = aW d 185 95 [l0, l1, l2, .int a, l4, l5, l6, l7] (.int a :: S) h Q := ax_iload_n mt185 dX12_height_94 rfl
theorem s185_95 : aW d 185 95 L (.int b :: .int a :: S) h Q = (if a < b then aW d 185 98 L S h Q else aW d 185 118 L S h Q) := ax_icmp_ge mt185 dX12_height_95 (by decide)
theorem s185_98 : aW d 185 98 [.ref o, l1, l2, l3, l4, l5, l6, l7] S h Q = aW d 185 99 [.ref o, l1, l2, l3, l4, l5, l6, l7] (.ref o :: S) h Q := ax_aload_n mt185 dX12_height_98 rfl
theorem s185_99 (hT : gT h o = some (14, 54)) : aW d 185 99 L (.ref o :: S) h Q = (isRf (gR h o 31) = true ∧ aW d 185 102 L (gR h o 31 :: S) h Q) := ax_geta mt185 dX12_height_99 (by decide) ft_49235 fk_49235 hT
theorem s185_102 : aW d 185 102 [l0, l1, l2, l3, l4, l5, l6, .int a] S h Q = aW d 185 104 [l0, l1, l2, l3, l4, l5, l6, .int a] (.int a :: S) h Q := ax_iload mt185 dX12_height_102 rfl
theorem s185_104 : aW d 185 104 [.ref o, l1, l2, l3, l4, l5, l6, l7] S h Q = aW d 185 105 [.ref o, l1, l2, l3, l4, l5, l6, l7] (.ref o :: S) h Q := ax_aload_n mt185 dX12_height_104 rfl
theorem s185_105 (hT : gT h o = some (14, 54)) : aW d 185 105 L (.ref o :: S) h Q = (isRf (gR h o 51) = true ∧ aW d 185 108 L (gR h o 51 :: S) h Q) := ax_geta mt185 dX12_height_105 (by decide) ft_49271 fk_49271 hT
theorem s185_108 : aW d 185 108 [l0, l1, l2, l3, l4, l5, l6, .int a] S h Q = aW d 185 110 [l0, l1, l2, l3, l4, l5, l6, .int a] (.int a :: S) h Q := ax_iload mt185 dX12_height_108 rfl
theorem s185_110 : aW d 185 110 L (.int a :: .ref o :: S) h Q = (inb a (aI h o) ∧ aW d 185 111 L (.int (gI h o a.toNatClampNeg) :: S) h Q) := ax_iald mt185 dX12_height_110
theorem s185_111 : aW d 185 111 L (.int b :: .int a :: .ref o :: S) h Q = (inb a (aJ h o) ∧ aW d 185 112 L S (pI h o a.toNatClampNeg b) Q) := ax_iast mt185 dX12_height_111
theorem s185_112 : aW d 185 112 [l0, l1, l2, l3, l4, l5, l6, .int a] S h Q = aW d 185 115 [l0, l1, l2, l3, l4, l5, l6, .int (a + nI 1)] S h Q := ax_iinc mt185 dX12_height_112 rfl ic_1 rfl
theorem s185_115 : aW d 185 115 L S h Q = aW d 185 92 L S h Q := ax_goto mt185 dX12_height_115 (by decide)
theorem s185_128 : aW d 185 128 [.ref o, l1, l2, l3, l4, l5, l6, l7] S h Q = aW d 185 129 [.ref o, l1, l2, l3, l4, l5, l6, l7] (.ref o :: S) h Q := ax_aload_n mt185 dX12_height_128 rfl
theorem s185_129 : aW d 185 129 [l0, l1, l2, .int a, l4, l5, l6, l7] S h Q = aW d 185 130 [l0, l1, l2, .int a, l4, l5, l6, l7] (.int a :: S) h Q := ax_iload_n mt185 dX12_height_129 rfl
theorem s185_130 (hT : gT h o = some (14, 54)) : aW d 185 130 L (.int a :: .ref o :: S) h Q = aW d 185 133 L S (pI h o 30 a) Q := ax_puti mt185 dX12_height_130 (by decide) ft_49420 (fun q => fn_49420 q.1) fp_49420 hT
theorem s185_133 : aW d 185 133 [l0, l1, l2, l3, .int a, l5, l6, l7] S h Q = aW d 185 135 [l0, l1, l2, l3, .int a, l5, l6, l7] (.int a :: S) h Q := ax_iload mt185 dX12_height_133 rfl
theorem s185_135 : aW d 185 135 L [.int a] h Q = Q (some (.int a)) h := ax_reti mt185 dX12_height_135 rfl
-- method 186: BufferRoomModel.heightAt(I)I
theorem dX12_heightAt_0 : decode cX12_heightAt 0 = .ok (.iload_n 1, 1) := by decide +kernel
theorem dX12_heightAt_1 : decode cX12_heightAt 1 = .ok (.iconst 0, 1) := by decide +kernel
theorem dX12_heightAt_2 : decode cX12_heightAt 2 = .ok (.aload_n 0, 1) := by decide +kernel
theorem dX12_heightAt_3 : decode cX12_heightAt 3 = .ok (.getfield 268, 3) := by decide +kernel
theorem dX12_heightAt_6 : decode cX12_heightAt 6 = .ok (.iconst 1, 1) := by decide +kernel
theorem dX12_heightAt_7 : decode cX12_heightAt 7 = .ok (.isub, 1) := by decide +kernel
theorem dX12_heightAt_8 : decode cX12_heightAt 8 = .ok (.invokestatic 125, 3) := by decide +kernel
theorem dX12_heightAt_11 : decode cX12_heightAt 11 = .ok (.ifCond .eq 12, 3) := by decide +kernel
theorem dX12_heightAt_14 : decode cX12_heightAt 14 = .ok (.aload_n 0, 1) := by decide +kernel
theorem dX12_heightAt_15 : decode cX12_heightAt 15 = .ok (.getfield 83, 3) := by decide +kernel
theorem dX12_heightAt_18 : decode cX12_heightAt 18 = .ok (.iload_n 1, 1) := by decide +kernel
theorem dX12_heightAt_19 : decode cX12_heightAt 19 = .ok (.iaload, 1) := by decide +kernel
theorem dX12_heightAt_20 : decode cX12_heightAt 20 = .ok (.goto 5, 3) := by decide +kernel
theorem dX12_heightAt_23 : decode cX12_heightAt 23 = .ok (.bipush (-5), 2) := by decide +kernel
theorem dX12_heightAt_25 : decode cX12_heightAt 25 = .ok (.ireturn, 1) := by decide +kernel
theorem s186_0 : aW d 186 0 [l0, .int a] S h Q = aW d 186 1 [l0, .int a] (.int a :: S) h Q := ax_iload_n mt186 dX12_heightAt_0 rfl
theorem s186_1 : aW d 186 1 L S h Q = aW d 186 2 L (.int (nI 0) :: S) h Q := ax_iconst mt186 dX12_heightAt_1 ic_0
theorem s186_2 : aW d 186 2 [.ref o, l1] S h Q = aW d 186 3 [.ref o, l1] (.ref o :: S) h Q := ax_aload_n mt186 dX12_heightAt_2 rfl
theorem s186_3 (hT : gT h o = some (14, 54)) : aW d 186 3 L (.ref o :: S) h Q = aW d 186 6 L (.int (gI h o 30) :: S) h Q := ax_geti mt186 dX12_heightAt_3 (by decide) ft_49420 fk_49420 hT
theorem s186_6 : aW d 186 6 L S h Q = aW d 186 7 L (.int (nI 1) :: S) h Q := ax_iconst mt186 dX12_heightAt_6 ic_1
theorem s186_7 : aW d 186 7 L (.int b :: .int a :: S) h Q = aW d 186 8 L (.int (a - b) :: S) h Q := ax_isub mt186 dX12_heightAt_7
theorem s186_8 : aW (d + 1) 186 8 L (.int x2 :: .int x1 :: .int x0 :: []) h Q = aM d 139 [.int x0, .int x1, .int x2] h (fun v h1 => aW (d + 1) 186 11 L (ab_ps v []) h1 Q) := ax_invs mt186 dX12_heightAt_8 (by decide) ct_49277 (.inl rfl) mt139 ⟨⟨Nat.le_of_ble_eq_true rfl, Nat.le_of_ble_eq_true rfl, Nat.le_of_ble_eq_true rfl⟩, rfl, rfl⟩
theorem s186_11 : aW d 186 11 L (.int a :: S) h Q = (if a = 0 then aW d 186 23 L S h Q else aW d 186 14 L S h Q) := ax_if_eq mt186 dX12_heightAt_11 (by decide)
theorem s186_14 : aW d 186 14 [.ref o, l1] S h Q = aW d 186 15 [.ref o, l1] (.ref o :: S) h Q := ax_aload_n mt186 dX12_heightAt_14 rfl
theorem s186_15 (hT : gT h o = some (14, 54)) : aW d 186 15 L (.ref o :: S) h Q = (isRf (gR h o 31) = true ∧ aW d 186 18 L (gR h o 31 :: S) h Q) := ax_geta mt186 dX12_heightAt_15 (by decide) ft_49235 fk_49235 hT
theorem s186_18 : aW d 186 18 [l0, .int a] S h Q = aW d 186 19 [l0, .int a] (.int a :: S) h Q := ax_iload_n mt186 dX12_heightAt_18 rfl
theorem s186_19 : aW d 186 19 L (.int a :: .ref o :: S) h Q = (inb a (aI h o) ∧ aW d 186 20 L (.int (gI h o a.toNatClampNeg) :: S) h Q) := ax_iald mt186 dX12_heightAt_19
theorem s186_20 : aW d 186 20 L S h Q = aW d 186 25 L S h Q := ax_goto mt186 dX12_heightAt_20 (by decide)
theorem s186_25 : aW d 186 25 L [.int a] h Q = Q (some (.int a)) h := ax_reti mt186 dX12_heightAt_25 rfl
theorem s186_23 : aW d 186 23 L S h Q = aW d 186 25 L (.int ((-5)) :: S) h Q := ax_bipush mt186 dX12_heightAt_23 bp_m5
-- method 187: BufferRoomModel.lay(II)I
theorem dX12_lay_0 : decode cX12_lay 0 = .ok (.aload_n 0, 1) := by decide +kernel
theorem dX12_lay_1 : decode cX12_lay 1 = .ok (.iload_n 1, 1) := by decide +kernel
theorem dX12_lay_2 : decode cX12_lay 2 = .ok (.invokevirtual 240, 3) := by decide +kernel
theorem dX12_lay_5 : decode cX12_lay 5 = .ok (.ifCond .ne 6, 3) := by decide +kernel
theorem dX12_lay_8 : decode cX12_lay 8 = .ok (.bipush (-5), 2) := by decide +kernel
theorem dX12_lay_10 : decode cX12_lay 10 = .ok (.ireturn, 1) := by decide +kernel
theorem dX12_lay_11 : decode cX12_lay 11 = .ok (.iload_n 2, 1) := by decide +kernel
theorem dX12_lay_12 : decode cX12_lay 12 = .ok (.iconst (-1), 1) := by decide +kernel
theorem dX12_lay_13 : decode cX12_lay 13 = .ok (.ldc_w 271, 3) := by decide +kernel
theorem dX12_lay_16 : decode cX12_lay 16 = .ok (.invokestatic 125, 3) := by decide +kernel
theorem dX12_lay_19 : decode cX12_lay 19 = .ok (.ifCond .ne 6, 3) := by decide +kernel
theorem dX12_lay_22 : decode cX12_lay 22 = .ok (.bipush (-2), 2) := by decide +kernel
theorem dX12_lay_24 : decode cX12_lay 24 = .ok (.ireturn, 1) := by decide +kernel
theorem dX12_lay_25 : decode cX12_lay 25 = .ok (.aload_n 0, 1) := by decide +kernel
theorem dX12_lay_26 : decode cX12_lay 26 = .ok (.getfield 80, 3) := by decide +kernel
theorem dX12_lay_29 : decode cX12_lay 29 = .ok (.iload_n 1, 1) := by decide +kernel
theorem dX12_lay_30 : decode cX12_lay 30 = .ok (.iaload, 1) := by decide +kernel
theorem dX12_lay_31 : decode cX12_lay 31 = .ok (.istore_n 3, 1) := by decide +kernel
theorem dX12_lay_32 : decode cX12_lay 32 = .ok (.aload_n 0, 1) := by decide +kernel
theorem dX12_lay_33 : decode cX12_lay 33 = .ok (.getfield 80, 3) := by decide +kernel
theorem dX12_lay_36 : decode cX12_lay 36 = .ok (.iload_n 1, 1) := by decide +kernel
theorem dX12_lay_37 : decode cX12_lay 37 = .ok (.iload_n 2, 1) := by decide +kernel
theorem dX12_lay_38 : decode cX12_lay 38 = .ok (.iastore, 1) := by decide +kernel
theorem dX12_lay_39 : decode cX12_lay 39 = .ok (.iload_n 3, 1) := by decide +kernel
theorem dX12_lay_40 : decode cX12_lay 40 = .ok (.ireturn, 1) := by decide +kernel
theorem s187_0 : aW d 187 0 [.ref o, l1, l2, l3] S h Q = aW d 187 1 [.ref o, l1, l2, l3] (.ref o :: S) h Q := ax_aload_n mt187 dX12_lay_0 rfl
theorem s187_1 : aW d 187 1 [l0, .int a, l2, l3] S h Q = aW d 187 2 [l0, .int a, l2, l3] (.int a :: S) h Q := ax_iload_n mt187 dX12_lay_1 rfl
theorem s187_2 (hT : gT h o = some (14, 54)) : aW (d + 1) 187 2 L (.int x0 :: .ref o :: []) h Q = aM d 153 (.ref o :: [.int x0]) h (fun v h1 => aW (d + 1) 187 5 L (ab_ps v []) h1 Q) := ax_invv mt187 dX12_lay_2 (by decide) ct_49392 (.inl rfl) mt153 ⟨⟨Nat.le_of_ble_eq_true rfl, Nat.le_of_ble_eq_true rfl, Nat.le_of_ble_eq_true rfl⟩, rfl, rfl, rfl⟩ hT
theorem s187_5 : aW d 187 5 L (.int a :: S) h Q = (if a = 0 then aW d 187 8 L S h Q else aW d 187 11 L S h Q) := ax_if_ne mt187 dX12_lay_5 (by decide)
theorem s187_8 : aW d 187 8 L S h Q = aW d 187 10 L (.int ((-5)) :: S) h Q := ax_bipush mt187 dX12_lay_8 bp_m5
theorem s187_10 : aW d 187 10 L [.int a] h Q = Q (some (.int a)) h := ax_reti mt187 dX12_lay_10 rfl
theorem s187_11 : aW d 187 11 [l0, l1, .int a, l3] S h Q = aW d 187 12 [l0, l1, .int a, l3] (.int a :: S) h Q := ax_iload_n mt187 dX12_lay_11 rfl
theorem s187_12 : aW d 187 12 L S h Q = aW d 187 13 L (.int ((-1)) :: S) h Q := ax_iconst mt187 dX12_lay_12 ic_m1
theorem s187_13 : aW d 187 13 L S h Q = aW d 187 16 L (.int 99999 :: S) h Q := ax_ldc_w mt187 dX12_lay_13 (by decide) kt_49423
theorem s187_16 : aW (d + 1) 187 16 L (.int x2 :: .int x1 :: .int x0 :: []) h Q = aM d 139 [.int x0, .int x1, .int x2] h (fun v h1 => aW (d + 1) 187 19 L (ab_ps v []) h1 Q) := ax_invs mt187 dX12_lay_16 (by decide) ct_49277 (.inl rfl) mt139 ⟨⟨Nat.le_of_ble_eq_true rfl, Nat.le_of_ble_eq_true rfl, Nat.le_of_ble_eq_true rfl⟩, rfl, rfl⟩
theorem s187_19 : aW d 187 19 L (.int a :: S) h Q = (if a = 0 then aW d 187 22 L S h Q else aW d 187 25 L S h Q) := ax_if_ne mt187 dX12_lay_19 (by decide)
theorem s187_22 : aW d 187 22 L S h Q = aW d 187 24 L (.int ((-2)) :: S) h Q := ax_bipush mt187 dX12_lay_22 bp_m2
theorem s187_24 : aW d 187 24 L [.int a] h Q = Q (some (.int a)) h := ax_reti mt187 dX12_lay_24 rfl
theorem s187_25 : aW d 187 25 [.ref o, l1, l2, l3] S h Q = aW d 187 26 [.ref o, l1, l2, l3] (.ref o :: S) h Q := ax_aload_n mt187 dX12_lay_25 rfl
theorem s187_26 (hT : gT h o = some (14, 54)) : aW d 187 26 L (.ref o :: S) h Q = (isRf (gR h o 28) = true ∧ aW d 187 29 L (gR h o 28 :: S) h Q) := ax_geta mt187 dX12_lay_26 (by decide) ft_49232 fk_49232 hT
theorem s187_29 : aW d 187 29 [l0, .int a, l2, l3] S h Q = aW d 187 30 [l0, .int a, l2, l3] (.int a :: S) h Q := ax_iload_n mt187 dX12_lay_29 rfl
theorem s187_30 : aW d 187 30 L (.int a :: .ref o :: S) h Q = (inb a (aI h o) ∧ aW d 187 31 L (.int (gI h o a.toNatClampNeg) :: S) h Q) := ax_iald mt187 dX12_lay_30
theorem s187_31 : aW d 187 31 [l0, l1, l2, l3] (.int a :: S) h Q = aW d 187 32 [l0, l1, l2, .int a] S h Q := ax_istore_n mt187 dX12_lay_31 (Nat.le_of_ble_eq_true rfl) rfl
theorem s187_32 : aW d 187 32 [.ref o, l1, l2, l3] S h Q = aW d 187 33 [.ref o, l1, l2, l3] (.ref o :: S) h Q := ax_aload_n mt187 dX12_lay_32 rfl
theorem s187_33 (hT : gT h o = some (14, 54)) : aW d 187 33 L (.ref o :: S) h Q = (isRf (gR h o 28) = true ∧ aW d 187 36 L (gR h o 28 :: S) h Q) := ax_geta mt187 dX12_lay_33 (by decide) ft_49232 fk_49232 hT
theorem s187_36 : aW d 187 36 [l0, .int a, l2, l3] S h Q = aW d 187 37 [l0, .int a, l2, l3] (.int a :: S) h Q := ax_iload_n mt187 dX12_lay_36 rfl
theorem s187_37 : aW d 187 37 [l0, l1, .int a, l3] S h Q = aW d 187 38 [l0, l1, .int a, l3] (.int a :: S) h Q := ax_iload_n mt187 dX12_lay_37 rfl
theorem s187_38 : aW d 187 38 L (.int b :: .int a :: .ref o :: S) h Q = (inb a (aJ h o) ∧ aW d 187 39 L S (pI h o a.toNatClampNeg b) Q) := ax_iast mt187 dX12_lay_38
theorem s187_39 : aW d 187 39 [l0, l1, l2, .int a] S h Q = aW d 187 40 [l0, l1, l2, .int a] (.int a :: S) h Q := ax_iload_n mt187 dX12_lay_39 rfl
theorem s187_40 : aW d 187 40 L [.int a] h Q = Q (some (.int a)) h := ax_reti mt187 dX12_lay_40 rfl
-- method 188: BufferRoomModel.doClash(II)Z
theorem dX12_doClash_0 : decode cX12_doClash 0 = .ok (.aload_n 0, 1) := by decide +kernel
theorem dX12_doClash_1 : decode cX12_doClash 1 = .ok (.getfield 16, 3) := by decide +kernel
theorem dX12_doClash_4 : decode cX12_doClash 4 = .ok (.iload_n 1, 1) := by decide +kernel
theorem dX12_doClash_5 : decode cX12_doClash 5 = .ok (.baload, 1) := by decide +kernel
theorem dX12_doClash_6 : decode cX12_doClash 6 = .ok (.ifCond .eq 60, 3) := by decide +kernel
theorem dX12_doClash_9 : decode cX12_doClash 9 = .ok (.aload_n 0, 1) := by decide +kernel
theorem dX12_doClash_10 : decode cX12_doClash 10 = .ok (.getfield 16, 3) := by decide +kernel
theorem dX12_doClash_13 : decode cX12_doClash 13 = .ok (.iload_n 2, 1) := by decide +kernel
theorem dX12_doClash_14 : decode cX12_doClash 14 = .ok (.baload, 1) := by decide +kernel
theorem dX12_doClash_15 : decode cX12_doClash 15 = .ok (.ifCond .eq 51, 3) := by decide +kernel
theorem dX12_doClash_18 : decode cX12_doClash 18 = .ok (.aload_n 0, 1) := by decide +kernel
theorem dX12_doClash_19 : decode cX12_doClash 19 = .ok (.getfield 80, 3) := by decide +kernel
theorem dX12_doClash_22 : decode cX12_doClash 22 = .ok (.iload_n 1, 1) := by decide +kernel
theorem dX12_doClash_23 : decode cX12_doClash 23 = .ok (.iaload, 1) := by decide +kernel
theorem dX12_doClash_24 : decode cX12_doClash 24 = .ok (.iconst (-1), 1) := by decide +kernel
theorem dX12_doClash_25 : decode cX12_doClash 25 = .ok (.if_icmp .eq 41, 3) := by decide +kernel
theorem dX12_doClash_28 : decode cX12_doClash 28 = .ok (.aload_n 0, 1) := by decide +kernel
theorem dX12_doClash_29 : decode cX12_doClash 29 = .ok (.getfield 80, 3) := by decide +kernel
theorem dX12_doClash_32 : decode cX12_doClash 32 = .ok (.iload_n 2, 1) := by decide +kernel
theorem dX12_doClash_33 : decode cX12_doClash 33 = .ok (.iaload, 1) := by decide +kernel
theorem dX12_doClash_34 : decode cX12_doClash 34 = .ok (.iconst (-1), 1) := by decide +kernel
theorem dX12_doClash_35 : decode cX12_doClash 35 = .ok (.if_icmp .eq 31, 3) := by decide +kernel
theorem dX12_doClash_38 : decode cX12_doClash 38 = .ok (.aload_n 0, 1) := by decide +kernel
theorem dX12_doClash_39 : decode cX12_doClash 39 = .ok (.getfield 80, 3) := by decide +kernel
theorem dX12_doClash_42 : decode cX12_doClash 42 = .ok (.iload_n 1, 1) := by decide +kernel
theorem dX12_doClash_43 : decode cX12_doClash 43 = .ok (.iaload, 1) := by decide +kernel
theorem dX12_doClash_44 : decode cX12_doClash 44 = .ok (.aload_n 0, 1) := by decide +kernel
theorem dX12_doClash_45 : decode cX12_doClash 45 = .ok (.iload_n 1, 1) := by decide +kernel
theorem dX12_doClash_46 : decode cX12_doClash 46 = .ok (.invokevirtual 204, 3) := by decide +kernel
theorem dX12_doClash_49 : decode cX12_doClash 49 = .ok (.aload_n 0, 1) := by decide +kernel
theorem dX12_doClash_50 : decode cX12_doClash 50 = .ok (.getfield 80, 3) := by decide +kernel
theorem dX12_doClash_53 : decode cX12_doClash 53 = .ok (.iload_n 2, 1) := by decide +kernel
theorem dX12_doClash_54 : decode cX12_doClash 54 = .ok (.iaload, 1) := by decide +kernel
theorem dX12_doClash_55 : decode cX12_doClash 55 = .ok (.aload_n 0, 1) := by decide +kernel
theorem dX12_doClash_56 : decode cX12_doClash 56 = .ok (.iload_n 2, 1) := by decide +kernel
theorem dX12_doClash_57 : decode cX12_doClash 57 = .ok (.invokevirtual 204, 3) := by decide +kernel
theorem dX12_doClash_60 : decode cX12_doClash 60 = .ok (.invokestatic 255, 3) := by decide +kernel
theorem dX12_doClash_63 : decode cX12_doClash 63 = .ok (.ifCond .ne 5, 3) := by decide +kernel
theorem dX12_doClash_66 : decode cX12_doClash 66 = .ok (.iconst 0, 1) := by decide +kernel
theorem dX12_doClash_67 : decode cX12_doClash 67 = .ok (.ireturn, 1) := by decide +kernel
theorem dX12_doClash_68 : decode cX12_doClash 68 = .ok (.iconst 0, 1) := by decide +kernel
theorem dX12_doClash_69 : decode cX12_doClash 69 = .ok (.istore_n 3, 1) := by decide +kernel
theorem dX12_doClash_70 : decode cX12_doClash 70 = .ok (.iconst (-1), 1) := by decide +kernel
theorem dX12_doClash_71 : decode cX12_doClash 71 = .ok (.istore 4, 2) := by decide +kernel
theorem dX12_doClash_73 : decode cX12_doClash 73 = .ok (.iconst 0, 1) := by decide +kernel
theorem dX12_doClash_74 : decode cX12_doClash 74 = .ok (.istore 5, 2) := by decide +kernel
theorem dX12_doClash_76 : decode cX12_doClash 76 = .ok (.iload 5, 2) := by decide +kernel
theorem dX12_doClash_78 : decode cX12_doClash 78 = .ok (.aload_n 0, 1) := by decide +kernel
theorem dX12_doClash_79 : decode cX12_doClash 79 = .ok (.getfield 165, 3) := by decide +kernel
theorem dX12_doClash_82 : decode cX12_doClash 82 = .ok (.if_icmp .ge 36, 3) := by decide +kernel
theorem dX12_doClash_85 : decode cX12_doClash 85 = .ok (.aload_n 0, 1) := by decide +kernel
theorem dX12_doClash_86 : decode cX12_doClash 86 = .ok (.iload_n 1, 1) := by decide +kernel
theorem dX12_doClash_87 : decode cX12_doClash 87 = .ok (.iload 5, 2) := by decide +kernel
theorem dX12_doClash_89 : decode cX12_doClash 89 = .ok (.invokevirtual 231, 3) := by decide +kernel
theorem dX12_doClash_92 : decode cX12_doClash 92 = .ok (.ifCond .eq 20, 3) := by decide +kernel
theorem dX12_doClash_95 : decode cX12_doClash 95 = .ok (.aload_n 0, 1) := by decide +kernel
theorem dX12_doClash_96 : decode cX12_doClash 96 = .ok (.iload_n 2, 1) := by decide +kernel
theorem dX12_doClash_97 : decode cX12_doClash 97 = .ok (.iload 5, 2) := by decide +kernel
theorem dX12_doClash_99 : decode cX12_doClash 99 = .ok (.invokevirtual 231, 3) := by decide +kernel
theorem dX12_doClash_102 : decode cX12_doClash 102 = .ok (.ifCond .eq 10, 3) := by decide +kernel
theorem dX12_doClash_105 : decode cX12_doClash 105 = .ok (.iinc 3 1, 3) := by decide +kernel
theorem dX12_doClash_108 : decode cX12_doClash 108 = .ok (.iload 5, 2) := by decide +kernel
theorem dX12_doClash_110 : decode cX12_doClash 110 = .ok (.istore 4, 2) := by decide +kernel
theorem dX12_doClash_112 : decode cX12_doClash 112 = .ok (.iinc 5 1, 3) := by decide +kernel
theorem dX12_doClash_115 : decode cX12_doClash 115 = .ok (.goto (-39), 3) := by decide +kernel
theorem dX12_doClash_118 : decode cX12_doClash 118 = .ok (.iload_n 3, 1) := by decide +kernel
theorem dX12_doClash_119 : decode cX12_doClash 119 = .ok (.iconst 1, 1) := by decide +kernel
theorem dX12_doClash_120 : decode cX12_doClash 120 = .ok (.if_icmp .eq 13, 3) := by decide +kernel
theorem dX12_doClash_123 : decode cX12_doClash 123 = .ok (.iload_n 3, 1) := by decide +kernel
theorem dX12_doClash_124 : decode cX12_doClash 124 = .ok (.ifCond .le 7, 3) := by decide +kernel
theorem dX12_doClash_127 : decode cX12_doClash 127 = .ok (.iconst 1, 1) := by decide +kernel
theorem dX12_doClash_128 : decode cX12_doClash 128 = .ok (.goto 4, 3) := by decide +kernel
theorem dX12_doClash_131 : decode cX12_doClash 131 = .ok (.iconst 0, 1) := by decide +kernel
theorem dX12_doClash_132 : decode cX12_doClash 132 = .ok (.ireturn, 1) := by decide +kernel
theorem dX12_doClash_133 : decode cX12_doClash 133 = .ok (.aload_n 0, 1) := by decide +kernel
theorem dX12_doClash_134 : decode cX12_doClash 134 = .ok (.iload 4, 2) := by decide +kernel
theorem dX12_doClash_136 : decode cX12_doClash 136 = .ok (.invokevirtual 234, 3) := by decide +kernel
theorem dX12_doClash_139 : decode cX12_doClash 139 = .ok (.istore 5, 2) := by decide +kernel
theorem dX12_doClash_141 : decode cX12_doClash 141 = .ok (.aload_n 0, 1) := by decide +kernel
theorem dX12_doClash_142 : decode cX12_doClash 142 = .ok (.getfield 38, 3) := by decide +kernel
theorem dX12_doClash_145 : decode cX12_doClash 145 = .ok (.aload_n 0, 1) := by decide +kernel
theorem dX12_doClash_146 : decode cX12_doClash 146 = .ok (.getfield 104, 3) := by decide +kernel
theorem dX12_doClash_149 : decode cX12_doClash 149 = .ok (.iload 4, 2) := by decide +kernel
theorem dX12_doClash_151 : decode cX12_doClash 151 = .ok (.iaload, 1) := by decide +kernel
theorem dX12_doClash_152 : decode cX12_doClash 152 = .ok (.iaload, 1) := by decide +kernel
theorem dX12_doClash_153 : decode cX12_doClash 153 = .ok (.istore 6, 2) := by decide +kernel
theorem dX12_doClash_155 : decode cX12_doClash 155 = .ok (.iload 5, 2) := by decide +kernel
theorem dX12_doClash_157 : decode cX12_doClash 157 = .ok (.iload_n 1, 1) := by decide +kernel
theorem dX12_doClash_158 : decode cX12_doClash 158 = .ok (.if_icmp .ne 9, 3) := by decide +kernel
theorem dX12_doClash_161 : decode cX12_doClash 161 = .ok (.iload 6, 2) := by decide +kernel
theorem dX12_doClash_163 : decode cX12_doClash 163 = .ok (.iload_n 2, 1) := by decide +kernel
theorem dX12_doClash_164 : decode cX12_doClash 164 = .ok (.if_icmp .eq 19, 3) := by decide +kernel
theorem dX12_doClash_167 : decode cX12_doClash 167 = .ok (.iload 5, 2) := by decide +kernel
theorem dX12_doClash_169 : decode cX12_doClash 169 = .ok (.iload_n 2, 1) := by decide +kernel
theorem dX12_doClash_170 : decode cX12_doClash 170 = .ok (.if_icmp .ne 9, 3) := by decide +kernel
theorem dX12_doClash_173 : decode cX12_doClash 173 = .ok (.iload 6, 2) := by decide +kernel
theorem dX12_doClash_175 : decode cX12_doClash 175 = .ok (.iload_n 1, 1) := by decide +kernel
theorem dX12_doClash_176 : decode cX12_doClash 176 = .ok (.if_icmp .eq 7, 3) := by decide +kernel
theorem dX12_doClash_179 : decode cX12_doClash 179 = .ok (.iconst 1, 1) := by decide +kernel
theorem dX12_doClash_180 : decode cX12_doClash 180 = .ok (.goto 4, 3) := by decide +kernel
theorem dX12_doClash_183 : decode cX12_doClash 183 = .ok (.iconst 0, 1) := by decide +kernel
theorem dX12_doClash_184 : decode cX12_doClash 184 = .ok (.ireturn, 1) := by decide +kernel
theorem s188_0 : aW d 188 0 [.ref o, l1, l2, l3, l4, l5, l6] S h Q = aW d 188 1 [.ref o, l1, l2, l3, l4, l5, l6] (.ref o :: S) h Q := ax_aload_n mt188 dX12_doClash_0 rfl
theorem s188_1 (hT : gT h o = some (14, 54)) : aW d 188 1 L (.ref o :: S) h Q = (isRf (gR h o 5) = true ∧ aW d 188 4 L (gR h o 5 :: S) h Q) := ax_geta mt188 dX12_doClash_1 (by decide) ft_49168 fk_49168 hT
theorem s188_4 : aW d 188 4 [l0, .int a, l2, l3, l4, l5, l6] S h Q = aW d 188 5 [l0, .int a, l2, l3, l4, l5, l6] (.int a :: S) h Q := ax_iload_n mt188 dX12_doClash_4 rfl
theorem s188_5 : aW d 188 5 L (.int a :: .ref o :: S) h Q = (inb a (aZ h o) ∧ aW d 188 6 L (.int (gI h o a.toNatClampNeg) :: S) h Q) := ax_zald mt188 dX12_doClash_5
theorem s188_6 : aW d 188 6 L (.int a :: S) h Q = (if a = 0 then aW d 188 66 L S h Q else aW d 188 9 L S h Q) := ax_if_eq mt188 dX12_doClash_6 (by decide)
theorem s188_9 : aW d 188 9 [.ref o, l1, l2, l3, l4, l5, l6] S h Q = aW d 188 10 [.ref o, l1, l2, l3, l4, l5, l6] (.ref o :: S) h Q := ax_aload_n mt188 dX12_doClash_9 rfl
theorem s188_10 (hT : gT h o = some (14, 54)) : aW d 188 10 L (.ref o :: S) h Q = (isRf (gR h o 5) = true ∧ aW d 188 13 L (gR h o 5 :: S) h Q) := ax_geta mt188 dX12_doClash_10 (by decide) ft_49168 fk_49168 hT
theorem s188_13 : aW d 188 13 [l0, l1, .int a, l3, l4, l5, l6] S h Q = aW d 188 14 [l0, l1, .int a, l3, l4, l5, l6] (.int a :: S) h Q := ax_iload_n mt188 dX12_doClash_13 rfl
theorem s188_14 : aW d 188 14 L (.int a :: .ref o :: S) h Q = (inb a (aZ h o) ∧ aW d 188 15 L (.int (gI h o a.toNatClampNeg) :: S) h Q) := ax_zald mt188 dX12_doClash_14
theorem s188_15 : aW d 188 15 L (.int a :: S) h Q = (if a = 0 then aW d 188 66 L S h Q else aW d 188 18 L S h Q) := ax_if_eq mt188 dX12_doClash_15 (by decide)
theorem s188_18 : aW d 188 18 [.ref o, l1, l2, l3, l4, l5, l6] S h Q = aW d 188 19 [.ref o, l1, l2, l3, l4, l5, l6] (.ref o :: S) h Q := ax_aload_n mt188 dX12_doClash_18 rfl
theorem s188_19 (hT : gT h o = some (14, 54)) : aW d 188 19 L (.ref o :: S) h Q = (isRf (gR h o 28) = true ∧ aW d 188 22 L (gR h o 28 :: S) h Q) := ax_geta mt188 dX12_doClash_19 (by decide) ft_49232 fk_49232 hT
theorem s188_22 : aW d 188 22 [l0, .int a, l2, l3, l4, l5, l6] S h Q = aW d 188 23 [l0, .int a, l2, l3, l4, l5, l6] (.int a :: S) h Q := ax_iload_n mt188 dX12_doClash_22 rfl
theorem s188_23 : aW d 188 23 L (.int a :: .ref o :: S) h Q = (inb a (aI h o) ∧ aW d 188 24 L (.int (gI h o a.toNatClampNeg) :: S) h Q) := ax_iald mt188 dX12_doClash_23
theorem s188_24 : aW d 188 24 L S h Q = aW d 188 25 L (.int ((-1)) :: S) h Q := ax_iconst mt188 dX12_doClash_24 ic_m1
theorem s188_25 : aW d 188 25 L (.int b :: .int a :: S) h Q = (if a = b then aW d 188 66 L S h Q else aW d 188 28 L S h Q) := ax_icmp_eq mt188 dX12_doClash_25 (by decide)
theorem s188_28 : aW d 188 28 [.ref o, l1, l2, l3, l4, l5, l6] S h Q = aW d 188 29 [.ref o, l1, l2, l3, l4, l5, l6] (.ref o :: S) h Q := ax_aload_n mt188 dX12_doClash_28 rfl
theorem s188_29 (hT : gT h o = some (14, 54)) : aW d 188 29 L (.ref o :: S) h Q = (isRf (gR h o 28) = true ∧ aW d 188 32 L (gR h o 28 :: S) h Q) := ax_geta mt188 dX12_doClash_29 (by decide) ft_49232 fk_49232 hT
theorem s188_32 : aW d 188 32 [l0, l1, .int a, l3, l4, l5, l6] S h Q = aW d 188 33 [l0, l1, .int a, l3, l4, l5, l6] (.int a :: S) h Q := ax_iload_n mt188 dX12_doClash_32 rfl
theorem s188_33 : aW d 188 33 L (.int a :: .ref o :: S) h Q = (inb a (aI h o) ∧ aW d 188 34 L (.int (gI h o a.toNatClampNeg) :: S) h Q) := ax_iald mt188 dX12_doClash_33
theorem s188_34 : aW d 188 34 L S h Q = aW d 188 35 L (.int ((-1)) :: S) h Q := ax_iconst mt188 dX12_doClash_34 ic_m1
theorem s188_35 : aW d 188 35 L (.int b :: .int a :: S) h Q = (if a = b then aW d 188 66 L S h Q else aW d 188 38 L S h Q) := ax_icmp_eq mt188 dX12_doClash_35 (by decide)
theorem s188_38 : aW d 188 38 [.ref o, l1, l2, l3, l4, l5, l6] S h Q = aW d 188 39 [.ref o, l1, l2, l3, l4, l5, l6] (.ref o :: S) h Q := ax_aload_n mt188 dX12_doClash_38 rfl
theorem s188_39 (hT : gT h o = some (14, 54)) : aW d 188 39 L (.ref o :: S) h Q = (isRf (gR h o 28) = true ∧ aW d 188 42 L (gR h o 28 :: S) h Q) := ax_geta mt188 dX12_doClash_39 (by decide) ft_49232 fk_49232 hT
theorem s188_42 : aW d 188 42 [l0, .int a, l2, l3, l4, l5, l6] S h Q = aW d 188 43 [l0, .int a, l2, l3, l4, l5, l6] (.int a :: S) h Q := ax_iload_n mt188 dX12_doClash_42 rfl
theorem s188_43 : aW d 188 43 L (.int a :: .ref o :: S) h Q = (inb a (aI h o) ∧ aW d 188 44 L (.int (gI h o a.toNatClampNeg) :: S) h Q) := ax_iald mt188 dX12_doClash_43
theorem s188_44 : aW d 188 44 [.ref o, l1, l2, l3, l4, l5, l6] S h Q = aW d 188 45 [.ref o, l1, l2, l3, l4, l5, l6] (.ref o :: S) h Q := ax_aload_n mt188 dX12_doClash_44 rfl
theorem s188_45 : aW d 188 45 [l0, .int a, l2, l3, l4, l5, l6] S h Q = aW d 188 46 [l0, .int a, l2, l3, l4, l5, l6] (.int a :: S) h Q := ax_iload_n mt188 dX12_doClash_45 rfl
theorem s188_46 (hT : gT h o = some (14, 54)) : aW (d + 1) 188 46 L (.int x0 :: .ref o :: [.int y0]) h Q = aM d 154 (.ref o :: [.int x0]) h (fun v h1 => aW (d + 1) 188 49 L (ab_ps v [.int y0]) h1 Q) := ax_invv mt188 dX12_doClash_46 (by decide) ct_49356 (.inl rfl) mt154 ⟨⟨Nat.le_of_ble_eq_true rfl, Nat.le_of_ble_eq_true rfl, Nat.le_of_ble_eq_true rfl⟩, rfl, rfl, rfl⟩ hT
theorem s188_49 : aW d 188 49 [.ref o, l1, l2, l3, l4, l5, l6] S h Q = aW d 188 50 [.ref o, l1, l2, l3, l4, l5, l6] (.ref o :: S) h Q := ax_aload_n mt188 dX12_doClash_49 rfl
theorem s188_50 (hT : gT h o = some (14, 54)) : aW d 188 50 L (.ref o :: S) h Q = (isRf (gR h o 28) = true ∧ aW d 188 53 L (gR h o 28 :: S) h Q) := ax_geta mt188 dX12_doClash_50 (by decide) ft_49232 fk_49232 hT
theorem s188_53 : aW d 188 53 [l0, l1, .int a, l3, l4, l5, l6] S h Q = aW d 188 54 [l0, l1, .int a, l3, l4, l5, l6] (.int a :: S) h Q := ax_iload_n mt188 dX12_doClash_53 rfl
theorem s188_54 : aW d 188 54 L (.int a :: .ref o :: S) h Q = (inb a (aI h o) ∧ aW d 188 55 L (.int (gI h o a.toNatClampNeg) :: S) h Q) := ax_iald mt188 dX12_doClash_54
theorem s188_55 : aW d 188 55 [.ref o, l1, l2, l3, l4, l5, l6] S h Q = aW d 188 56 [.ref o, l1, l2, l3, l4, l5, l6] (.ref o :: S) h Q := ax_aload_n mt188 dX12_doClash_55 rfl
theorem s188_56 : aW d 188 56 [l0, l1, .int a, l3, l4, l5, l6] S h Q = aW d 188 57 [l0, l1, .int a, l3, l4, l5, l6] (.int a :: S) h Q := ax_iload_n mt188 dX12_doClash_56 rfl
theorem s188_57 (hT : gT h o = some (14, 54)) : aW (d + 1) 188 57 L (.int x0 :: .ref o :: [.int y0, .int y1, .int y2]) h Q = aM d 154 (.ref o :: [.int x0]) h (fun v h1 => aW (d + 1) 188 60 L (ab_ps v [.int y0, .int y1, .int y2]) h1 Q) := ax_invv mt188 dX12_doClash_57 (by decide) ct_49356 (.inl rfl) mt154 ⟨⟨Nat.le_of_ble_eq_true rfl, Nat.le_of_ble_eq_true rfl, Nat.le_of_ble_eq_true rfl⟩, rfl, rfl, rfl⟩ hT
theorem s188_60 : aW (d + 1) 188 60 L (.int x3 :: .int x2 :: .int x1 :: .int x0 :: []) h Q = aM d 181 [.int x0, .int x1, .int x2, .int x3] h (fun v h1 => aW (d + 1) 188 63 L (ab_ps v []) h1 Q) := ax_invs mt188 dX12_doClash_60 (by decide) ct_49407 (.inl rfl) mt181 ⟨⟨Nat.le_of_ble_eq_true rfl, Nat.le_of_ble_eq_true rfl, Nat.le_of_ble_eq_true rfl⟩, rfl, rfl⟩
theorem s188_63 : aW d 188 63 L (.int a :: S) h Q = (if a = 0 then aW d 188 66 L S h Q else aW d 188 68 L S h Q) := ax_if_ne mt188 dX12_doClash_63 (by decide)
theorem s188_68 : aW d 188 68 L S h Q = aW d 188 69 L (.int (nI 0) :: S) h Q := ax_iconst mt188 dX12_doClash_68 ic_0
theorem s188_69 : aW d 188 69 [l0, l1, l2, l3, l4, l5, l6] (.int a :: S) h Q = aW d 188 70 [l0, l1, l2, .int a, l4, l5, l6] S h Q := ax_istore_n mt188 dX12_doClash_69 (Nat.le_of_ble_eq_true rfl) rfl
theorem s188_70 : aW d 188 70 L S h Q = aW d 188 71 L (.int ((-1)) :: S) h Q := ax_iconst mt188 dX12_doClash_70 ic_m1
theorem s188_71 : aW d 188 71 [l0, l1, l2, l3, l4, l5, l6] (.int a :: S) h Q = aW d 188 73 [l0, l1, l2, l3, .int a, l5, l6] S h Q := ax_istore mt188 dX12_doClash_71 (Nat.le_of_ble_eq_true rfl) rfl
theorem s188_73 : aW d 188 73 L S h Q = aW d 188 74 L (.int (nI 0) :: S) h Q := ax_iconst mt188 dX12_doClash_73 ic_0
theorem s188_74 : aW d 188 74 [l0, l1, l2, l3, l4, l5, l6] (.int a :: S) h Q = aW d 188 76 [l0, l1, l2, l3, l4, .int a, l6] S h Q := ax_istore mt188 dX12_doClash_74 (Nat.le_of_ble_eq_true rfl) rfl
theorem s188_76 : aW d 188 76 [l0, l1, l2, l3, l4, .int a, l6] S h Q = aW d 188 78 [l0, l1, l2, l3, l4, .int a, l6] (.int a :: S) h Q := ax_iload mt188 dX12_doClash_76 rfl
theorem s188_78 : aW d 188 78 [.ref o, l1, l2, l3, l4, l5, l6] S h Q = aW d 188 79 [.ref o, l1, l2, l3, l4, l5, l6] (.ref o :: S) h Q := ax_aload_n mt188 dX12_doClash_78 rfl
theorem s188_79 (hT : gT h o = some (14, 54)) : aW d 188 79 L (.ref o :: S) h Q = aW d 188 82 L (.int (gI h o 4) :: S) h Q := ax_geti mt188 dX12_doClash_79 (by decide) ft_49317 fk_49317 hT
theorem s188_82 : aW d 188 82 L (.int b :: .int a :: S) h Q = (if a < b then aW d 188 85 L S h Q else aW d 188 118 L S h Q) := ax_icmp_ge mt188 dX12_doClash_82 (by decide)
theorem s188_85 : aW d 188 85 [.ref o, l1, l2, l3, l4, l5, l6] S h Q = aW d 188 86 [.ref o, l1, l2, l3, l4, l5, l6] (.ref o :: S) h Q := ax_aload_n mt188 dX12_doClash_85 rfl
theorem s188_86 : aW d 188 86 [l0, .int a, l2, l3, l4, l5, l6] S h Q = aW d 188 87 [l0, .int a, l2, l3, l4, l5, l6] (.int a :: S) h Q := ax_iload_n mt188 dX12_doClash_86 rfl
theorem s188_87 : aW d 188 87 [l0, l1, l2, l3, l4, .int a, l6] S h Q = aW d 188 89 [l0, l1, l2, l3, l4, .int a, l6] (.int a :: S) h Q := ax_iload mt188 dX12_doClash_87 rfl
theorem s188_89 (hT : gT h o = some (14, 54)) : aW (d + 1) 188 89 L (.int x1 :: .int x0 :: .ref o :: []) h Q = aM d 165 (.ref o :: [.int x0, .int x1]) h (fun v h1 => aW (d + 1) 188 92 L (ab_ps v []) h1 Q) := ax_invv mt188 dX12_doClash_89 (by decide) ct_49383 (.inl rfl) mt165 ⟨⟨Nat.le_of_ble_eq_true rfl, Nat.le_of_ble_eq_true rfl, Nat.le_of_ble_eq_true rfl⟩, rfl, rfl, rfl⟩ hT
theorem s188_92 : aW d 188 92 L (.int a :: S) h Q = (if a = 0 then aW d 188 112 L S h Q else aW d 188 95 L S h Q) := ax_if_eq mt188 dX12_doClash_92 (by decide)
theorem s188_95 : aW d 188 95 [.ref o, l1, l2, l3, l4, l5, l6] S h Q = aW d 188 96 [.ref o, l1, l2, l3, l4, l5, l6] (.ref o :: S) h Q := ax_aload_n mt188 dX12_doClash_95 rfl
theorem s188_96 : aW d 188 96 [l0, l1, .int a, l3, l4, l5, l6] S h Q = aW d 188 97 [l0, l1, .int a, l3, l4, l5, l6] (.int a :: S) h Q := ax_iload_n mt188 dX12_doClash_96 rfl
theorem s188_97 : aW d 188 97 [l0, l1, l2, l3, l4, .int a, l6] S h Q = aW d 188 99 [l0, l1, l2, l3, l4, .int a, l6] (.int a :: S) h Q := ax_iload mt188 dX12_doClash_97 rfl
theorem s188_99 (hT : gT h o = some (14, 54)) : aW (d + 1) 188 99 L (.int x1 :: .int x0 :: .ref o :: []) h Q = aM d 165 (.ref o :: [.int x0, .int x1]) h (fun v h1 => aW (d + 1) 188 102 L (ab_ps v []) h1 Q) := ax_invv mt188 dX12_doClash_99 (by decide) ct_49383 (.inl rfl) mt165 ⟨⟨Nat.le_of_ble_eq_true rfl, Nat.le_of_ble_eq_true rfl, Nat.le_of_ble_eq_true rfl⟩, rfl, rfl, rfl⟩ hT
theorem s188_102 : aW d 188 102 L (.int a :: S) h Q = (if a = 0 then aW d 188 112 L S h Q else aW d 188 105 L S h Q) := ax_if_eq mt188 dX12_doClash_102 (by decide)
theorem s188_105 : aW d 188 105 [l0, l1, l2, .int a, l4, l5, l6] S h Q = aW d 188 108 [l0, l1, l2, .int (a + nI 1), l4, l5, l6] S h Q := ax_iinc mt188 dX12_doClash_105 rfl ic_1 rfl
theorem s188_108 : aW d 188 108 [l0, l1, l2, l3, l4, .int a, l6] S h Q = aW d 188 110 [l0, l1, l2, l3, l4, .int a, l6] (.int a :: S) h Q := ax_iload mt188 dX12_doClash_108 rfl
theorem s188_110 : aW d 188 110 [l0, l1, l2, l3, l4, l5, l6] (.int a :: S) h Q = aW d 188 112 [l0, l1, l2, l3, .int a, l5, l6] S h Q := ax_istore mt188 dX12_doClash_110 (Nat.le_of_ble_eq_true rfl) rfl
theorem s188_112 : aW d 188 112 [l0, l1, l2, l3, l4, .int a, l6] S h Q = aW d 188 115 [l0, l1, l2, l3, l4, .int (a + nI 1), l6] S h Q := ax_iinc mt188 dX12_doClash_112 rfl ic_1 rfl
theorem s188_115 : aW d 188 115 L S h Q = aW d 188 76 L S h Q := ax_goto mt188 dX12_doClash_115 (by decide)
theorem s188_118 : aW d 188 118 [l0, l1, l2, .int a, l4, l5, l6] S h Q = aW d 188 119 [l0, l1, l2, .int a, l4, l5, l6] (.int a :: S) h Q := ax_iload_n mt188 dX12_doClash_118 rfl
theorem s188_119 : aW d 188 119 L S h Q = aW d 188 120 L (.int (nI 1) :: S) h Q := ax_iconst mt188 dX12_doClash_119 ic_1
theorem s188_120 : aW d 188 120 L (.int b :: .int a :: S) h Q = (if a = b then aW d 188 133 L S h Q else aW d 188 123 L S h Q) := ax_icmp_eq mt188 dX12_doClash_120 (by decide)
theorem s188_123 : aW d 188 123 [l0, l1, l2, .int a, l4, l5, l6] S h Q = aW d 188 124 [l0, l1, l2, .int a, l4, l5, l6] (.int a :: S) h Q := ax_iload_n mt188 dX12_doClash_123 rfl
theorem s188_124 : aW d 188 124 L (.int a :: S) h Q = (if 0 < a then aW d 188 127 L S h Q else aW d 188 131 L S h Q) := ax_if_le mt188 dX12_doClash_124 (by decide)
theorem s188_127 : aW d 188 127 L S h Q = aW d 188 128 L (.int (nI 1) :: S) h Q := ax_iconst mt188 dX12_doClash_127 ic_1
theorem s188_128 : aW d 188 128 L S h Q = aW d 188 132 L S h Q := ax_goto mt188 dX12_doClash_128 (by decide)
theorem s188_132 : aW d 188 132 L [.int a] h Q = (b01 a ∧ Q (some (.int a)) h) := ax_retz mt188 dX12_doClash_132 rfl
theorem s188_131 : aW d 188 131 L S h Q = aW d 188 132 L (.int (nI 0) :: S) h Q := ax_iconst mt188 dX12_doClash_131 ic_0
theorem s188_133 : aW d 188 133 [.ref o, l1, l2, l3, l4, l5, l6] S h Q = aW d 188 134 [.ref o, l1, l2, l3, l4, l5, l6] (.ref o :: S) h Q := ax_aload_n mt188 dX12_doClash_133 rfl
theorem s188_134 : aW d 188 134 [l0, l1, l2, l3, .int a, l5, l6] S h Q = aW d 188 136 [l0, l1, l2, l3, .int a, l5, l6] (.int a :: S) h Q := ax_iload mt188 dX12_doClash_134 rfl
theorem s188_136 (hT : gT h o = some (14, 54)) : aW (d + 1) 188 136 L (.int x0 :: .ref o :: []) h Q = aM d 169 (.ref o :: [.int x0]) h (fun v h1 => aW (d + 1) 188 139 L (ab_ps v []) h1 Q) := ax_invv mt188 dX12_doClash_136 (by decide) ct_49386 (.inl rfl) mt169 ⟨⟨Nat.le_of_ble_eq_true rfl, Nat.le_of_ble_eq_true rfl, Nat.le_of_ble_eq_true rfl⟩, rfl, rfl, rfl⟩ hT
theorem s188_139 : aW d 188 139 [l0, l1, l2, l3, l4, l5, l6] (.int a :: S) h Q = aW d 188 141 [l0, l1, l2, l3, l4, .int a, l6] S h Q := ax_istore mt188 dX12_doClash_139 (Nat.le_of_ble_eq_true rfl) rfl
theorem s188_141 : aW d 188 141 [.ref o, l1, l2, l3, l4, l5, l6] S h Q = aW d 188 142 [.ref o, l1, l2, l3, l4, l5, l6] (.ref o :: S) h Q := ax_aload_n mt188 dX12_doClash_141 rfl
theorem s188_142 (hT : gT h o = some (14, 54)) : aW d 188 142 L (.ref o :: S) h Q = (isRf (gR h o 12) = true ∧ aW d 188 145 L (gR h o 12 :: S) h Q) := ax_geta mt188 dX12_doClash_142 (by decide) ft_49190 fk_49190 hT
theorem s188_145 : aW d 188 145 [.ref o, l1, l2, l3, l4, l5, l6] S h Q = aW d 188 146 [.ref o, l1, l2, l3, l4, l5, l6] (.ref o :: S) h Q := ax_aload_n mt188 dX12_doClash_145 rfl
theorem s188_146 (hT : gT h o = some (14, 54)) : aW d 188 146 L (.ref o :: S) h Q = (isRf (gR h o 46) = true ∧ aW d 188 149 L (gR h o 46 :: S) h Q) := ax_geta mt188 dX12_doClash_146 (by decide) ft_49256 fk_49256 hT
theorem s188_149 : aW d 188 149 [l0, l1, l2, l3, .int a, l5, l6] S h Q = aW d 188 151 [l0, l1, l2, l3, .int a, l5, l6] (.int a :: S) h Q := ax_iload mt188 dX12_doClash_149 rfl
theorem s188_151 : aW d 188 151 L (.int a :: .ref o :: S) h Q = (inb a (aI h o) ∧ aW d 188 152 L (.int (gI h o a.toNatClampNeg) :: S) h Q) := ax_iald mt188 dX12_doClash_151
theorem s188_152 : aW d 188 152 L (.int a :: .ref o :: S) h Q = (inb a (aI h o) ∧ aW d 188 153 L (.int (gI h o a.toNatClampNeg) :: S) h Q) := ax_iald mt188 dX12_doClash_152
theorem s188_153 : aW d 188 153 [l0, l1, l2, l3, l4, l5, l6] (.int a :: S) h Q = aW d 188 155 [l0, l1, l2, l3, l4, l5, .int a] S h Q := ax_istore mt188 dX12_doClash_153 (Nat.le_of_ble_eq_true rfl) rfl
theorem s188_155 : aW d 188 155 [l0, l1, l2, l3, l4, .int a, l6] S h Q = aW d 188 157 [l0, l1, l2, l3, l4, .int a, l6] (.int a :: S) h Q := ax_iload mt188 dX12_doClash_155 rfl
theorem s188_157 : aW d 188 157 [l0, .int a, l2, l3, l4, l5, l6] S h Q = aW d 188 158 [l0, .int a, l2, l3, l4, l5, l6] (.int a :: S) h Q := ax_iload_n mt188 dX12_doClash_157 rfl
theorem s188_158 : aW d 188 158 L (.int b :: .int a :: S) h Q = (if a = b then aW d 188 161 L S h Q else aW d 188 167 L S h Q) := ax_icmp_ne mt188 dX12_doClash_158 (by decide)
theorem s188_161 : aW d 188 161 [l0, l1, l2, l3, l4, l5, .int a] S h Q = aW d 188 163 [l0, l1, l2, l3, l4, l5, .int a] (.int a :: S) h Q := ax_iload mt188 dX12_doClash_161 rfl
theorem s188_163 : aW d 188 163 [l0, l1, .int a, l3, l4, l5, l6] S h Q = aW d 188 164 [l0, l1, .int a, l3, l4, l5, l6] (.int a :: S) h Q := ax_iload_n mt188 dX12_doClash_163 rfl
theorem s188_164 : aW d 188 164 L (.int b :: .int a :: S) h Q = (if a = b then aW d 188 183 L S h Q else aW d 188 167 L S h Q) := ax_icmp_eq mt188 dX12_doClash_164 (by decide)
theorem s188_183 : aW d 188 183 L S h Q = aW d 188 184 L (.int (nI 0) :: S) h Q := ax_iconst mt188 dX12_doClash_183 ic_0
theorem s188_184 : aW d 188 184 L [.int a] h Q = (b01 a ∧ Q (some (.int a)) h) := ax_retz mt188 dX12_doClash_184 rfl
theorem s188_167 : aW d 188 167 [l0, l1, l2, l3, l4, .int a, l6] S h Q = aW d 188 169 [l0, l1, l2, l3, l4, .int a, l6] (.int a :: S) h Q := ax_iload mt188 dX12_doClash_167 rfl
theorem s188_169 : aW d 188 169 [l0, l1, .int a, l3, l4, l5, l6] S h Q = aW d 188 170 [l0, l1, .int a, l3, l4, l5, l6] (.int a :: S) h Q := ax_iload_n mt188 dX12_doClash_169 rfl
theorem s188_170 : aW d 188 170 L (.int b :: .int a :: S) h Q = (if a = b then aW d 188 173 L S h Q else aW d 188 179 L S h Q) := ax_icmp_ne mt188 dX12_doClash_170 (by decide)
theorem s188_173 : aW d 188 173 [l0, l1, l2, l3, l4, l5, .int a] S h Q = aW d 188 175 [l0, l1, l2, l3, l4, l5, .int a] (.int a :: S) h Q := ax_iload mt188 dX12_doClash_173 rfl
theorem s188_175 : aW d 188 175 [l0, .int a, l2, l3, l4, l5, l6] S h Q = aW d 188 176 [l0, .int a, l2, l3, l4, l5, l6] (.int a :: S) h Q := ax_iload_n mt188 dX12_doClash_175 rfl
theorem s188_176 : aW d 188 176 L (.int b :: .int a :: S) h Q = (if a = b then aW d 188 183 L S h Q else aW d 188 179 L S h Q) := ax_icmp_eq mt188 dX12_doClash_176 (by decide)
theorem s188_179 : aW d 188 179 L S h Q = aW d 188 180 L (.int (nI 1) :: S) h Q := ax_iconst mt188 dX12_doClash_179 ic_1
theorem s188_180 : aW d 188 180 L S h Q = aW d 188 184 L S h Q := ax_goto mt188 dX12_doClash_180 (by decide)
theorem s188_66 : aW d 188 66 L S h Q = aW d 188 67 L (.int (nI 0) :: S) h Q := ax_iconst mt188 dX12_doClash_66 ic_0
theorem s188_67 : aW d 188 67 L [.int a] h Q = (b01 a ∧ Q (some (.int a)) h) := ax_retz mt188 dX12_doClash_67 rfl
-- method 189: BufferRoomModel.clash()I
theorem dX12_clash_0 : decode cX12_clash 0 = .ok (.aload_n 0, 1) := by decide +kernel
theorem dX12_clash_1 : decode cX12_clash 1 = .ok (.invokevirtual 225, 3) := by decide +kernel
theorem dX12_clash_4 : decode cX12_clash 4 = .ok (.ifCond .ne 6, 3) := by decide +kernel
theorem dX12_clash_7 : decode cX12_clash 7 = .ok (.bipush (-3), 2) := by decide +kernel
theorem dX12_clash_9 : decode cX12_clash 9 = .ok (.ireturn, 1) := by decide +kernel
theorem dX12_clash_10 : decode cX12_clash 10 = .ok (.iconst 0, 1) := by decide +kernel
theorem dX12_clash_11 : decode cX12_clash 11 = .ok (.istore_n 1, 1) := by decide +kernel
theorem dX12_clash_12 : decode cX12_clash 12 = .ok (.iload_n 1, 1) := by decide +kernel
theorem dX12_clash_13 : decode cX12_clash 13 = .ok (.bipush 12, 2) := by decide +kernel
theorem dX12_clash_15 : decode cX12_clash 15 = .ok (.if_icmp .ge 41, 3) := by decide +kernel
theorem dX12_clash_18 : decode cX12_clash 18 = .ok (.iload_n 1, 1) := by decide +kernel
theorem dX12_clash_19 : decode cX12_clash 19 = .ok (.iconst 1, 1) := by decide +kernel
theorem dX12_clash_20 : decode cX12_clash 20 = .ok (.iadd, 1) := by decide +kernel
theorem dX12_clash_21 : decode cX12_clash 21 = .ok (.istore_n 2, 1) := by decide +kernel
theorem dX12_clash_22 : decode cX12_clash 22 = .ok (.iload_n 2, 1) := by decide +kernel
theorem dX12_clash_23 : decode cX12_clash 23 = .ok (.bipush 12, 2) := by decide +kernel
theorem dX12_clash_25 : decode cX12_clash 25 = .ok (.if_icmp .ge 25, 3) := by decide +kernel
theorem dX12_clash_28 : decode cX12_clash 28 = .ok (.aload_n 0, 1) := by decide +kernel
theorem dX12_clash_29 : decode cX12_clash 29 = .ok (.iload_n 1, 1) := by decide +kernel
theorem dX12_clash_30 : decode cX12_clash 30 = .ok (.iload_n 2, 1) := by decide +kernel
theorem dX12_clash_31 : decode cX12_clash 31 = .ok (.invokevirtual 272, 3) := by decide +kernel
theorem dX12_clash_34 : decode cX12_clash 34 = .ok (.ifCond .eq 10, 3) := by decide +kernel
theorem dX12_clash_37 : decode cX12_clash 37 = .ok (.bipush 100, 2) := by decide +kernel
theorem dX12_clash_39 : decode cX12_clash 39 = .ok (.iload_n 1, 1) := by decide +kernel
theorem dX12_clash_40 : decode cX12_clash 40 = .ok (.imul, 1) := by decide +kernel
theorem dX12_clash_41 : decode cX12_clash 41 = .ok (.iload_n 2, 1) := by decide +kernel
theorem dX12_clash_42 : decode cX12_clash 42 = .ok (.iadd, 1) := by decide +kernel
theorem dX12_clash_43 : decode cX12_clash 43 = .ok (.ireturn, 1) := by decide +kernel
theorem dX12_clash_44 : decode cX12_clash 44 = .ok (.iinc 2 1, 3) := by decide +kernel
theorem dX12_clash_47 : decode cX12_clash 47 = .ok (.goto (-25), 3) := by decide +kernel
theorem dX12_clash_50 : decode cX12_clash 50 = .ok (.iinc 1 1, 3) := by decide +kernel
theorem dX12_clash_53 : decode cX12_clash 53 = .ok (.goto (-41), 3) := by decide +kernel
theorem dX12_clash_56 : decode cX12_clash 56 = .ok (.iconst (-1), 1) := by decide +kernel
theorem dX12_clash_57 : decode cX12_clash 57 = .ok (.ireturn, 1) := by decide +kernel
theorem s189_0 : aW d 189 0 [.ref o, l1, l2] S h Q = aW d 189 1 [.ref o, l1, l2] (.ref o :: S) h Q := ax_aload_n mt189 dX12_clash_0 rfl
theorem s189_1 (hT : gT h o = some (14, 54)) : aW (d + 1) 189 1 L (.ref o :: []) h Q = aM d 163 (.ref o :: []) h (fun v h1 => aW (d + 1) 189 4 L (ab_ps v []) h1 Q) := ax_invv mt189 dX12_clash_1 (by decide) ct_49377 (.inl rfl) mt163 ⟨⟨Nat.le_of_ble_eq_true rfl, Nat.le_of_ble_eq_true rfl, Nat.le_of_ble_eq_true rfl⟩, rfl, rfl, rfl⟩ hT
theorem s189_4 : aW d 189 4 L (.int a :: S) h Q = (if a = 0 then aW d 189 7 L S h Q else aW d 189 10 L S h Q) := ax_if_ne mt189 dX12_clash_4 (by decide)
theorem s189_7 : aW d 189 7 L S h Q = aW d 189 9 L (.int ((-3)) :: S) h Q := ax_bipush mt189 dX12_clash_7 bp_m3
theorem s189_9 : aW d 189 9 L [.int a] h Q = Q (some (.int a)) h := ax_reti mt189 dX12_clash_9 rfl
theorem s189_10 : aW d 189 10 L S h Q = aW d 189 11 L (.int (nI 0) :: S) h Q := ax_iconst mt189 dX12_clash_10 ic_0
theorem s189_11 : aW d 189 11 [l0, l1, l2] (.int a :: S) h Q = aW d 189 12 [l0, .int a, l2] S h Q := ax_istore_n mt189 dX12_clash_11 (Nat.le_of_ble_eq_true rfl) rfl
theorem s189_12 : aW d 189 12 [l0, .int a, l2] S h Q = aW d 189 13 [l0, .int a, l2] (.int a :: S) h Q := ax_iload_n mt189 dX12_clash_12 rfl
theorem s189_13 : aW d 189 13 L S h Q = aW d 189 15 L (.int (nI 12) :: S) h Q := ax_bipush mt189 dX12_clash_13 bp_12
theorem s189_15 : aW d 189 15 L (.int b :: .int a :: S) h Q = (if a < b then aW d 189 18 L S h Q else aW d 189 56 L S h Q) := ax_icmp_ge mt189 dX12_clash_15 (by decide)
theorem s189_18 : aW d 189 18 [l0, .int a, l2] S h Q = aW d 189 19 [l0, .int a, l2] (.int a :: S) h Q := ax_iload_n mt189 dX12_clash_18 rfl
theorem s189_19 : aW d 189 19 L S h Q = aW d 189 20 L (.int (nI 1) :: S) h Q := ax_iconst mt189 dX12_clash_19 ic_1
theorem s189_20 : aW d 189 20 L (.int b :: .int a :: S) h Q = aW d 189 21 L (.int (a + b) :: S) h Q := ax_iadd mt189 dX12_clash_20
theorem s189_21 : aW d 189 21 [l0, l1, l2] (.int a :: S) h Q = aW d 189 22 [l0, l1, .int a] S h Q := ax_istore_n mt189 dX12_clash_21 (Nat.le_of_ble_eq_true rfl) rfl
theorem s189_22 : aW d 189 22 [l0, l1, .int a] S h Q = aW d 189 23 [l0, l1, .int a] (.int a :: S) h Q := ax_iload_n mt189 dX12_clash_22 rfl
theorem s189_23 : aW d 189 23 L S h Q = aW d 189 25 L (.int (nI 12) :: S) h Q := ax_bipush mt189 dX12_clash_23 bp_12
theorem s189_25 : aW d 189 25 L (.int b :: .int a :: S) h Q = (if a < b then aW d 189 28 L S h Q else aW d 189 50 L S h Q) := ax_icmp_ge mt189 dX12_clash_25 (by decide)
theorem s189_28 : aW d 189 28 [.ref o, l1, l2] S h Q = aW d 189 29 [.ref o, l1, l2] (.ref o :: S) h Q := ax_aload_n mt189 dX12_clash_28 rfl
theorem s189_29 : aW d 189 29 [l0, .int a, l2] S h Q = aW d 189 30 [l0, .int a, l2] (.int a :: S) h Q := ax_iload_n mt189 dX12_clash_29 rfl
theorem s189_30 : aW d 189 30 [l0, l1, .int a] S h Q = aW d 189 31 [l0, l1, .int a] (.int a :: S) h Q := ax_iload_n mt189 dX12_clash_30 rfl
theorem s189_31 (hT : gT h o = some (14, 54)) : aW (d + 1) 189 31 L (.int x1 :: .int x0 :: .ref o :: []) h Q = aM d 188 (.ref o :: [.int x0, .int x1]) h (fun v h1 => aW (d + 1) 189 34 L (ab_ps v []) h1 Q) := ax_invv mt189 dX12_clash_31 (by decide) ct_49424 (.inl rfl) mt188 ⟨⟨Nat.le_of_ble_eq_true rfl, Nat.le_of_ble_eq_true rfl, Nat.le_of_ble_eq_true rfl⟩, rfl, rfl, rfl⟩ hT
theorem s189_34 : aW d 189 34 L (.int a :: S) h Q = (if a = 0 then aW d 189 44 L S h Q else aW d 189 37 L S h Q) := ax_if_eq mt189 dX12_clash_34 (by decide)
theorem s189_37 : aW d 189 37 L S h Q = aW d 189 39 L (.int (nI 100) :: S) h Q := ax_bipush mt189 dX12_clash_37 bp_100
theorem s189_39 : aW d 189 39 [l0, .int a, l2] S h Q = aW d 189 40 [l0, .int a, l2] (.int a :: S) h Q := ax_iload_n mt189 dX12_clash_39 rfl
theorem s189_40 : aW d 189 40 L (.int b :: .int a :: S) h Q = aW d 189 41 L (.int (a * b) :: S) h Q := ax_imul mt189 dX12_clash_40
theorem s189_41 : aW d 189 41 [l0, l1, .int a] S h Q = aW d 189 42 [l0, l1, .int a] (.int a :: S) h Q := ax_iload_n mt189 dX12_clash_41 rfl
theorem s189_42 : aW d 189 42 L (.int b :: .int a :: S) h Q = aW d 189 43 L (.int (a + b) :: S) h Q := ax_iadd mt189 dX12_clash_42
theorem s189_43 : aW d 189 43 L [.int a] h Q = Q (some (.int a)) h := ax_reti mt189 dX12_clash_43 rfl
theorem s189_44 : aW d 189 44 [l0, l1, .int a] S h Q = aW d 189 47 [l0, l1, .int (a + nI 1)] S h Q := ax_iinc mt189 dX12_clash_44 rfl ic_1 rfl
theorem s189_47 : aW d 189 47 L S h Q = aW d 189 22 L S h Q := ax_goto mt189 dX12_clash_47 (by decide)
theorem s189_50 : aW d 189 50 [l0, .int a, l2] S h Q = aW d 189 53 [l0, .int (a + nI 1), l2] S h Q := ax_iinc mt189 dX12_clash_50 rfl ic_1 rfl
theorem s189_53 : aW d 189 53 L S h Q = aW d 189 12 L S h Q := ax_goto mt189 dX12_clash_53 (by decide)
theorem s189_56 : aW d 189 56 L S h Q = aW d 189 57 L (.int ((-1)) :: S) h Q := ax_iconst mt189 dX12_clash_56 ic_m1
theorem s189_57 : aW d 189 57 L [.int a] h Q = Q (some (.int a)) h := ax_reti mt189 dX12_clash_57 rfl
-- method 190: BufferRoomModel.isOut(II)Z
theorem dX12_isOut_0 : decode cX12_isOut 0 = .ok (.aload_n 0, 1) := by decide +kernel
theorem dX12_isOut_1 : decode cX12_isOut 1 = .ok (.iload_n 1, 1) := by decide +kernel
theorem dX12_isOut_2 : decode cX12_isOut 2 = .ok (.iload_n 2, 1) := by decide +kernel
theorem dX12_isOut_3 : decode cX12_isOut 3 = .ok (.invokevirtual 231, 3) := by decide +kernel
theorem dX12_isOut_6 : decode cX12_isOut 6 = .ok (.ifCond .eq 36, 3) := by decide +kernel
theorem dX12_isOut_9 : decode cX12_isOut 9 = .ok (.aload_n 0, 1) := by decide +kernel
theorem dX12_isOut_10 : decode cX12_isOut 10 = .ok (.aload_n 0, 1) := by decide +kernel
theorem dX12_isOut_11 : decode cX12_isOut 11 = .ok (.getfield 104, 3) := by decide +kernel
theorem dX12_isOut_14 : decode cX12_isOut 14 = .ok (.iload_n 2, 1) := by decide +kernel
theorem dX12_isOut_15 : decode cX12_isOut 15 = .ok (.iaload, 1) := by decide +kernel
theorem dX12_isOut_16 : decode cX12_isOut 16 = .ok (.iload_n 1, 1) := by decide +kernel
theorem dX12_isOut_17 : decode cX12_isOut 17 = .ok (.invokevirtual 219, 3) := by decide +kernel
theorem dX12_isOut_20 : decode cX12_isOut 20 = .ok (.ifCond .ne 22, 3) := by decide +kernel
theorem dX12_isOut_23 : decode cX12_isOut 23 = .ok (.aload_n 0, 1) := by decide +kernel
theorem dX12_isOut_24 : decode cX12_isOut 24 = .ok (.getfield 38, 3) := by decide +kernel
theorem dX12_isOut_27 : decode cX12_isOut 27 = .ok (.aload_n 0, 1) := by decide +kernel
theorem dX12_isOut_28 : decode cX12_isOut 28 = .ok (.getfield 104, 3) := by decide +kernel
theorem dX12_isOut_31 : decode cX12_isOut 31 = .ok (.iload_n 2, 1) := by decide +kernel
theorem dX12_isOut_32 : decode cX12_isOut 32 = .ok (.iaload, 1) := by decide +kernel
theorem dX12_isOut_33 : decode cX12_isOut 33 = .ok (.iaload, 1) := by decide +kernel
theorem dX12_isOut_34 : decode cX12_isOut 34 = .ok (.iload_n 1, 1) := by decide +kernel
theorem dX12_isOut_35 : decode cX12_isOut 35 = .ok (.if_icmp .eq 7, 3) := by decide +kernel
theorem dX12_isOut_38 : decode cX12_isOut 38 = .ok (.iconst 1, 1) := by decide +kernel
theorem dX12_isOut_39 : decode cX12_isOut 39 = .ok (.goto 4, 3) := by decide +kernel
theorem dX12_isOut_42 : decode cX12_isOut 42 = .ok (.iconst 0, 1) := by decide +kernel
theorem dX12_isOut_43 : decode cX12_isOut 43 = .ok (.ireturn, 1) := by decide +kernel
theorem s190_0 : aW d 190 0 [.ref o, l1, l2] S h Q = aW d 190 1 [.ref o, l1, l2] (.ref o :: S) h Q := ax_aload_n mt190 dX12_isOut_0 rfl
theorem s190_1 : aW d 190 1 [l0, .int a, l2] S h Q = aW d 190 2 [l0, .int a, l2] (.int a :: S) h Q := ax_iload_n mt190 dX12_isOut_1 rfl
theorem s190_2 : aW d 190 2 [l0, l1, .int a] S h Q = aW d 190 3 [l0, l1, .int a] (.int a :: S) h Q := ax_iload_n mt190 dX12_isOut_2 rfl
theorem s190_3 (hT : gT h o = some (14, 54)) : aW (d + 1) 190 3 L (.int x1 :: .int x0 :: .ref o :: []) h Q = aM d 165 (.ref o :: [.int x0, .int x1]) h (fun v h1 => aW (d + 1) 190 6 L (ab_ps v []) h1 Q) := ax_invv mt190 dX12_isOut_3 (by decide) ct_49383 (.inl rfl) mt165 ⟨⟨Nat.le_of_ble_eq_true rfl, Nat.le_of_ble_eq_true rfl, Nat.le_of_ble_eq_true rfl⟩, rfl, rfl, rfl⟩ hT
theorem s190_6 : aW d 190 6 L (.int a :: S) h Q = (if a = 0 then aW d 190 42 L S h Q else aW d 190 9 L S h Q) := ax_if_eq mt190 dX12_isOut_6 (by decide)
theorem s190_9 : aW d 190 9 [.ref o, l1, l2] S h Q = aW d 190 10 [.ref o, l1, l2] (.ref o :: S) h Q := ax_aload_n mt190 dX12_isOut_9 rfl
theorem s190_10 : aW d 190 10 [.ref o, l1, l2] S h Q = aW d 190 11 [.ref o, l1, l2] (.ref o :: S) h Q := ax_aload_n mt190 dX12_isOut_10 rfl
theorem s190_11 (hT : gT h o = some (14, 54)) : aW d 190 11 L (.ref o :: S) h Q = (isRf (gR h o 46) = true ∧ aW d 190 14 L (gR h o 46 :: S) h Q) := ax_geta mt190 dX12_isOut_11 (by decide) ft_49256 fk_49256 hT
theorem s190_14 : aW d 190 14 [l0, l1, .int a] S h Q = aW d 190 15 [l0, l1, .int a] (.int a :: S) h Q := ax_iload_n mt190 dX12_isOut_14 rfl
theorem s190_15 : aW d 190 15 L (.int a :: .ref o :: S) h Q = (inb a (aI h o) ∧ aW d 190 16 L (.int (gI h o a.toNatClampNeg) :: S) h Q) := ax_iald mt190 dX12_isOut_15
theorem s190_16 : aW d 190 16 [l0, .int a, l2] S h Q = aW d 190 17 [l0, .int a, l2] (.int a :: S) h Q := ax_iload_n mt190 dX12_isOut_16 rfl
theorem s190_17 (hT : gT h o = some (14, 54)) : aW (d + 1) 190 17 L (.int x1 :: .int x0 :: .ref o :: []) h Q = aM d 160 (.ref o :: [.int x0, .int x1]) h (fun v h1 => aW (d + 1) 190 20 L (ab_ps v []) h1 Q) := ax_invv mt190 dX12_isOut_17 (by decide) ct_49371 (.inl rfl) mt160 ⟨⟨Nat.le_of_ble_eq_true rfl, Nat.le_of_ble_eq_true rfl, Nat.le_of_ble_eq_true rfl⟩, rfl, rfl, rfl⟩ hT
theorem s190_20 : aW d 190 20 L (.int a :: S) h Q = (if a = 0 then aW d 190 23 L S h Q else aW d 190 42 L S h Q) := ax_if_ne mt190 dX12_isOut_20 (by decide)
theorem s190_23 : aW d 190 23 [.ref o, l1, l2] S h Q = aW d 190 24 [.ref o, l1, l2] (.ref o :: S) h Q := ax_aload_n mt190 dX12_isOut_23 rfl
theorem s190_24 (hT : gT h o = some (14, 54)) : aW d 190 24 L (.ref o :: S) h Q = (isRf (gR h o 12) = true ∧ aW d 190 27 L (gR h o 12 :: S) h Q) := ax_geta mt190 dX12_isOut_24 (by decide) ft_49190 fk_49190 hT
theorem s190_27 : aW d 190 27 [.ref o, l1, l2] S h Q = aW d 190 28 [.ref o, l1, l2] (.ref o :: S) h Q := ax_aload_n mt190 dX12_isOut_27 rfl
theorem s190_28 (hT : gT h o = some (14, 54)) : aW d 190 28 L (.ref o :: S) h Q = (isRf (gR h o 46) = true ∧ aW d 190 31 L (gR h o 46 :: S) h Q) := ax_geta mt190 dX12_isOut_28 (by decide) ft_49256 fk_49256 hT
theorem s190_31 : aW d 190 31 [l0, l1, .int a] S h Q = aW d 190 32 [l0, l1, .int a] (.int a :: S) h Q := ax_iload_n mt190 dX12_isOut_31 rfl
theorem s190_32 : aW d 190 32 L (.int a :: .ref o :: S) h Q = (inb a (aI h o) ∧ aW d 190 33 L (.int (gI h o a.toNatClampNeg) :: S) h Q) := ax_iald mt190 dX12_isOut_32
theorem s190_33 : aW d 190 33 L (.int a :: .ref o :: S) h Q = (inb a (aI h o) ∧ aW d 190 34 L (.int (gI h o a.toNatClampNeg) :: S) h Q) := ax_iald mt190 dX12_isOut_33
theorem s190_34 : aW d 190 34 [l0, .int a, l2] S h Q = aW d 190 35 [l0, .int a, l2] (.int a :: S) h Q := ax_iload_n mt190 dX12_isOut_34 rfl
theorem s190_35 : aW d 190 35 L (.int b :: .int a :: S) h Q = (if a = b then aW d 190 42 L S h Q else aW d 190 38 L S h Q) := ax_icmp_eq mt190 dX12_isOut_35 (by decide)
theorem s190_38 : aW d 190 38 L S h Q = aW d 190 39 L (.int (nI 1) :: S) h Q := ax_iconst mt190 dX12_isOut_38 ic_1
theorem s190_39 : aW d 190 39 L S h Q = aW d 190 43 L S h Q := ax_goto mt190 dX12_isOut_39 (by decide)
theorem s190_43 : aW d 190 43 L [.int a] h Q = (b01 a ∧ Q (some (.int a)) h) := ax_retz mt190 dX12_isOut_43 rfl
theorem s190_42 : aW d 190 42 L S h Q = aW d 190 43 L (.int (nI 0) :: S) h Q := ax_iconst mt190 dX12_isOut_42 ic_0
-- method 191: BufferRoomModel.timeOut(II)I
theorem dX12_timeOut_0 : decode cX12_timeOut 0 = .ok (.iconst 0, 1) := by decide +kernel
theorem dX12_timeOut_1 : decode cX12_timeOut 1 = .ok (.istore_n 3, 1) := by decide +kernel
theorem dX12_timeOut_2 : decode cX12_timeOut 2 = .ok (.iconst 0, 1) := by decide +kernel
theorem dX12_timeOut_3 : decode cX12_timeOut 3 = .ok (.istore 4, 2) := by decide +kernel
theorem dX12_timeOut_5 : decode cX12_timeOut 5 = .ok (.iload 4, 2) := by decide +kernel
theorem dX12_timeOut_7 : decode cX12_timeOut 7 = .ok (.aload_n 0, 1) := by decide +kernel
theorem dX12_timeOut_8 : decode cX12_timeOut 8 = .ok (.getfield 165, 3) := by decide +kernel
theorem dX12_timeOut_11 : decode cX12_timeOut 11 = .ok (.if_icmp .ge 65, 3) := by decide +kernel
theorem dX12_timeOut_14 : decode cX12_timeOut 14 = .ok (.iload_n 3, 1) := by decide +kernel
theorem dX12_timeOut_15 : decode cX12_timeOut 15 = .ok (.aload_n 0, 1) := by decide +kernel
theorem dX12_timeOut_16 : decode cX12_timeOut 16 = .ok (.iload_n 1, 1) := by decide +kernel
theorem dX12_timeOut_17 : decode cX12_timeOut 17 = .ok (.iload 4, 2) := by decide +kernel
theorem dX12_timeOut_19 : decode cX12_timeOut 19 = .ok (.invokevirtual 275, 3) := by decide +kernel
theorem dX12_timeOut_22 : decode cX12_timeOut 22 = .ok (.ifCond .eq 45, 3) := by decide +kernel
theorem dX12_timeOut_25 : decode cX12_timeOut 25 = .ok (.iload 4, 2) := by decide +kernel
theorem dX12_timeOut_27 : decode cX12_timeOut 27 = .ok (.ifCond .eq 24, 3) := by decide +kernel
theorem dX12_timeOut_30 : decode cX12_timeOut 30 = .ok (.aload_n 0, 1) := by decide +kernel
theorem dX12_timeOut_31 : decode cX12_timeOut 31 = .ok (.iload_n 1, 1) := by decide +kernel
theorem dX12_timeOut_32 : decode cX12_timeOut 32 = .ok (.iload 4, 2) := by decide +kernel
theorem dX12_timeOut_34 : decode cX12_timeOut 34 = .ok (.ifCond .ne 7, 3) := by decide +kernel
theorem dX12_timeOut_37 : decode cX12_timeOut 37 = .ok (.iconst 0, 1) := by decide +kernel
theorem dX12_timeOut_38 : decode cX12_timeOut 38 = .ok (.goto 7, 3) := by decide +kernel
theorem dX12_timeOut_41 : decode cX12_timeOut 41 = .ok (.iload 4, 2) := by decide +kernel
theorem dX12_timeOut_43 : decode cX12_timeOut 43 = .ok (.iconst 1, 1) := by decide +kernel
theorem dX12_timeOut_44 : decode cX12_timeOut 44 = .ok (.isub, 1) := by decide +kernel
theorem dX12_timeOut_45 : decode cX12_timeOut 45 = .ok (.invokevirtual 275, 3) := by decide +kernel
theorem dX12_timeOut_48 : decode cX12_timeOut 48 = .ok (.ifCond .ne 19, 3) := by decide +kernel
theorem dX12_timeOut_51 : decode cX12_timeOut 51 = .ok (.iconst 2, 1) := by decide +kernel
theorem dX12_timeOut_52 : decode cX12_timeOut 52 = .ok (.aload_n 0, 1) := by decide +kernel
theorem dX12_timeOut_53 : decode cX12_timeOut 53 = .ok (.iload_n 1, 1) := by decide +kernel
theorem dX12_timeOut_54 : decode cX12_timeOut 54 = .ok (.invokevirtual 204, 3) := by decide +kernel
theorem dX12_timeOut_57 : decode cX12_timeOut 57 = .ok (.imul, 1) := by decide +kernel
theorem dX12_timeOut_58 : decode cX12_timeOut 58 = .ok (.iload_n 2, 1) := by decide +kernel
theorem dX12_timeOut_59 : decode cX12_timeOut 59 = .ok (.iadd, 1) := by decide +kernel
theorem dX12_timeOut_60 : decode cX12_timeOut 60 = .ok (.iconst 1, 1) := by decide +kernel
theorem dX12_timeOut_61 : decode cX12_timeOut 61 = .ok (.isub, 1) := by decide +kernel
theorem dX12_timeOut_62 : decode cX12_timeOut 62 = .ok (.iload_n 2, 1) := by decide +kernel
theorem dX12_timeOut_63 : decode cX12_timeOut 63 = .ok (.idiv, 1) := by decide +kernel
theorem dX12_timeOut_64 : decode cX12_timeOut 64 = .ok (.goto 4, 3) := by decide +kernel
theorem dX12_timeOut_67 : decode cX12_timeOut 67 = .ok (.iconst 0, 1) := by decide +kernel
theorem dX12_timeOut_68 : decode cX12_timeOut 68 = .ok (.iadd, 1) := by decide +kernel
theorem dX12_timeOut_69 : decode cX12_timeOut 69 = .ok (.istore_n 3, 1) := by decide +kernel
theorem dX12_timeOut_70 : decode cX12_timeOut 70 = .ok (.iinc 4 1, 3) := by decide +kernel
theorem dX12_timeOut_73 : decode cX12_timeOut 73 = .ok (.goto (-68), 3) := by decide +kernel
theorem dX12_timeOut_76 : decode cX12_timeOut 76 = .ok (.iload_n 3, 1) := by decide +kernel
theorem dX12_timeOut_77 : decode cX12_timeOut 77 = .ok (.ireturn, 1) := by decide +kernel
theorem s191_0 : aW d 191 0 L S h Q = aW d 191 1 L (.int (nI 0) :: S) h Q := ax_iconst mt191 dX12_timeOut_0 ic_0
theorem s191_1 : aW d 191 1 [l0, l1, l2, l3, l4] (.int a :: S) h Q = aW d 191 2 [l0, l1, l2, .int a, l4] S h Q := ax_istore_n mt191 dX12_timeOut_1 (Nat.le_of_ble_eq_true rfl) rfl
theorem s191_2 : aW d 191 2 L S h Q = aW d 191 3 L (.int (nI 0) :: S) h Q := ax_iconst mt191 dX12_timeOut_2 ic_0
theorem s191_3 : aW d 191 3 [l0, l1, l2, l3, l4] (.int a :: S) h Q = aW d 191 5 [l0, l1, l2, l3, .int a] S h Q := ax_istore mt191 dX12_timeOut_3 (Nat.le_of_ble_eq_true rfl) rfl
theorem s191_5 : aW d 191 5 [l0, l1, l2, l3, .int a] S h Q = aW d 191 7 [l0, l1, l2, l3, .int a] (.int a :: S) h Q := ax_iload mt191 dX12_timeOut_5 rfl
theorem s191_7 : aW d 191 7 [.ref o, l1, l2, l3, l4] S h Q = aW d 191 8 [.ref o, l1, l2, l3, l4] (.ref o :: S) h Q := ax_aload_n mt191 dX12_timeOut_7 rfl
theorem s191_8 (hT : gT h o = some (14, 54)) : aW d 191 8 L (.ref o :: S) h Q = aW d 191 11 L (.int (gI h o 4) :: S) h Q := ax_geti mt191 dX12_timeOut_8 (by decide) ft_49317 fk_49317 hT
theorem s191_11 : aW d 191 11 L (.int b :: .int a :: S) h Q = (if a < b then aW d 191 14 L S h Q else aW d 191 76 L S h Q) := ax_icmp_ge mt191 dX12_timeOut_11 (by decide)
theorem s191_14 : aW d 191 14 [l0, l1, l2, .int a, l4] S h Q = aW d 191 15 [l0, l1, l2, .int a, l4] (.int a :: S) h Q := ax_iload_n mt191 dX12_timeOut_14 rfl
theorem s191_15 : aW d 191 15 [.ref o, l1, l2, l3, l4] S h Q = aW d 191 16 [.ref o, l1, l2, l3, l4] (.ref o :: S) h Q := ax_aload_n mt191 dX12_timeOut_15 rfl
theorem s191_16 : aW d 191 16 [l0, .int a, l2, l3, l4] S h Q = aW d 191 17 [l0, .int a, l2, l3, l4] (.int a :: S) h Q := ax_iload_n mt191 dX12_timeOut_16 rfl
theorem s191_17 : aW d 191 17 [l0, l1, l2, l3, .int a] S h Q = aW d 191 19 [l0, l1, l2, l3, .int a] (.int a :: S) h Q := ax_iload mt191 dX12_timeOut_17 rfl
theorem s191_19 (hT : gT h o = some (14, 54)) : aW (d + 1) 191 19 L (.int x1 :: .int x0 :: .ref o :: [.int y0]) h Q = aM d 190 (.ref o :: [.int x0, .int x1]) h (fun v h1 => aW (d + 1) 191 22 L (ab_ps v [.int y0]) h1 Q) := ax_invv mt191 dX12_timeOut_19 (by decide) ct_49427 (.inl rfl) mt190 ⟨⟨Nat.le_of_ble_eq_true rfl, Nat.le_of_ble_eq_true rfl, Nat.le_of_ble_eq_true rfl⟩, rfl, rfl, rfl⟩ hT
theorem s191_22 : aW d 191 22 L (.int a :: S) h Q = (if a = 0 then aW d 191 67 L S h Q else aW d 191 25 L S h Q) := ax_if_eq mt191 dX12_timeOut_22 (by decide)
theorem s191_25 : aW d 191 25 [l0, l1, l2, l3, .int a] S h Q = aW d 191 27 [l0, l1, l2, l3, .int a] (.int a :: S) h Q := ax_iload mt191 dX12_timeOut_25 rfl
theorem s191_27 : aW d 191 27 L (.int a :: S) h Q = (if a = 0 then aW d 191 51 L S h Q else aW d 191 30 L S h Q) := ax_if_eq mt191 dX12_timeOut_27 (by decide)
theorem s191_30 : aW d 191 30 [.ref o, l1, l2, l3, l4] S h Q = aW d 191 31 [.ref o, l1, l2, l3, l4] (.ref o :: S) h Q := ax_aload_n mt191 dX12_timeOut_30 rfl
theorem s191_31 : aW d 191 31 [l0, .int a, l2, l3, l4] S h Q = aW d 191 32 [l0, .int a, l2, l3, l4] (.int a :: S) h Q := ax_iload_n mt191 dX12_timeOut_31 rfl
theorem s191_32 : aW d 191 32 [l0, l1, l2, l3, .int a] S h Q = aW d 191 34 [l0, l1, l2, l3, .int a] (.int a :: S) h Q := ax_iload mt191 dX12_timeOut_32 rfl
theorem s191_34 : aW d 191 34 L (.int a :: S) h Q = (if a = 0 then aW d 191 37 L S h Q else aW d 191 41 L S h Q) := ax_if_ne mt191 dX12_timeOut_34 (by decide)
theorem s191_37 : aW d 191 37 L S h Q = aW d 191 38 L (.int (nI 0) :: S) h Q := ax_iconst mt191 dX12_timeOut_37 ic_0
theorem s191_38 : aW d 191 38 L S h Q = aW d 191 45 L S h Q := ax_goto mt191 dX12_timeOut_38 (by decide)
theorem s191_45 (hT : gT h o = some (14, 54)) : aW (d + 1) 191 45 L (.int x1 :: .int x0 :: .ref o :: [.int y0]) h Q = aM d 190 (.ref o :: [.int x0, .int x1]) h (fun v h1 => aW (d + 1) 191 48 L (ab_ps v [.int y0]) h1 Q) := ax_invv mt191 dX12_timeOut_45 (by decide) ct_49427 (.inl rfl) mt190 ⟨⟨Nat.le_of_ble_eq_true rfl, Nat.le_of_ble_eq_true rfl, Nat.le_of_ble_eq_true rfl⟩, rfl, rfl, rfl⟩ hT
theorem s191_48 : aW d 191 48 L (.int a :: S) h Q = (if a = 0 then aW d 191 51 L S h Q else aW d 191 67 L S h Q) := ax_if_ne mt191 dX12_timeOut_48 (by decide)
theorem s191_41 : aW d 191 41 [l0, l1, l2, l3, .int a] S h Q = aW d 191 43 [l0, l1, l2, l3, .int a] (.int a :: S) h Q := ax_iload mt191 dX12_timeOut_41 rfl
theorem s191_43 : aW d 191 43 L S h Q = aW d 191 44 L (.int (nI 1) :: S) h Q := ax_iconst mt191 dX12_timeOut_43 ic_1
theorem s191_44 : aW d 191 44 L (.int b :: .int a :: S) h Q = aW d 191 45 L (.int (a - b) :: S) h Q := ax_isub mt191 dX12_timeOut_44
theorem s191_51 : aW d 191 51 L S h Q = aW d 191 52 L (.int (nI 2) :: S) h Q := ax_iconst mt191 dX12_timeOut_51 ic_2
theorem s191_52 : aW d 191 52 [.ref o, l1, l2, l3, l4] S h Q = aW d 191 53 [.ref o, l1, l2, l3, l4] (.ref o :: S) h Q := ax_aload_n mt191 dX12_timeOut_52 rfl
theorem s191_53 : aW d 191 53 [l0, .int a, l2, l3, l4] S h Q = aW d 191 54 [l0, .int a, l2, l3, l4] (.int a :: S) h Q := ax_iload_n mt191 dX12_timeOut_53 rfl
theorem s191_54 (hT : gT h o = some (14, 54)) : aW (d + 1) 191 54 L (.int x0 :: .ref o :: [.int y0, .int y1]) h Q = aM d 154 (.ref o :: [.int x0]) h (fun v h1 => aW (d + 1) 191 57 L (ab_ps v [.int y0, .int y1]) h1 Q) := ax_invv mt191 dX12_timeOut_54 (by decide) ct_49356 (.inl rfl) mt154 ⟨⟨Nat.le_of_ble_eq_true rfl, Nat.le_of_ble_eq_true rfl, Nat.le_of_ble_eq_true rfl⟩, rfl, rfl, rfl⟩ hT
theorem s191_57 : aW d 191 57 L (.int b :: .int a :: S) h Q = aW d 191 58 L (.int (a * b) :: S) h Q := ax_imul mt191 dX12_timeOut_57
theorem s191_58 : aW d 191 58 [l0, l1, .int a, l3, l4] S h Q = aW d 191 59 [l0, l1, .int a, l3, l4] (.int a :: S) h Q := ax_iload_n mt191 dX12_timeOut_58 rfl
theorem s191_59 : aW d 191 59 L (.int b :: .int a :: S) h Q = aW d 191 60 L (.int (a + b) :: S) h Q := ax_iadd mt191 dX12_timeOut_59
theorem s191_60 : aW d 191 60 L S h Q = aW d 191 61 L (.int (nI 1) :: S) h Q := ax_iconst mt191 dX12_timeOut_60 ic_1
theorem s191_61 : aW d 191 61 L (.int b :: .int a :: S) h Q = aW d 191 62 L (.int (a - b) :: S) h Q := ax_isub mt191 dX12_timeOut_61
theorem s191_62 : aW d 191 62 [l0, l1, .int a, l3, l4] S h Q = aW d 191 63 [l0, l1, .int a, l3, l4] (.int a :: S) h Q := ax_iload_n mt191 dX12_timeOut_62 rfl
theorem s191_63 : aW d 191 63 L (.int b :: .int a :: S) h Q = ((¬ b = 0) ∧ aW d 191 64 L (.int (a / b) :: S) h Q) := ax_idiv mt191 dX12_timeOut_63
theorem s191_64 : aW d 191 64 L S h Q = aW d 191 68 L S h Q := ax_goto mt191 dX12_timeOut_64 (by decide)
theorem s191_68 : aW d 191 68 L (.int b :: .int a :: S) h Q = aW d 191 69 L (.int (a + b) :: S) h Q := ax_iadd mt191 dX12_timeOut_68
theorem s191_69 : aW d 191 69 [l0, l1, l2, l3, l4] (.int a :: S) h Q = aW d 191 70 [l0, l1, l2, .int a, l4] S h Q := ax_istore_n mt191 dX12_timeOut_69 (Nat.le_of_ble_eq_true rfl) rfl
theorem s191_70 : aW d 191 70 [l0, l1, l2, l3, .int a] S h Q = aW d 191 73 [l0, l1, l2, l3, .int (a + nI 1)] S h Q := ax_iinc mt191 dX12_timeOut_70 rfl ic_1 rfl
theorem s191_73 : aW d 191 73 L S h Q = aW d 191 5 L S h Q := ax_goto mt191 dX12_timeOut_73 (by decide)
theorem s191_67 : aW d 191 67 L S h Q = aW d 191 68 L (.int (nI 0) :: S) h Q := ax_iconst mt191 dX12_timeOut_67 ic_0
theorem s191_76 : aW d 191 76 [l0, l1, l2, .int a, l4] S h Q = aW d 191 77 [l0, l1, l2, .int a, l4] (.int a :: S) h Q := ax_iload_n mt191 dX12_timeOut_76 rfl
theorem s191_77 : aW d 191 77 L [.int a] h Q = Q (some (.int a)) h := ax_reti mt191 dX12_timeOut_77 rfl
-- method 192: BufferRoomModel.fits(II)Z
theorem dX12_fits_0 : decode cX12_fits 0 = .ok (.iconst 0, 1) := by decide +kernel
theorem dX12_fits_1 : decode cX12_fits 1 = .ok (.istore_n 3, 1) := by decide +kernel
theorem dX12_fits_2 : decode cX12_fits 2 = .ok (.iload_n 3, 1) := by decide +kernel
theorem dX12_fits_3 : decode cX12_fits 3 = .ok (.aload_n 0, 1) := by decide +kernel
theorem dX12_fits_4 : decode cX12_fits 4 = .ok (.getfield 165, 3) := by decide +kernel
theorem dX12_fits_7 : decode cX12_fits 7 = .ok (.if_icmp .ge 75, 3) := by decide +kernel
theorem dX12_fits_10 : decode cX12_fits 10 = .ok (.aload_n 0, 1) := by decide +kernel
theorem dX12_fits_11 : decode cX12_fits 11 = .ok (.iload_n 3, 1) := by decide +kernel
theorem dX12_fits_12 : decode cX12_fits 12 = .ok (.invokevirtual 237, 3) := by decide +kernel
theorem dX12_fits_15 : decode cX12_fits 15 = .ok (.istore 4, 2) := by decide +kernel
theorem dX12_fits_17 : decode cX12_fits 17 = .ok (.iconst 0, 1) := by decide +kernel
theorem dX12_fits_18 : decode cX12_fits 18 = .ok (.istore 5, 2) := by decide +kernel
theorem dX12_fits_20 : decode cX12_fits 20 = .ok (.iload 5, 2) := by decide +kernel
theorem dX12_fits_22 : decode cX12_fits 22 = .ok (.bipush 12, 2) := by decide +kernel
theorem dX12_fits_24 : decode cX12_fits 24 = .ok (.if_icmp .ge 44, 3) := by decide +kernel
theorem dX12_fits_27 : decode cX12_fits 27 = .ok (.iload 4, 2) := by decide +kernel
theorem dX12_fits_29 : decode cX12_fits 29 = .ok (.iload_n 1, 1) := by decide +kernel
theorem dX12_fits_30 : decode cX12_fits 30 = .ok (.iload 5, 2) := by decide +kernel
theorem dX12_fits_32 : decode cX12_fits 32 = .ok (.ishr, 1) := by decide +kernel
theorem dX12_fits_33 : decode cX12_fits 33 = .ok (.iconst 1, 1) := by decide +kernel
theorem dX12_fits_34 : decode cX12_fits 34 = .ok (.iand, 1) := by decide +kernel
theorem dX12_fits_35 : decode cX12_fits 35 = .ok (.iconst 1, 1) := by decide +kernel
theorem dX12_fits_36 : decode cX12_fits 36 = .ok (.if_icmp .ne 22, 3) := by decide +kernel
theorem dX12_fits_39 : decode cX12_fits 39 = .ok (.aload_n 0, 1) := by decide +kernel
theorem dX12_fits_40 : decode cX12_fits 40 = .ok (.iload 5, 2) := by decide +kernel
theorem dX12_fits_42 : decode cX12_fits 42 = .ok (.iload_n 3, 1) := by decide +kernel
theorem dX12_fits_43 : decode cX12_fits 43 = .ok (.invokevirtual 275, 3) := by decide +kernel
theorem dX12_fits_46 : decode cX12_fits 46 = .ok (.ifCond .eq 12, 3) := by decide +kernel
theorem dX12_fits_49 : decode cX12_fits 49 = .ok (.aload_n 0, 1) := by decide +kernel
theorem dX12_fits_50 : decode cX12_fits 50 = .ok (.iload 5, 2) := by decide +kernel
theorem dX12_fits_52 : decode cX12_fits 52 = .ok (.invokevirtual 204, 3) := by decide +kernel
theorem dX12_fits_55 : decode cX12_fits 55 = .ok (.goto 4, 3) := by decide +kernel
theorem dX12_fits_58 : decode cX12_fits 58 = .ok (.iconst 0, 1) := by decide +kernel
theorem dX12_fits_59 : decode cX12_fits 59 = .ok (.isub, 1) := by decide +kernel
theorem dX12_fits_60 : decode cX12_fits 60 = .ok (.istore 4, 2) := by decide +kernel
theorem dX12_fits_62 : decode cX12_fits 62 = .ok (.iinc 5 1, 3) := by decide +kernel
theorem dX12_fits_65 : decode cX12_fits 65 = .ok (.goto (-45), 3) := by decide +kernel
theorem dX12_fits_68 : decode cX12_fits 68 = .ok (.iload 4, 2) := by decide +kernel
theorem dX12_fits_70 : decode cX12_fits 70 = .ok (.iload_n 2, 1) := by decide +kernel
theorem dX12_fits_71 : decode cX12_fits 71 = .ok (.if_icmp .le 5, 3) := by decide +kernel
theorem dX12_fits_74 : decode cX12_fits 74 = .ok (.iconst 0, 1) := by decide +kernel
theorem dX12_fits_75 : decode cX12_fits 75 = .ok (.ireturn, 1) := by decide +kernel
theorem dX12_fits_76 : decode cX12_fits 76 = .ok (.iinc 3 1, 3) := by decide +kernel
theorem dX12_fits_79 : decode cX12_fits 79 = .ok (.goto (-77), 3) := by decide +kernel
theorem dX12_fits_82 : decode cX12_fits 82 = .ok (.iconst 1, 1) := by decide +kernel
theorem dX12_fits_83 : decode cX12_fits 83 = .ok (.ireturn, 1) := by decide +kernel
theorem s192_0 : aW d 192 0 L S h Q = aW d 192 1 L (.int (nI 0) :: S) h Q := ax_iconst mt192 dX12_fits_0 ic_0
theorem s192_1 : aW d 192 1 [l0, l1, l2, l3, l4, l5] (.int a :: S) h Q = aW d 192 2 [l0, l1, l2, .int a, l4, l5] S h Q := ax_istore_n mt192 dX12_fits_1 (Nat.le_of_ble_eq_true rfl) rfl
theorem s192_2 : aW d 192 2 [l0, l1, l2, .int a, l4, l5] S h Q = aW d 192 3 [l0, l1, l2, .int a, l4, l5] (.int a :: S) h Q := ax_iload_n mt192 dX12_fits_2 rfl
theorem s192_3 : aW d 192 3 [.ref o, l1, l2, l3, l4, l5] S h Q = aW d 192 4 [.ref o, l1, l2, l3, l4, l5] (.ref o :: S) h Q := ax_aload_n mt192 dX12_fits_3 rfl
theorem s192_4 (hT : gT h o = some (14, 54)) : aW d 192 4 L (.ref o :: S) h Q = aW d 192 7 L (.int (gI h o 4) :: S) h Q := ax_geti mt192 dX12_fits_4 (by decide) ft_49317 fk_49317 hT
theorem s192_7 : aW d 192 7 L (.int b :: .int a :: S) h Q = (if a < b then aW d 192 10 L S h Q else aW d 192 82 L S h Q) := ax_icmp_ge mt192 dX12_fits_7 (by decide)
theorem s192_10 : aW d 192 10 [.ref o, l1, l2, l3, l4, l5] S h Q = aW d 192 11 [.ref o, l1, l2, l3, l4, l5] (.ref o :: S) h Q := ax_aload_n mt192 dX12_fits_10 rfl
theorem s192_11 : aW d 192 11 [l0, l1, l2, .int a, l4, l5] S h Q = aW d 192 12 [l0, l1, l2, .int a, l4, l5] (.int a :: S) h Q := ax_iload_n mt192 dX12_fits_11 rfl
theorem s192_12 (hT : gT h o = some (14, 54)) : aW (d + 1) 192 12 L (.int x0 :: .ref o :: []) h Q = aM d 170 (.ref o :: [.int x0]) h (fun v h1 => aW (d + 1) 192 15 L (ab_ps v []) h1 Q) := ax_invv mt192 dX12_fits_12 (by decide) ct_49389 (.inl rfl) mt170 ⟨⟨Nat.le_of_ble_eq_true rfl, Nat.le_of_ble_eq_true rfl, Nat.le_of_ble_eq_true rfl⟩, rfl, rfl, rfl⟩ hT
theorem s192_15 : aW d 192 15 [l0, l1, l2, l3, l4, l5] (.int a :: S) h Q = aW d 192 17 [l0, l1, l2, l3, .int a, l5] S h Q := ax_istore mt192 dX12_fits_15 (Nat.le_of_ble_eq_true rfl) rfl
theorem s192_17 : aW d 192 17 L S h Q = aW d 192 18 L (.int (nI 0) :: S) h Q := ax_iconst mt192 dX12_fits_17 ic_0
theorem s192_18 : aW d 192 18 [l0, l1, l2, l3, l4, l5] (.int a :: S) h Q = aW d 192 20 [l0, l1, l2, l3, l4, .int a] S h Q := ax_istore mt192 dX12_fits_18 (Nat.le_of_ble_eq_true rfl) rfl
theorem s192_20 : aW d 192 20 [l0, l1, l2, l3, l4, .int a] S h Q = aW d 192 22 [l0, l1, l2, l3, l4, .int a] (.int a :: S) h Q := ax_iload mt192 dX12_fits_20 rfl
theorem s192_22 : aW d 192 22 L S h Q = aW d 192 24 L (.int (nI 12) :: S) h Q := ax_bipush mt192 dX12_fits_22 bp_12
theorem s192_24 : aW d 192 24 L (.int b :: .int a :: S) h Q = (if a < b then aW d 192 27 L S h Q else aW d 192 68 L S h Q) := ax_icmp_ge mt192 dX12_fits_24 (by decide)
theorem s192_27 : aW d 192 27 [l0, l1, l2, l3, .int a, l5] S h Q = aW d 192 29 [l0, l1, l2, l3, .int a, l5] (.int a :: S) h Q := ax_iload mt192 dX12_fits_27 rfl
theorem s192_29 : aW d 192 29 [l0, .int a, l2, l3, l4, l5] S h Q = aW d 192 30 [l0, .int a, l2, l3, l4, l5] (.int a :: S) h Q := ax_iload_n mt192 dX12_fits_29 rfl
theorem s192_30 : aW d 192 30 [l0, l1, l2, l3, l4, .int a] S h Q = aW d 192 32 [l0, l1, l2, l3, l4, .int a] (.int a :: S) h Q := ax_iload mt192 dX12_fits_30 rfl
theorem s192_32 : aW d 192 32 L (.int b :: .int a :: S) h Q = aW d 192 33 L (.int (a >>> (b &&& 31)) :: S) h Q := ax_ishr mt192 dX12_fits_32
theorem s192_33 : aW d 192 33 L S h Q = aW d 192 34 L (.int (nI 1) :: S) h Q := ax_iconst mt192 dX12_fits_33 ic_1
theorem s192_34 : aW d 192 34 L (.int b :: .int a :: S) h Q = aW d 192 35 L (.int (a &&& b) :: S) h Q := ax_iand mt192 dX12_fits_34
theorem s192_35 : aW d 192 35 L S h Q = aW d 192 36 L (.int (nI 1) :: S) h Q := ax_iconst mt192 dX12_fits_35 ic_1
theorem s192_36 : aW d 192 36 L (.int b :: .int a :: S) h Q = (if a = b then aW d 192 39 L S h Q else aW d 192 58 L S h Q) := ax_icmp_ne mt192 dX12_fits_36 (by decide)
theorem s192_39 : aW d 192 39 [.ref o, l1, l2, l3, l4, l5] S h Q = aW d 192 40 [.ref o, l1, l2, l3, l4, l5] (.ref o :: S) h Q := ax_aload_n mt192 dX12_fits_39 rfl
theorem s192_40 : aW d 192 40 [l0, l1, l2, l3, l4, .int a] S h Q = aW d 192 42 [l0, l1, l2, l3, l4, .int a] (.int a :: S) h Q := ax_iload mt192 dX12_fits_40 rfl
theorem s192_42 : aW d 192 42 [l0, l1, l2, .int a, l4, l5] S h Q = aW d 192 43 [l0, l1, l2, .int a, l4, l5] (.int a :: S) h Q := ax_iload_n mt192 dX12_fits_42 rfl
theorem s192_43 (hT : gT h o = some (14, 54)) : aW (d + 1) 192 43 L (.int x1 :: .int x0 :: .ref o :: [.int y0]) h Q = aM d 190 (.ref o :: [.int x0, .int x1]) h (fun v h1 => aW (d + 1) 192 46 L (ab_ps v [.int y0]) h1 Q) := ax_invv mt192 dX12_fits_43 (by decide) ct_49427 (.inl rfl) mt190 ⟨⟨Nat.le_of_ble_eq_true rfl, Nat.le_of_ble_eq_true rfl, Nat.le_of_ble_eq_true rfl⟩, rfl, rfl, rfl⟩ hT
theorem s192_46 : aW d 192 46 L (.int a :: S) h Q = (if a = 0 then aW d 192 58 L S h Q else aW d 192 49 L S h Q) := ax_if_eq mt192 dX12_fits_46 (by decide)
theorem s192_49 : aW d 192 49 [.ref o, l1, l2, l3, l4, l5] S h Q = aW d 192 50 [.ref o, l1, l2, l3, l4, l5] (.ref o :: S) h Q := ax_aload_n mt192 dX12_fits_49 rfl
theorem s192_50 : aW d 192 50 [l0, l1, l2, l3, l4, .int a] S h Q = aW d 192 52 [l0, l1, l2, l3, l4, .int a] (.int a :: S) h Q := ax_iload mt192 dX12_fits_50 rfl
theorem s192_52 (hT : gT h o = some (14, 54)) : aW (d + 1) 192 52 L (.int x0 :: .ref o :: [.int y0]) h Q = aM d 154 (.ref o :: [.int x0]) h (fun v h1 => aW (d + 1) 192 55 L (ab_ps v [.int y0]) h1 Q) := ax_invv mt192 dX12_fits_52 (by decide) ct_49356 (.inl rfl) mt154 ⟨⟨Nat.le_of_ble_eq_true rfl, Nat.le_of_ble_eq_true rfl, Nat.le_of_ble_eq_true rfl⟩, rfl, rfl, rfl⟩ hT
theorem s192_55 : aW d 192 55 L S h Q = aW d 192 59 L S h Q := ax_goto mt192 dX12_fits_55 (by decide)
theorem s192_59 : aW d 192 59 L (.int b :: .int a :: S) h Q = aW d 192 60 L (.int (a - b) :: S) h Q := ax_isub mt192 dX12_fits_59
theorem s192_60 : aW d 192 60 [l0, l1, l2, l3, l4, l5] (.int a :: S) h Q = aW d 192 62 [l0, l1, l2, l3, .int a, l5] S h Q := ax_istore mt192 dX12_fits_60 (Nat.le_of_ble_eq_true rfl) rfl
theorem s192_62 : aW d 192 62 [l0, l1, l2, l3, l4, .int a] S h Q = aW d 192 65 [l0, l1, l2, l3, l4, .int (a + nI 1)] S h Q := ax_iinc mt192 dX12_fits_62 rfl ic_1 rfl
theorem s192_65 : aW d 192 65 L S h Q = aW d 192 20 L S h Q := ax_goto mt192 dX12_fits_65 (by decide)
theorem s192_58 : aW d 192 58 L S h Q = aW d 192 59 L (.int (nI 0) :: S) h Q := ax_iconst mt192 dX12_fits_58 ic_0
theorem s192_68 : aW d 192 68 [l0, l1, l2, l3, .int a, l5] S h Q = aW d 192 70 [l0, l1, l2, l3, .int a, l5] (.int a :: S) h Q := ax_iload mt192 dX12_fits_68 rfl
theorem s192_70 : aW d 192 70 [l0, l1, .int a, l3, l4, l5] S h Q = aW d 192 71 [l0, l1, .int a, l3, l4, l5] (.int a :: S) h Q := ax_iload_n mt192 dX12_fits_70 rfl
theorem s192_71 : aW d 192 71 L (.int b :: .int a :: S) h Q = (if b < a then aW d 192 74 L S h Q else aW d 192 76 L S h Q) := ax_icmp_le mt192 dX12_fits_71 (by decide)
theorem s192_74 : aW d 192 74 L S h Q = aW d 192 75 L (.int (nI 0) :: S) h Q := ax_iconst mt192 dX12_fits_74 ic_0
theorem s192_75 : aW d 192 75 L [.int a] h Q = (b01 a ∧ Q (some (.int a)) h) := ax_retz mt192 dX12_fits_75 rfl
theorem s192_76 : aW d 192 76 [l0, l1, l2, .int a, l4, l5] S h Q = aW d 192 79 [l0, l1, l2, .int (a + nI 1), l4, l5] S h Q := ax_iinc mt192 dX12_fits_76 rfl ic_1 rfl
theorem s192_79 : aW d 192 79 L S h Q = aW d 192 2 L S h Q := ax_goto mt192 dX12_fits_79 (by decide)
theorem s192_82 : aW d 192 82 L S h Q = aW d 192 83 L (.int (nI 1) :: S) h Q := ax_iconst mt192 dX12_fits_82 ic_1
theorem s192_83 : aW d 192 83 L [.int a] h Q = (b01 a ∧ Q (some (.int a)) h) := ax_retz mt192 dX12_fits_83 rfl
-- method 193: BufferRoomModel.sendOut(III)I
theorem dX12_sendOut_0 : decode cX12_sendOut 0 = .ok (.iload_n 1, 1) := by decide +kernel
theorem dX12_sendOut_1 : decode cX12_sendOut 1 = .ok (.iconst 0, 1) := by decide +kernel
theorem dX12_sendOut_2 : decode cX12_sendOut 2 = .ok (.iconst 3, 1) := by decide +kernel
theorem dX12_sendOut_3 : decode cX12_sendOut 3 = .ok (.invokestatic 125, 3) := by decide +kernel
theorem dX12_sendOut_6 : decode cX12_sendOut 6 = .ok (.ifCond .ne 6, 3) := by decide +kernel
theorem dX12_sendOut_9 : decode cX12_sendOut 9 = .ok (.bipush (-5), 2) := by decide +kernel
theorem dX12_sendOut_11 : decode cX12_sendOut 11 = .ok (.ireturn, 1) := by decide +kernel
theorem dX12_sendOut_12 : decode cX12_sendOut 12 = .ok (.aload_n 0, 1) := by decide +kernel
theorem dX12_sendOut_13 : decode cX12_sendOut 13 = .ok (.getfield 95, 3) := by decide +kernel
theorem dX12_sendOut_16 : decode cX12_sendOut 16 = .ok (.iload_n 1, 1) := by decide +kernel
theorem dX12_sendOut_17 : decode cX12_sendOut 17 = .ok (.iaload, 1) := by decide +kernel
theorem dX12_sendOut_18 : decode cX12_sendOut 18 = .ok (.iconst (-1), 1) := by decide +kernel
theorem dX12_sendOut_19 : decode cX12_sendOut 19 = .ok (.if_icmp .ne 6, 3) := by decide +kernel
theorem dX12_sendOut_22 : decode cX12_sendOut 22 = .ok (.bipush (-11), 2) := by decide +kernel
theorem dX12_sendOut_24 : decode cX12_sendOut 24 = .ok (.ireturn, 1) := by decide +kernel
theorem dX12_sendOut_25 : decode cX12_sendOut 25 = .ok (.aload_n 0, 1) := by decide +kernel
theorem dX12_sendOut_26 : decode cX12_sendOut 26 = .ok (.iload_n 1, 1) := by decide +kernel
theorem dX12_sendOut_27 : decode cX12_sendOut 27 = .ok (.invokevirtual 259, 3) := by decide +kernel
theorem dX12_sendOut_30 : decode cX12_sendOut 30 = .ok (.ifCond .ne 24, 3) := by decide +kernel
theorem dX12_sendOut_33 : decode cX12_sendOut 33 = .ok (.iload_n 2, 1) := by decide +kernel
theorem dX12_sendOut_34 : decode cX12_sendOut 34 = .ok (.iconst 0, 1) := by decide +kernel
theorem dX12_sendOut_35 : decode cX12_sendOut 35 = .ok (.ldc_w 271, 3) := by decide +kernel
theorem dX12_sendOut_38 : decode cX12_sendOut 38 = .ok (.invokestatic 125, 3) := by decide +kernel
theorem dX12_sendOut_41 : decode cX12_sendOut 41 = .ok (.ifCond .eq 13, 3) := by decide +kernel
theorem dX12_sendOut_44 : decode cX12_sendOut 44 = .ok (.iload_n 3, 1) := by decide +kernel
theorem dX12_sendOut_45 : decode cX12_sendOut 45 = .ok (.iconst 1, 1) := by decide +kernel
theorem dX12_sendOut_46 : decode cX12_sendOut 46 = .ok (.bipush 99, 2) := by decide +kernel
theorem dX12_sendOut_48 : decode cX12_sendOut 48 = .ok (.invokestatic 125, 3) := by decide +kernel
theorem dX12_sendOut_51 : decode cX12_sendOut 51 = .ok (.ifCond .ne 6, 3) := by decide +kernel
theorem dX12_sendOut_54 : decode cX12_sendOut 54 = .ok (.bipush (-2), 2) := by decide +kernel
theorem dX12_sendOut_56 : decode cX12_sendOut 56 = .ok (.ireturn, 1) := by decide +kernel
theorem dX12_sendOut_57 : decode cX12_sendOut 57 = .ok (.aload_n 0, 1) := by decide +kernel
theorem dX12_sendOut_58 : decode cX12_sendOut 58 = .ok (.invokevirtual 225, 3) := by decide +kernel
theorem dX12_sendOut_61 : decode cX12_sendOut 61 = .ok (.ifCond .ne 6, 3) := by decide +kernel
theorem dX12_sendOut_64 : decode cX12_sendOut 64 = .ok (.bipush (-3), 2) := by decide +kernel
theorem dX12_sendOut_66 : decode cX12_sendOut 66 = .ok (.ireturn, 1) := by decide +kernel
theorem dX12_sendOut_67 : decode cX12_sendOut 67 = .ok (.iconst (-1), 1) := by decide +kernel
theorem dX12_sendOut_68 : decode cX12_sendOut 68 = .ok (.istore 4, 2) := by decide +kernel
theorem dX12_sendOut_70 : decode cX12_sendOut 70 = .ok (.iconst 0, 1) := by decide +kernel
theorem dX12_sendOut_71 : decode cX12_sendOut 71 = .ok (.istore 5, 2) := by decide +kernel
theorem dX12_sendOut_73 : decode cX12_sendOut 73 = .ok (.iload 5, 2) := by decide +kernel
theorem dX12_sendOut_75 : decode cX12_sendOut 75 = .ok (.iconst 1, 1) := by decide +kernel
theorem dX12_sendOut_76 : decode cX12_sendOut 76 = .ok (.aload_n 0, 1) := by decide +kernel
theorem dX12_sendOut_77 : decode cX12_sendOut 77 = .ok (.getfield 98, 3) := by decide +kernel
theorem dX12_sendOut_80 : decode cX12_sendOut 80 = .ok (.iload_n 1, 1) := by decide +kernel
theorem dX12_sendOut_81 : decode cX12_sendOut 81 = .ok (.iaload, 1) := by decide +kernel
theorem dX12_sendOut_82 : decode cX12_sendOut 82 = .ok (.ishl, 1) := by decide +kernel
theorem dX12_sendOut_83 : decode cX12_sendOut 83 = .ok (.if_icmp .ge 145, 3) := by decide +kernel
theorem dX12_sendOut_86 : decode cX12_sendOut 86 = .ok (.iconst 0, 1) := by decide +kernel
theorem dX12_sendOut_87 : decode cX12_sendOut 87 = .ok (.istore 6, 2) := by decide +kernel
theorem dX12_sendOut_89 : decode cX12_sendOut 89 = .ok (.iconst 0, 1) := by decide +kernel
theorem dX12_sendOut_90 : decode cX12_sendOut 90 = .ok (.istore 7, 2) := by decide +kernel
theorem dX12_sendOut_92 : decode cX12_sendOut 92 = .ok (.iload 7, 2) := by decide +kernel
theorem dX12_sendOut_94 : decode cX12_sendOut 94 = .ok (.aload_n 0, 1) := by decide +kernel
theorem dX12_sendOut_95 : decode cX12_sendOut 95 = .ok (.getfield 98, 3) := by decide +kernel
theorem dX12_sendOut_98 : decode cX12_sendOut 98 = .ok (.iload_n 1, 1) := by decide +kernel
theorem dX12_sendOut_99 : decode cX12_sendOut 99 = .ok (.iaload, 1) := by decide +kernel
theorem dX12_sendOut_100 : decode cX12_sendOut 100 = .ok (.if_icmp .ge 43, 3) := by decide +kernel
theorem dX12_sendOut_103 : decode cX12_sendOut 103 = .ok (.iload 6, 2) := by decide +kernel
theorem dX12_sendOut_105 : decode cX12_sendOut 105 = .ok (.iload 5, 2) := by decide +kernel
theorem dX12_sendOut_107 : decode cX12_sendOut 107 = .ok (.iload 7, 2) := by decide +kernel
theorem dX12_sendOut_109 : decode cX12_sendOut 109 = .ok (.ishr, 1) := by decide +kernel
theorem dX12_sendOut_110 : decode cX12_sendOut 110 = .ok (.iconst 1, 1) := by decide +kernel
theorem dX12_sendOut_111 : decode cX12_sendOut 111 = .ok (.iand, 1) := by decide +kernel
theorem dX12_sendOut_112 : decode cX12_sendOut 112 = .ok (.iconst 1, 1) := by decide +kernel
theorem dX12_sendOut_113 : decode cX12_sendOut 113 = .ok (.if_icmp .ne 20, 3) := by decide +kernel
theorem dX12_sendOut_116 : decode cX12_sendOut 116 = .ok (.iconst 1, 1) := by decide +kernel
theorem dX12_sendOut_117 : decode cX12_sendOut 117 = .ok (.aload_n 0, 1) := by decide +kernel
theorem dX12_sendOut_118 : decode cX12_sendOut 118 = .ok (.getfield 101, 3) := by decide +kernel
theorem dX12_sendOut_121 : decode cX12_sendOut 121 = .ok (.bipush 40, 2) := by decide +kernel
theorem dX12_sendOut_123 : decode cX12_sendOut 123 = .ok (.iload_n 1, 1) := by decide +kernel
theorem dX12_sendOut_124 : decode cX12_sendOut 124 = .ok (.imul, 1) := by decide +kernel
theorem dX12_sendOut_125 : decode cX12_sendOut 125 = .ok (.iload 7, 2) := by decide +kernel
theorem dX12_sendOut_127 : decode cX12_sendOut 127 = .ok (.iadd, 1) := by decide +kernel
theorem dX12_sendOut_128 : decode cX12_sendOut 128 = .ok (.iaload, 1) := by decide +kernel
theorem dX12_sendOut_129 : decode cX12_sendOut 129 = .ok (.ishl, 1) := by decide +kernel
theorem dX12_sendOut_130 : decode cX12_sendOut 130 = .ok (.goto 4, 3) := by decide +kernel
theorem dX12_sendOut_133 : decode cX12_sendOut 133 = .ok (.iconst 0, 1) := by decide +kernel
theorem dX12_sendOut_134 : decode cX12_sendOut 134 = .ok (.ior, 1) := by decide +kernel
theorem dX12_sendOut_135 : decode cX12_sendOut 135 = .ok (.istore 6, 2) := by decide +kernel
theorem dX12_sendOut_137 : decode cX12_sendOut 137 = .ok (.iinc 7 1, 3) := by decide +kernel
theorem dX12_sendOut_140 : decode cX12_sendOut 140 = .ok (.goto (-48), 3) := by decide +kernel
theorem dX12_sendOut_143 : decode cX12_sendOut 143 = .ok (.iconst 0, 1) := by decide +kernel
theorem dX12_sendOut_144 : decode cX12_sendOut 144 = .ok (.istore 7, 2) := by decide +kernel
theorem dX12_sendOut_146 : decode cX12_sendOut 146 = .ok (.iconst 0, 1) := by decide +kernel
theorem dX12_sendOut_147 : decode cX12_sendOut 147 = .ok (.istore 8, 2) := by decide +kernel
theorem dX12_sendOut_149 : decode cX12_sendOut 149 = .ok (.iload 8, 2) := by decide +kernel
theorem dX12_sendOut_151 : decode cX12_sendOut 151 = .ok (.bipush 12, 2) := by decide +kernel
theorem dX12_sendOut_153 : decode cX12_sendOut 153 = .ok (.if_icmp .ge 36, 3) := by decide +kernel
theorem dX12_sendOut_156 : decode cX12_sendOut 156 = .ok (.iload 7, 2) := by decide +kernel
theorem dX12_sendOut_158 : decode cX12_sendOut 158 = .ok (.iload 6, 2) := by decide +kernel
theorem dX12_sendOut_160 : decode cX12_sendOut 160 = .ok (.iload 8, 2) := by decide +kernel
theorem dX12_sendOut_162 : decode cX12_sendOut 162 = .ok (.ishr, 1) := by decide +kernel
theorem dX12_sendOut_163 : decode cX12_sendOut 163 = .ok (.iconst 1, 1) := by decide +kernel
theorem dX12_sendOut_164 : decode cX12_sendOut 164 = .ok (.iand, 1) := by decide +kernel
theorem dX12_sendOut_165 : decode cX12_sendOut 165 = .ok (.iconst 1, 1) := by decide +kernel
theorem dX12_sendOut_166 : decode cX12_sendOut 166 = .ok (.if_icmp .ne 13, 3) := by decide +kernel
theorem dX12_sendOut_169 : decode cX12_sendOut 169 = .ok (.aload_n 0, 1) := by decide +kernel
theorem dX12_sendOut_170 : decode cX12_sendOut 170 = .ok (.iload 8, 2) := by decide +kernel
theorem dX12_sendOut_172 : decode cX12_sendOut 172 = .ok (.iload_n 3, 1) := by decide +kernel
theorem dX12_sendOut_173 : decode cX12_sendOut 173 = .ok (.invokevirtual 278, 3) := by decide +kernel
theorem dX12_sendOut_176 : decode cX12_sendOut 176 = .ok (.goto 4, 3) := by decide +kernel
theorem dX12_sendOut_179 : decode cX12_sendOut 179 = .ok (.iconst 0, 1) := by decide +kernel
theorem dX12_sendOut_180 : decode cX12_sendOut 180 = .ok (.iadd, 1) := by decide +kernel
theorem dX12_sendOut_181 : decode cX12_sendOut 181 = .ok (.istore 7, 2) := by decide +kernel
theorem dX12_sendOut_183 : decode cX12_sendOut 183 = .ok (.iinc 8 1, 3) := by decide +kernel
theorem dX12_sendOut_186 : decode cX12_sendOut 186 = .ok (.goto (-37), 3) := by decide +kernel
theorem dX12_sendOut_189 : decode cX12_sendOut 189 = .ok (.iload 4, 2) := by decide +kernel
theorem dX12_sendOut_191 : decode cX12_sendOut 191 = .ok (.iconst (-1), 1) := by decide +kernel
theorem dX12_sendOut_192 : decode cX12_sendOut 192 = .ok (.if_icmp .eq 10, 3) := by decide +kernel
theorem dX12_sendOut_195 : decode cX12_sendOut 195 = .ok (.iload 7, 2) := by decide +kernel
theorem dX12_sendOut_197 : decode cX12_sendOut 197 = .ok (.iload 4, 2) := by decide +kernel
theorem dX12_sendOut_199 : decode cX12_sendOut 199 = .ok (.if_icmp .ge 23, 3) := by decide +kernel
theorem dX12_sendOut_202 : decode cX12_sendOut 202 = .ok (.aload_n 0, 1) := by decide +kernel
theorem dX12_sendOut_203 : decode cX12_sendOut 203 = .ok (.iload 6, 2) := by decide +kernel
theorem dX12_sendOut_205 : decode cX12_sendOut 205 = .ok (.iload_n 2, 1) := by decide +kernel
theorem dX12_sendOut_206 : decode cX12_sendOut 206 = .ok (.invokevirtual 281, 3) := by decide +kernel
theorem dX12_sendOut_209 : decode cX12_sendOut 209 = .ok (.ifCond .eq 13, 3) := by decide +kernel
theorem dX12_sendOut_212 : decode cX12_sendOut 212 = .ok (.iload 7, 2) := by decide +kernel
theorem dX12_sendOut_214 : decode cX12_sendOut 214 = .ok (.istore 4, 2) := by decide +kernel
theorem dX12_sendOut_216 : decode cX12_sendOut 216 = .ok (.aload_n 0, 1) := by decide +kernel
theorem dX12_sendOut_217 : decode cX12_sendOut 217 = .ok (.iload 6, 2) := by decide +kernel
theorem dX12_sendOut_219 : decode cX12_sendOut 219 = .ok (.putfield 284, 3) := by decide +kernel
theorem dX12_sendOut_222 : decode cX12_sendOut 222 = .ok (.iinc 5 1, 3) := by decide +kernel
theorem dX12_sendOut_225 : decode cX12_sendOut 225 = .ok (.goto (-152), 3) := by decide +kernel
theorem dX12_sendOut_228 : decode cX12_sendOut 228 = .ok (.iload 4, 2) := by decide +kernel
theorem dX12_sendOut_230 : decode cX12_sendOut 230 = .ok (.iconst (-1), 1) := by decide +kernel
theorem dX12_sendOut_231 : decode cX12_sendOut 231 = .ok (.if_icmp .ne 8, 3) := by decide +kernel
theorem dX12_sendOut_234 : decode cX12_sendOut 234 = .ok (.bipush (-6), 2) := by decide +kernel
theorem dX12_sendOut_236 : decode cX12_sendOut 236 = .ok (.goto 5, 3) := by decide +kernel
theorem dX12_sendOut_239 : decode cX12_sendOut 239 = .ok (.iload 4, 2) := by decide +kernel
theorem dX12_sendOut_241 : decode cX12_sendOut 241 = .ok (.ireturn, 1) := by decide +kernel
theorem s193_0 : aW d 193 0 [l0, .int a, l2, l3, l4, l5, l6, l7, l8] S h Q = aW d 193 1 [l0, .int a, l2, l3, l4, l5, l6, l7, l8] (.int a :: S) h Q := ax_iload_n mt193 dX12_sendOut_0 rfl
theorem s193_1 : aW d 193 1 L S h Q = aW d 193 2 L (.int (nI 0) :: S) h Q := ax_iconst mt193 dX12_sendOut_1 ic_0
theorem s193_2 : aW d 193 2 L S h Q = aW d 193 3 L (.int (nI 3) :: S) h Q := ax_iconst mt193 dX12_sendOut_2 ic_3
theorem s193_3 : aW (d + 1) 193 3 L (.int x2 :: .int x1 :: .int x0 :: []) h Q = aM d 139 [.int x0, .int x1, .int x2] h (fun v h1 => aW (d + 1) 193 6 L (ab_ps v []) h1 Q) := ax_invs mt193 dX12_sendOut_3 (by decide) ct_49277 (.inl rfl) mt139 ⟨⟨Nat.le_of_ble_eq_true rfl, Nat.le_of_ble_eq_true rfl, Nat.le_of_ble_eq_true rfl⟩, rfl, rfl⟩
theorem s193_6 : aW d 193 6 L (.int a :: S) h Q = (if a = 0 then aW d 193 9 L S h Q else aW d 193 12 L S h Q) := ax_if_ne mt193 dX12_sendOut_6 (by decide)
theorem s193_9 : aW d 193 9 L S h Q = aW d 193 11 L (.int ((-5)) :: S) h Q := ax_bipush mt193 dX12_sendOut_9 bp_m5
theorem s193_11 : aW d 193 11 L [.int a] h Q = Q (some (.int a)) h := ax_reti mt193 dX12_sendOut_11 rfl
theorem s193_12 : aW d 193 12 [.ref o, l1, l2, l3, l4, l5, l6, l7, l8] S h Q = aW d 193 13 [.ref o, l1, l2, l3, l4, l5, l6, l7, l8] (.ref o :: S) h Q := ax_aload_n mt193 dX12_sendOut_12 rfl
theorem s193_13 (hT : gT h o = some (14, 54)) : aW d 193 13 L (.ref o :: S) h Q = (isRf (gR h o 42) = true ∧ aW d 193 16 L (gR h o 42 :: S) h Q) := ax_geta mt193 dX12_sendOut_13 (by decide) ft_49247 fk_49247 hT
theorem s193_16 : aW d 193 16 [l0, .int a, l2, l3, l4, l5, l6, l7, l8] S h Q = aW d 193 17 [l0, .int a, l2, l3, l4, l5, l6, l7, l8] (.int a :: S) h Q := ax_iload_n mt193 dX12_sendOut_16 rfl
theorem s193_17 : aW d 193 17 L (.int a :: .ref o :: S) h Q = (inb a (aI h o) ∧ aW d 193 18 L (.int (gI h o a.toNatClampNeg) :: S) h Q) := ax_iald mt193 dX12_sendOut_17
theorem s193_18 : aW d 193 18 L S h Q = aW d 193 19 L (.int ((-1)) :: S) h Q := ax_iconst mt193 dX12_sendOut_18 ic_m1
theorem s193_19 : aW d 193 19 L (.int b :: .int a :: S) h Q = (if a = b then aW d 193 22 L S h Q else aW d 193 25 L S h Q) := ax_icmp_ne mt193 dX12_sendOut_19 (by decide)
theorem s193_22 : aW d 193 22 L S h Q = aW d 193 24 L (.int ((-11)) :: S) h Q := ax_bipush mt193 dX12_sendOut_22 bp_m11
theorem s193_24 : aW d 193 24 L [.int a] h Q = Q (some (.int a)) h := ax_reti mt193 dX12_sendOut_24 rfl
theorem s193_25 : aW d 193 25 [.ref o, l1, l2, l3, l4, l5, l6, l7, l8] S h Q = aW d 193 26 [.ref o, l1, l2, l3, l4, l5, l6, l7, l8] (.ref o :: S) h Q := ax_aload_n mt193 dX12_sendOut_25 rfl
theorem s193_26 : aW d 193 26 [l0, .int a, l2, l3, l4, l5, l6, l7, l8] S h Q = aW d 193 27 [l0, .int a, l2, l3, l4, l5, l6, l7, l8] (.int a :: S) h Q := ax_iload_n mt193 dX12_sendOut_26 rfl
theorem s193_27 (hT : gT h o = some (14, 54)) : aW (d + 1) 193 27 L (.int x0 :: .ref o :: []) h Q = aM d 184 (.ref o :: [.int x0]) h (fun v h1 => aW (d + 1) 193 30 L (ab_ps v []) h1 Q) := ax_invv mt193 dX12_sendOut_27 (by decide) ct_49411 (.inl rfl) mt184 ⟨⟨Nat.le_of_ble_eq_true rfl, Nat.le_of_ble_eq_true rfl, Nat.le_of_ble_eq_true rfl⟩, rfl, rfl, rfl⟩ hT
theorem s193_30 : aW d 193 30 L (.int a :: S) h Q = (if a = 0 then aW d 193 33 L S h Q else aW d 193 54 L S h Q) := ax_if_ne mt193 dX12_sendOut_30 (by decide)
theorem s193_33 : aW d 193 33 [l0, l1, .int a, l3, l4, l5, l6, l7, l8] S h Q = aW d 193 34 [l0, l1, .int a, l3, l4, l5, l6, l7, l8] (.int a :: S) h Q := ax_iload_n mt193 dX12_sendOut_33 rfl
theorem s193_34 : aW d 193 34 L S h Q = aW d 193 35 L (.int (nI 0) :: S) h Q := ax_iconst mt193 dX12_sendOut_34 ic_0
theorem s193_35 : aW d 193 35 L S h Q = aW d 193 38 L (.int 99999 :: S) h Q := ax_ldc_w mt193 dX12_sendOut_35 (by decide) kt_49423
theorem s193_38 : aW (d + 1) 193 38 L (.int x2 :: .int x1 :: .int x0 :: []) h Q = aM d 139 [.int x0, .int x1, .int x2] h (fun v h1 => aW (d + 1) 193 41 L (ab_ps v []) h1 Q) := ax_invs mt193 dX12_sendOut_38 (by decide) ct_49277 (.inl rfl) mt139 ⟨⟨Nat.le_of_ble_eq_true rfl, Nat.le_of_ble_eq_true rfl, Nat.le_of_ble_eq_true rfl⟩, rfl, rfl⟩
theorem s193_41 : aW d 193 41 L (.int a :: S) h Q = (if a = 0 then aW d 193 54 L S h Q else aW d 193 44 L S h Q) := ax_if_eq mt193 dX12_sendOut_41 (by decide)
theorem s193_44 : aW d 193 44 [l0, l1, l2, .int a, l4, l5, l6, l7, l8] S h Q = aW d 193 45 [l0, l1, l2, .int a, l4, l5, l6, l7, l8] (.int a :: S) h Q := ax_iload_n mt193 dX12_sendOut_44 rfl
theorem s193_45 : aW d 193 45 L S h Q = aW d 193 46 L (.int (nI 1) :: S) h Q := ax_iconst mt193 dX12_sendOut_45 ic_1
theorem s193_46 : aW d 193 46 L S h Q = aW d 193 48 L (.int (nI 99) :: S) h Q := ax_bipush mt193 dX12_sendOut_46 bp_99
theorem s193_48 : aW (d + 1) 193 48 L (.int x2 :: .int x1 :: .int x0 :: []) h Q = aM d 139 [.int x0, .int x1, .int x2] h (fun v h1 => aW (d + 1) 193 51 L (ab_ps v []) h1 Q) := ax_invs mt193 dX12_sendOut_48 (by decide) ct_49277 (.inl rfl) mt139 ⟨⟨Nat.le_of_ble_eq_true rfl, Nat.le_of_ble_eq_true rfl, Nat.le_of_ble_eq_true rfl⟩, rfl, rfl⟩
theorem s193_51 : aW d 193 51 L (.int a :: S) h Q = (if a = 0 then aW d 193 54 L S h Q else aW d 193 57 L S h Q) := ax_if_ne mt193 dX12_sendOut_51 (by decide)
theorem s193_57 : aW d 193 57 [.ref o, l1, l2, l3, l4, l5, l6, l7, l8] S h Q = aW d 193 58 [.ref o, l1, l2, l3, l4, l5, l6, l7, l8] (.ref o :: S) h Q := ax_aload_n mt193 dX12_sendOut_57 rfl
theorem s193_58 (hT : gT h o = some (14, 54)) : aW (d + 1) 193 58 L (.ref o :: []) h Q = aM d 163 (.ref o :: []) h (fun v h1 => aW (d + 1) 193 61 L (ab_ps v []) h1 Q) := ax_invv mt193 dX12_sendOut_58 (by decide) ct_49377 (.inl rfl) mt163 ⟨⟨Nat.le_of_ble_eq_true rfl, Nat.le_of_ble_eq_true rfl, Nat.le_of_ble_eq_true rfl⟩, rfl, rfl, rfl⟩ hT
theorem s193_61 : aW d 193 61 L (.int a :: S) h Q = (if a = 0 then aW d 193 64 L S h Q else aW d 193 67 L S h Q) := ax_if_ne mt193 dX12_sendOut_61 (by decide)
theorem s193_64 : aW d 193 64 L S h Q = aW d 193 66 L (.int ((-3)) :: S) h Q := ax_bipush mt193 dX12_sendOut_64 bp_m3
theorem s193_66 : aW d 193 66 L [.int a] h Q = Q (some (.int a)) h := ax_reti mt193 dX12_sendOut_66 rfl
theorem s193_67 : aW d 193 67 L S h Q = aW d 193 68 L (.int ((-1)) :: S) h Q := ax_iconst mt193 dX12_sendOut_67 ic_m1
theorem s193_68 : aW d 193 68 [l0, l1, l2, l3, l4, l5, l6, l7, l8] (.int a :: S) h Q = aW d 193 70 [l0, l1, l2, l3, .int a, l5, l6, l7, l8] S h Q := ax_istore mt193 dX12_sendOut_68 (Nat.le_of_ble_eq_true rfl) rfl
theorem s193_70 : aW d 193 70 L S h Q = aW d 193 71 L (.int (nI 0) :: S) h Q := ax_iconst mt193 dX12_sendOut_70 ic_0
theorem s193_71 : aW d 193 71 [l0, l1, l2, l3, l4, l5, l6, l7, l8] (.int a :: S) h Q = aW d 193 73 [l0, l1, l2, l3, l4, .int a, l6, l7, l8] S h Q := ax_istore mt193 dX12_sendOut_71 (Nat.le_of_ble_eq_true rfl) rfl
theorem s193_73 : aW d 193 73 [l0, l1, l2, l3, l4, .int a, l6, l7, l8] S h Q = aW d 193 75 [l0, l1, l2, l3, l4, .int a, l6, l7, l8] (.int a :: S) h Q := ax_iload mt193 dX12_sendOut_73 rfl
theorem s193_75 : aW d 193 75 L S h Q = aW d 193 76 L (.int (nI 1) :: S) h Q := ax_iconst mt193 dX12_sendOut_75 ic_1
theorem s193_76 : aW d 193 76 [.ref o, l1, l2, l3, l4, l5, l6, l7, l8] S h Q = aW d 193 77 [.ref o, l1, l2, l3, l4, l5, l6, l7, l8] (.ref o :: S) h Q := ax_aload_n mt193 dX12_sendOut_76 rfl
theorem s193_77 (hT : gT h o = some (14, 54)) : aW d 193 77 L (.ref o :: S) h Q = (isRf (gR h o 43) = true ∧ aW d 193 80 L (gR h o 43 :: S) h Q) := ax_geta mt193 dX12_sendOut_77 (by decide) ft_49250 fk_49250 hT
theorem s193_80 : aW d 193 80 [l0, .int a, l2, l3, l4, l5, l6, l7, l8] S h Q = aW d 193 81 [l0, .int a, l2, l3, l4, l5, l6, l7, l8] (.int a :: S) h Q := ax_iload_n mt193 dX12_sendOut_80 rfl
theorem s193_81 : aW d 193 81 L (.int a :: .ref o :: S) h Q = (inb a (aI h o) ∧ aW d 193 82 L (.int (gI h o a.toNatClampNeg) :: S) h Q) := ax_iald mt193 dX12_sendOut_81
theorem s193_82 : aW d 193 82 L (.int b :: .int a :: S) h Q = aW d 193 83 L (.int (a <<< (b &&& 31)) :: S) h Q := ax_ishl mt193 dX12_sendOut_82
theorem s193_83 : aW d 193 83 L (.int b :: .int a :: S) h Q = (if a < b then aW d 193 86 L S h Q else aW d 193 228 L S h Q) := ax_icmp_ge mt193 dX12_sendOut_83 (by decide)
theorem s193_86 : aW d 193 86 L S h Q = aW d 193 87 L (.int (nI 0) :: S) h Q := ax_iconst mt193 dX12_sendOut_86 ic_0
theorem s193_87 : aW d 193 87 [l0, l1, l2, l3, l4, l5, l6, l7, l8] (.int a :: S) h Q = aW d 193 89 [l0, l1, l2, l3, l4, l5, .int a, l7, l8] S h Q := ax_istore mt193 dX12_sendOut_87 (Nat.le_of_ble_eq_true rfl) rfl
theorem s193_89 : aW d 193 89 L S h Q = aW d 193 90 L (.int (nI 0) :: S) h Q := ax_iconst mt193 dX12_sendOut_89 ic_0
theorem s193_90 : aW d 193 90 [l0, l1, l2, l3, l4, l5, l6, l7, l8] (.int a :: S) h Q = aW d 193 92 [l0, l1, l2, l3, l4, l5, l6, .int a, l8] S h Q := ax_istore mt193 dX12_sendOut_90 (Nat.le_of_ble_eq_true rfl) rfl
theorem s193_92 : aW d 193 92 [l0, l1, l2, l3, l4, l5, l6, .int a, l8] S h Q = aW d 193 94 [l0, l1, l2, l3, l4, l5, l6, .int a, l8] (.int a :: S) h Q := ax_iload mt193 dX12_sendOut_92 rfl
theorem s193_94 : aW d 193 94 [.ref o, l1, l2, l3, l4, l5, l6, l7, l8] S h Q = aW d 193 95 [.ref o, l1, l2, l3, l4, l5, l6, l7, l8] (.ref o :: S) h Q := ax_aload_n mt193 dX12_sendOut_94 rfl
theorem s193_95 (hT : gT h o = some (14, 54)) : aW d 193 95 L (.ref o :: S) h Q = (isRf (gR h o 43) = true ∧ aW d 193 98 L (gR h o 43 :: S) h Q) := ax_geta mt193 dX12_sendOut_95 (by decide) ft_49250 fk_49250 hT
theorem s193_98 : aW d 193 98 [l0, .int a, l2, l3, l4, l5, l6, l7, l8] S h Q = aW d 193 99 [l0, .int a, l2, l3, l4, l5, l6, l7, l8] (.int a :: S) h Q := ax_iload_n mt193 dX12_sendOut_98 rfl
theorem s193_99 : aW d 193 99 L (.int a :: .ref o :: S) h Q = (inb a (aI h o) ∧ aW d 193 100 L (.int (gI h o a.toNatClampNeg) :: S) h Q) := ax_iald mt193 dX12_sendOut_99
theorem s193_100 : aW d 193 100 L (.int b :: .int a :: S) h Q = (if a < b then aW d 193 103 L S h Q else aW d 193 143 L S h Q) := ax_icmp_ge mt193 dX12_sendOut_100 (by decide)
theorem s193_103 : aW d 193 103 [l0, l1, l2, l3, l4, l5, .int a, l7, l8] S h Q = aW d 193 105 [l0, l1, l2, l3, l4, l5, .int a, l7, l8] (.int a :: S) h Q := ax_iload mt193 dX12_sendOut_103 rfl
theorem s193_105 : aW d 193 105 [l0, l1, l2, l3, l4, .int a, l6, l7, l8] S h Q = aW d 193 107 [l0, l1, l2, l3, l4, .int a, l6, l7, l8] (.int a :: S) h Q := ax_iload mt193 dX12_sendOut_105 rfl
theorem s193_107 : aW d 193 107 [l0, l1, l2, l3, l4, l5, l6, .int a, l8] S h Q = aW d 193 109 [l0, l1, l2, l3, l4, l5, l6, .int a, l8] (.int a :: S) h Q := ax_iload mt193 dX12_sendOut_107 rfl
theorem s193_109 : aW d 193 109 L (.int b :: .int a :: S) h Q = aW d 193 110 L (.int (a >>> (b &&& 31)) :: S) h Q := ax_ishr mt193 dX12_sendOut_109
theorem s193_110 : aW d 193 110 L S h Q = aW d 193 111 L (.int (nI 1) :: S) h Q := ax_iconst mt193 dX12_sendOut_110 ic_1
theorem s193_111 : aW d 193 111 L (.int b :: .int a :: S) h Q = aW d 193 112 L (.int (a &&& b) :: S) h Q := ax_iand mt193 dX12_sendOut_111
theorem s193_112 : aW d 193 112 L S h Q = aW d 193 113 L (.int (nI 1) :: S) h Q := ax_iconst mt193 dX12_sendOut_112 ic_1
theorem s193_113 : aW d 193 113 L (.int b :: .int a :: S) h Q = (if a = b then aW d 193 116 L S h Q else aW d 193 133 L S h Q) := ax_icmp_ne mt193 dX12_sendOut_113 (by decide)
theorem s193_116 : aW d 193 116 L S h Q = aW d 193 117 L (.int (nI 1) :: S) h Q := ax_iconst mt193 dX12_sendOut_116 ic_1
theorem s193_117 : aW d 193 117 [.ref o, l1, l2, l3, l4, l5, l6, l7, l8] S h Q = aW d 193 118 [.ref o, l1, l2, l3, l4, l5, l6, l7, l8] (.ref o :: S) h Q := ax_aload_n mt193 dX12_sendOut_117 rfl
theorem s193_118 (hT : gT h o = some (14, 54)) : aW d 193 118 L (.ref o :: S) h Q = (isRf (gR h o 44) = true ∧ aW d 193 121 L (gR h o 44 :: S) h Q) := ax_geta mt193 dX12_sendOut_118 (by decide) ft_49253 fk_49253 hT
theorem s193_121 : aW d 193 121 L S h Q = aW d 193 123 L (.int (nI 40) :: S) h Q := ax_bipush mt193 dX12_sendOut_121 bp_40
theorem s193_123 : aW d 193 123 [l0, .int a, l2, l3, l4, l5, l6, l7, l8] S h Q = aW d 193 124 [l0, .int a, l2, l3, l4, l5, l6, l7, l8] (.int a :: S) h Q := ax_iload_n mt193 dX12_sendOut_123 rfl
theorem s193_124 : aW d 193 124 L (.int b :: .int a :: S) h Q = aW d 193 125 L (.int (a * b) :: S) h Q := ax_imul mt193 dX12_sendOut_124
theorem s193_125 : aW d 193 125 [l0, l1, l2, l3, l4, l5, l6, .int a, l8] S h Q = aW d 193 127 [l0, l1, l2, l3, l4, l5, l6, .int a, l8] (.int a :: S) h Q := ax_iload mt193 dX12_sendOut_125 rfl
theorem s193_127 : aW d 193 127 L (.int b :: .int a :: S) h Q = aW d 193 128 L (.int (a + b) :: S) h Q := ax_iadd mt193 dX12_sendOut_127
theorem s193_128 : aW d 193 128 L (.int a :: .ref o :: S) h Q = (inb a (aI h o) ∧ aW d 193 129 L (.int (gI h o a.toNatClampNeg) :: S) h Q) := ax_iald mt193 dX12_sendOut_128
theorem s193_129 : aW d 193 129 L (.int b :: .int a :: S) h Q = aW d 193 130 L (.int (a <<< (b &&& 31)) :: S) h Q := ax_ishl mt193 dX12_sendOut_129
theorem s193_130 : aW d 193 130 L S h Q = aW d 193 134 L S h Q := ax_goto mt193 dX12_sendOut_130 (by decide)
theorem s193_134 : aW d 193 134 L (.int b :: .int a :: S) h Q = aW d 193 135 L (.int (a ||| b) :: S) h Q := ax_ior mt193 dX12_sendOut_134
theorem s193_135 : aW d 193 135 [l0, l1, l2, l3, l4, l5, l6, l7, l8] (.int a :: S) h Q = aW d 193 137 [l0, l1, l2, l3, l4, l5, .int a, l7, l8] S h Q := ax_istore mt193 dX12_sendOut_135 (Nat.le_of_ble_eq_true rfl) rfl
theorem s193_137 : aW d 193 137 [l0, l1, l2, l3, l4, l5, l6, .int a, l8] S h Q = aW d 193 140 [l0, l1, l2, l3, l4, l5, l6, .int (a + nI 1), l8] S h Q := ax_iinc mt193 dX12_sendOut_137 rfl ic_1 rfl
theorem s193_140 : aW d 193 140 L S h Q = aW d 193 92 L S h Q := ax_goto mt193 dX12_sendOut_140 (by decide)
theorem s193_133 : aW d 193 133 L S h Q = aW d 193 134 L (.int (nI 0) :: S) h Q := ax_iconst mt193 dX12_sendOut_133 ic_0
theorem s193_143 : aW d 193 143 L S h Q = aW d 193 144 L (.int (nI 0) :: S) h Q := ax_iconst mt193 dX12_sendOut_143 ic_0
theorem s193_144 : aW d 193 144 [l0, l1, l2, l3, l4, l5, l6, l7, l8] (.int a :: S) h Q = aW d 193 146 [l0, l1, l2, l3, l4, l5, l6, .int a, l8] S h Q := ax_istore mt193 dX12_sendOut_144 (Nat.le_of_ble_eq_true rfl) rfl
theorem s193_146 : aW d 193 146 L S h Q = aW d 193 147 L (.int (nI 0) :: S) h Q := ax_iconst mt193 dX12_sendOut_146 ic_0
theorem s193_147 : aW d 193 147 [l0, l1, l2, l3, l4, l5, l6, l7, l8] (.int a :: S) h Q = aW d 193 149 [l0, l1, l2, l3, l4, l5, l6, l7, .int a] S h Q := ax_istore mt193 dX12_sendOut_147 (Nat.le_of_ble_eq_true rfl) rfl
theorem s193_149 : aW d 193 149 [l0, l1, l2, l3, l4, l5, l6, l7, .int a] S h Q = aW d 193 151 [l0, l1, l2, l3, l4, l5, l6, l7, .int a] (.int a :: S) h Q := ax_iload mt193 dX12_sendOut_149 rfl
theorem s193_151 : aW d 193 151 L S h Q = aW d 193 153 L (.int (nI 12) :: S) h Q := ax_bipush mt193 dX12_sendOut_151 bp_12
theorem s193_153 : aW d 193 153 L (.int b :: .int a :: S) h Q = (if a < b then aW d 193 156 L S h Q else aW d 193 189 L S h Q) := ax_icmp_ge mt193 dX12_sendOut_153 (by decide)
theorem s193_156 : aW d 193 156 [l0, l1, l2, l3, l4, l5, l6, .int a, l8] S h Q = aW d 193 158 [l0, l1, l2, l3, l4, l5, l6, .int a, l8] (.int a :: S) h Q := ax_iload mt193 dX12_sendOut_156 rfl
theorem s193_158 : aW d 193 158 [l0, l1, l2, l3, l4, l5, .int a, l7, l8] S h Q = aW d 193 160 [l0, l1, l2, l3, l4, l5, .int a, l7, l8] (.int a :: S) h Q := ax_iload mt193 dX12_sendOut_158 rfl
theorem s193_160 : aW d 193 160 [l0, l1, l2, l3, l4, l5, l6, l7, .int a] S h Q = aW d 193 162 [l0, l1, l2, l3, l4, l5, l6, l7, .int a] (.int a :: S) h Q := ax_iload mt193 dX12_sendOut_160 rfl
theorem s193_162 : aW d 193 162 L (.int b :: .int a :: S) h Q = aW d 193 163 L (.int (a >>> (b &&& 31)) :: S) h Q := ax_ishr mt193 dX12_sendOut_162
theorem s193_163 : aW d 193 163 L S h Q = aW d 193 164 L (.int (nI 1) :: S) h Q := ax_iconst mt193 dX12_sendOut_163 ic_1
theorem s193_164 : aW d 193 164 L (.int b :: .int a :: S) h Q = aW d 193 165 L (.int (a &&& b) :: S) h Q := ax_iand mt193 dX12_sendOut_164
theorem s193_165 : aW d 193 165 L S h Q = aW d 193 166 L (.int (nI 1) :: S) h Q := ax_iconst mt193 dX12_sendOut_165 ic_1
theorem s193_166 : aW d 193 166 L (.int b :: .int a :: S) h Q = (if a = b then aW d 193 169 L S h Q else aW d 193 179 L S h Q) := ax_icmp_ne mt193 dX12_sendOut_166 (by decide)
theorem s193_169 : aW d 193 169 [.ref o, l1, l2, l3, l4, l5, l6, l7, l8] S h Q = aW d 193 170 [.ref o, l1, l2, l3, l4, l5, l6, l7, l8] (.ref o :: S) h Q := ax_aload_n mt193 dX12_sendOut_169 rfl
theorem s193_170 : aW d 193 170 [l0, l1, l2, l3, l4, l5, l6, l7, .int a] S h Q = aW d 193 172 [l0, l1, l2, l3, l4, l5, l6, l7, .int a] (.int a :: S) h Q := ax_iload mt193 dX12_sendOut_170 rfl
theorem s193_172 : aW d 193 172 [l0, l1, l2, .int a, l4, l5, l6, l7, l8] S h Q = aW d 193 173 [l0, l1, l2, .int a, l4, l5, l6, l7, l8] (.int a :: S) h Q := ax_iload_n mt193 dX12_sendOut_172 rfl
theorem s193_173 (hT : gT h o = some (14, 54)) : aW (d + 1) 193 173 L (.int x1 :: .int x0 :: .ref o :: [.int y0]) h Q = aM d 191 (.ref o :: [.int x0, .int x1]) h (fun v h1 => aW (d + 1) 193 176 L (ab_ps v [.int y0]) h1 Q) := ax_invv mt193 dX12_sendOut_173 (by decide) ct_49430 (.inl rfl) mt191 ⟨⟨Nat.le_of_ble_eq_true rfl, Nat.le_of_ble_eq_true rfl, Nat.le_of_ble_eq_true rfl⟩, rfl, rfl, rfl⟩ hT
theorem s193_176 : aW d 193 176 L S h Q = aW d 193 180 L S h Q := ax_goto mt193 dX12_sendOut_176 (by decide)
theorem s193_180 : aW d 193 180 L (.int b :: .int a :: S) h Q = aW d 193 181 L (.int (a + b) :: S) h Q := ax_iadd mt193 dX12_sendOut_180
theorem s193_181 : aW d 193 181 [l0, l1, l2, l3, l4, l5, l6, l7, l8] (.int a :: S) h Q = aW d 193 183 [l0, l1, l2, l3, l4, l5, l6, .int a, l8] S h Q := ax_istore mt193 dX12_sendOut_181 (Nat.le_of_ble_eq_true rfl) rfl
theorem s193_183 : aW d 193 183 [l0, l1, l2, l3, l4, l5, l6, l7, .int a] S h Q = aW d 193 186 [l0, l1, l2, l3, l4, l5, l6, l7, .int (a + nI 1)] S h Q := ax_iinc mt193 dX12_sendOut_183 rfl ic_1 rfl
theorem s193_186 : aW d 193 186 L S h Q = aW d 193 149 L S h Q := ax_goto mt193 dX12_sendOut_186 (by decide)
theorem s193_179 : aW d 193 179 L S h Q = aW d 193 180 L (.int (nI 0) :: S) h Q := ax_iconst mt193 dX12_sendOut_179 ic_0
theorem s193_189 : aW d 193 189 [l0, l1, l2, l3, .int a, l5, l6, l7, l8] S h Q = aW d 193 191 [l0, l1, l2, l3, .int a, l5, l6, l7, l8] (.int a :: S) h Q := ax_iload mt193 dX12_sendOut_189 rfl
theorem s193_191 : aW d 193 191 L S h Q = aW d 193 192 L (.int ((-1)) :: S) h Q := ax_iconst mt193 dX12_sendOut_191 ic_m1
theorem s193_192 : aW d 193 192 L (.int b :: .int a :: S) h Q = (if a = b then aW d 193 202 L S h Q else aW d 193 195 L S h Q) := ax_icmp_eq mt193 dX12_sendOut_192 (by decide)
theorem s193_195 : aW d 193 195 [l0, l1, l2, l3, l4, l5, l6, .int a, l8] S h Q = aW d 193 197 [l0, l1, l2, l3, l4, l5, l6, .int a, l8] (.int a :: S) h Q := ax_iload mt193 dX12_sendOut_195 rfl
theorem s193_197 : aW d 193 197 [l0, l1, l2, l3, .int a, l5, l6, l7, l8] S h Q = aW d 193 199 [l0, l1, l2, l3, .int a, l5, l6, l7, l8] (.int a :: S) h Q := ax_iload mt193 dX12_sendOut_197 rfl
theorem s193_199 : aW d 193 199 L (.int b :: .int a :: S) h Q = (if a < b then aW d 193 202 L S h Q else aW d 193 222 L S h Q) := ax_icmp_ge mt193 dX12_sendOut_199 (by decide)
theorem s193_222 : aW d 193 222 [l0, l1, l2, l3, l4, .int a, l6, l7, l8] S h Q = aW d 193 225 [l0, l1, l2, l3, l4, .int (a + nI 1), l6, l7, l8] S h Q := ax_iinc mt193 dX12_sendOut_222 rfl ic_1 rfl
theorem s193_225 : aW d 193 225 L S h Q = aW d 193 73 L S h Q := ax_goto mt193 dX12_sendOut_225 (by decide)
theorem s193_202 : aW d 193 202 [.ref o, l1, l2, l3, l4, l5, l6, l7, l8] S h Q = aW d 193 203 [.ref o, l1, l2, l3, l4, l5, l6, l7, l8] (.ref o :: S) h Q := ax_aload_n mt193 dX12_sendOut_202 rfl
theorem s193_203 : aW d 193 203 [l0, l1, l2, l3, l4, l5, .int a, l7, l8] S h Q = aW d 193 205 [l0, l1, l2, l3, l4, l5, .int a, l7, l8] (.int a :: S) h Q := ax_iload mt193 dX12_sendOut_203 rfl
theorem s193_205 : aW d 193 205 [l0, l1, .int a, l3, l4, l5, l6, l7, l8] S h Q = aW d 193 206 [l0, l1, .int a, l3, l4, l5, l6, l7, l8] (.int a :: S) h Q := ax_iload_n mt193 dX12_sendOut_205 rfl
theorem s193_206 (hT : gT h o = some (14, 54)) : aW (d + 1) 193 206 L (.int x1 :: .int x0 :: .ref o :: []) h Q = aM d 192 (.ref o :: [.int x0, .int x1]) h (fun v h1 => aW (d + 1) 193 209 L (ab_ps v []) h1 Q) := ax_invv mt193 dX12_sendOut_206 (by decide) ct_49433 (.inl rfl) mt192 ⟨⟨Nat.le_of_ble_eq_true rfl, Nat.le_of_ble_eq_true rfl, Nat.le_of_ble_eq_true rfl⟩, rfl, rfl, rfl⟩ hT
theorem s193_209 : aW d 193 209 L (.int a :: S) h Q = (if a = 0 then aW d 193 222 L S h Q else aW d 193 212 L S h Q) := ax_if_eq mt193 dX12_sendOut_209 (by decide)
theorem s193_212 : aW d 193 212 [l0, l1, l2, l3, l4, l5, l6, .int a, l8] S h Q = aW d 193 214 [l0, l1, l2, l3, l4, l5, l6, .int a, l8] (.int a :: S) h Q := ax_iload mt193 dX12_sendOut_212 rfl
theorem s193_214 : aW d 193 214 [l0, l1, l2, l3, l4, l5, l6, l7, l8] (.int a :: S) h Q = aW d 193 216 [l0, l1, l2, l3, .int a, l5, l6, l7, l8] S h Q := ax_istore mt193 dX12_sendOut_214 (Nat.le_of_ble_eq_true rfl) rfl
theorem s193_216 : aW d 193 216 [.ref o, l1, l2, l3, l4, l5, l6, l7, l8] S h Q = aW d 193 217 [.ref o, l1, l2, l3, l4, l5, l6, l7, l8] (.ref o :: S) h Q := ax_aload_n mt193 dX12_sendOut_216 rfl
theorem s193_217 : aW d 193 217 [l0, l1, l2, l3, l4, l5, .int a, l7, l8] S h Q = aW d 193 219 [l0, l1, l2, l3, l4, l5, .int a, l7, l8] (.int a :: S) h Q := ax_iload mt193 dX12_sendOut_217 rfl
theorem s193_219 (hT : gT h o = some (14, 54)) : aW d 193 219 L (.int a :: .ref o :: S) h Q = aW d 193 222 L S (pI h o 29 a) Q := ax_puti mt193 dX12_sendOut_219 (by decide) ft_49436 (fun q => fn_49436 q.1) fp_49436 hT
theorem s193_228 : aW d 193 228 [l0, l1, l2, l3, .int a, l5, l6, l7, l8] S h Q = aW d 193 230 [l0, l1, l2, l3, .int a, l5, l6, l7, l8] (.int a :: S) h Q := ax_iload mt193 dX12_sendOut_228 rfl
theorem s193_230 : aW d 193 230 L S h Q = aW d 193 231 L (.int ((-1)) :: S) h Q := ax_iconst mt193 dX12_sendOut_230 ic_m1
theorem s193_231 : aW d 193 231 L (.int b :: .int a :: S) h Q = (if a = b then aW d 193 234 L S h Q else aW d 193 239 L S h Q) := ax_icmp_ne mt193 dX12_sendOut_231 (by decide)
theorem s193_234 : aW d 193 234 L S h Q = aW d 193 236 L (.int ((-6)) :: S) h Q := ax_bipush mt193 dX12_sendOut_234 bp_m6
theorem s193_236 : aW d 193 236 L S h Q = aW d 193 241 L S h Q := ax_goto mt193 dX12_sendOut_236 (by decide)
theorem s193_241 : aW d 193 241 L [.int a] h Q = Q (some (.int a)) h := ax_reti mt193 dX12_sendOut_241 rfl
theorem s193_239 : aW d 193 239 [l0, l1, l2, l3, .int a, l5, l6, l7, l8] S h Q = aW d 193 241 [l0, l1, l2, l3, .int a, l5, l6, l7, l8] (.int a :: S) h Q := ax_iload mt193 dX12_sendOut_239 rfl
theorem s193_54 : aW d 193 54 L S h Q = aW d 193 56 L (.int ((-2)) :: S) h Q := ax_bipush mt193 dX12_sendOut_54 bp_m2
theorem s193_56 : aW d 193 56 L [.int a] h Q = Q (some (.int a)) h := ax_reti mt193 dX12_sendOut_56 rfl
-- method 194: BufferRoomModel.outs()I
theorem dX12_outs_0 : decode cX12_outs 0 = .ok (.aload_n 0, 1) := by decide +kernel
theorem dX12_outs_1 : decode cX12_outs 1 = .ok (.getfield 284, 3) := by decide +kernel
theorem dX12_outs_4 : decode cX12_outs 4 = .ok (.ireturn, 1) := by decide +kernel
theorem s194_0 : aW d 194 0 [.ref o] S h Q = aW d 194 1 [.ref o] (.ref o :: S) h Q := ax_aload_n mt194 dX12_outs_0 rfl
theorem s194_1 (hT : gT h o = some (14, 54)) : aW d 194 1 L (.ref o :: S) h Q = aW d 194 4 L (.int (gI h o 29) :: S) h Q := ax_geti mt194 dX12_outs_1 (by decide) ft_49436 fk_49436 hT
theorem s194_4 : aW d 194 4 L [.int a] h Q = Q (some (.int a)) h := ax_reti mt194 dX12_outs_4 rfl
-- method 195: BufferRoomModel.holds()V
theorem dX12_holds_0 : decode cX12_holds 0 = .ok (.aload_n 0, 1) := by decide +kernel
theorem dX12_holds_1 : decode cX12_holds 1 = .ok (.iconst 0, 1) := by decide +kernel
theorem dX12_holds_2 : decode cX12_holds 2 = .ok (.putfield 287, 3) := by decide +kernel
theorem dX12_holds_5 : decode cX12_holds 5 = .ok (.iconst 0, 1) := by decide +kernel
theorem dX12_holds_6 : decode cX12_holds 6 = .ok (.istore_n 1, 1) := by decide +kernel
theorem dX12_holds_7 : decode cX12_holds 7 = .ok (.iload_n 1, 1) := by decide +kernel
theorem dX12_holds_8 : decode cX12_holds 8 = .ok (.aload_n 0, 1) := by decide +kernel
theorem dX12_holds_9 : decode cX12_holds 9 = .ok (.getfield 165, 3) := by decide +kernel
theorem dX12_holds_12 : decode cX12_holds 12 = .ok (.if_icmp .ge 86, 3) := by decide +kernel
theorem dX12_holds_15 : decode cX12_holds 15 = .ok (.aload_n 0, 1) := by decide +kernel
theorem dX12_holds_16 : decode cX12_holds 16 = .ok (.iload_n 1, 1) := by decide +kernel
theorem dX12_holds_17 : decode cX12_holds 17 = .ok (.invokevirtual 237, 3) := by decide +kernel
theorem dX12_holds_20 : decode cX12_holds 20 = .ok (.istore_n 2, 1) := by decide +kernel
theorem dX12_holds_21 : decode cX12_holds 21 = .ok (.aload_n 0, 1) := by decide +kernel
theorem dX12_holds_22 : decode cX12_holds 22 = .ok (.getfield 32, 3) := by decide +kernel
theorem dX12_holds_25 : decode cX12_holds 25 = .ok (.aload_n 0, 1) := by decide +kernel
theorem dX12_holds_26 : decode cX12_holds 26 = .ok (.getfield 104, 3) := by decide +kernel
theorem dX12_holds_29 : decode cX12_holds 29 = .ok (.iload_n 1, 1) := by decide +kernel
theorem dX12_holds_30 : decode cX12_holds 30 = .ok (.iaload, 1) := by decide +kernel
theorem dX12_holds_31 : decode cX12_holds 31 = .ok (.iaload, 1) := by decide +kernel
theorem dX12_holds_32 : decode cX12_holds 32 = .ok (.aload_n 0, 1) := by decide +kernel
theorem dX12_holds_33 : decode cX12_holds 33 = .ok (.getfield 35, 3) := by decide +kernel
theorem dX12_holds_36 : decode cX12_holds 36 = .ok (.aload_n 0, 1) := by decide +kernel
theorem dX12_holds_37 : decode cX12_holds 37 = .ok (.getfield 104, 3) := by decide +kernel
theorem dX12_holds_40 : decode cX12_holds 40 = .ok (.iload_n 1, 1) := by decide +kernel
theorem dX12_holds_41 : decode cX12_holds 41 = .ok (.iaload, 1) := by decide +kernel
theorem dX12_holds_42 : decode cX12_holds 42 = .ok (.iaload, 1) := by decide +kernel
theorem dX12_holds_43 : decode cX12_holds 43 = .ok (.invokestatic 193, 3) := by decide +kernel
theorem dX12_holds_46 : decode cX12_holds 46 = .ok (.istore_n 3, 1) := by decide +kernel
theorem dX12_holds_47 : decode cX12_holds 47 = .ok (.iconst 0, 1) := by decide +kernel
theorem dX12_holds_48 : decode cX12_holds 48 = .ok (.istore 4, 2) := by decide +kernel
theorem dX12_holds_50 : decode cX12_holds 50 = .ok (.iload 4, 2) := by decide +kernel
theorem dX12_holds_52 : decode cX12_holds 52 = .ok (.iload_n 3, 1) := by decide +kernel
theorem dX12_holds_53 : decode cX12_holds 53 = .ok (.if_icmp .ge 39, 3) := by decide +kernel
theorem dX12_holds_56 : decode cX12_holds 56 = .ok (.aload_n 0, 1) := by decide +kernel
theorem dX12_holds_57 : decode cX12_holds 57 = .ok (.getfield 287, 3) := by decide +kernel
theorem dX12_holds_60 : decode cX12_holds 60 = .ok (.sipush 400, 3) := by decide +kernel
theorem dX12_holds_63 : decode cX12_holds 63 = .ok (.if_icmp .ge 29, 3) := by decide +kernel
theorem dX12_holds_66 : decode cX12_holds 66 = .ok (.aload_n 0, 1) := by decide +kernel
theorem dX12_holds_67 : decode cX12_holds 67 = .ok (.getfield 122, 3) := by decide +kernel
theorem dX12_holds_70 : decode cX12_holds 70 = .ok (.aload_n 0, 1) := by decide +kernel
theorem dX12_holds_71 : decode cX12_holds 71 = .ok (.getfield 287, 3) := by decide +kernel
theorem dX12_holds_74 : decode cX12_holds 74 = .ok (.iload_n 2, 1) := by decide +kernel
theorem dX12_holds_75 : decode cX12_holds 75 = .ok (.iastore, 1) := by decide +kernel
theorem dX12_holds_76 : decode cX12_holds 76 = .ok (.aload_n 0, 1) := by decide +kernel
theorem dX12_holds_77 : decode cX12_holds 77 = .ok (.dup, 1) := by decide +kernel
theorem dX12_holds_78 : decode cX12_holds 78 = .ok (.getfield 287, 3) := by decide +kernel
theorem dX12_holds_81 : decode cX12_holds 81 = .ok (.iconst 1, 1) := by decide +kernel
theorem dX12_holds_82 : decode cX12_holds 82 = .ok (.iadd, 1) := by decide +kernel
theorem dX12_holds_83 : decode cX12_holds 83 = .ok (.putfield 287, 3) := by decide +kernel
theorem dX12_holds_86 : decode cX12_holds 86 = .ok (.iinc 4 1, 3) := by decide +kernel
theorem dX12_holds_89 : decode cX12_holds 89 = .ok (.goto (-39), 3) := by decide +kernel
theorem dX12_holds_92 : decode cX12_holds 92 = .ok (.iinc 1 1, 3) := by decide +kernel
theorem dX12_holds_95 : decode cX12_holds 95 = .ok (.goto (-88), 3) := by decide +kernel
theorem dX12_holds_98 : decode cX12_holds 98 = .ok (.return_, 1) := by decide +kernel
theorem s195_0 : aW d 195 0 [.ref o, l1, l2, l3, l4] S h Q = aW d 195 1 [.ref o, l1, l2, l3, l4] (.ref o :: S) h Q := ax_aload_n mt195 dX12_holds_0 rfl
theorem s195_1 : aW d 195 1 L S h Q = aW d 195 2 L (.int (nI 0) :: S) h Q := ax_iconst mt195 dX12_holds_1 ic_0
theorem s195_2 (hT : gT h o = some (14, 54)) : aW d 195 2 L (.int a :: .ref o :: S) h Q = aW d 195 5 L S (pI h o 53 a) Q := ax_puti mt195 dX12_holds_2 (by decide) ft_49439 (fun q => fn_49439 q.1) fp_49439 hT
theorem s195_5 : aW d 195 5 L S h Q = aW d 195 6 L (.int (nI 0) :: S) h Q := ax_iconst mt195 dX12_holds_5 ic_0
theorem s195_6 : aW d 195 6 [l0, l1, l2, l3, l4] (.int a :: S) h Q = aW d 195 7 [l0, .int a, l2, l3, l4] S h Q := ax_istore_n mt195 dX12_holds_6 (Nat.le_of_ble_eq_true rfl) rfl
theorem s195_7 : aW d 195 7 [l0, .int a, l2, l3, l4] S h Q = aW d 195 8 [l0, .int a, l2, l3, l4] (.int a :: S) h Q := ax_iload_n mt195 dX12_holds_7 rfl
theorem s195_8 : aW d 195 8 [.ref o, l1, l2, l3, l4] S h Q = aW d 195 9 [.ref o, l1, l2, l3, l4] (.ref o :: S) h Q := ax_aload_n mt195 dX12_holds_8 rfl
theorem s195_9 (hT : gT h o = some (14, 54)) : aW d 195 9 L (.ref o :: S) h Q = aW d 195 12 L (.int (gI h o 4) :: S) h Q := ax_geti mt195 dX12_holds_9 (by decide) ft_49317 fk_49317 hT
theorem s195_12 : aW d 195 12 L (.int b :: .int a :: S) h Q = (if a < b then aW d 195 15 L S h Q else aW d 195 98 L S h Q) := ax_icmp_ge mt195 dX12_holds_12 (by decide)
theorem s195_15 : aW d 195 15 [.ref o, l1, l2, l3, l4] S h Q = aW d 195 16 [.ref o, l1, l2, l3, l4] (.ref o :: S) h Q := ax_aload_n mt195 dX12_holds_15 rfl
theorem s195_16 : aW d 195 16 [l0, .int a, l2, l3, l4] S h Q = aW d 195 17 [l0, .int a, l2, l3, l4] (.int a :: S) h Q := ax_iload_n mt195 dX12_holds_16 rfl
theorem s195_17 (hT : gT h o = some (14, 54)) : aW (d + 1) 195 17 L (.int x0 :: .ref o :: []) h Q = aM d 170 (.ref o :: [.int x0]) h (fun v h1 => aW (d + 1) 195 20 L (ab_ps v []) h1 Q) := ax_invv mt195 dX12_holds_17 (by decide) ct_49389 (.inl rfl) mt170 ⟨⟨Nat.le_of_ble_eq_true rfl, Nat.le_of_ble_eq_true rfl, Nat.le_of_ble_eq_true rfl⟩, rfl, rfl, rfl⟩ hT
theorem s195_20 : aW d 195 20 [l0, l1, l2, l3, l4] (.int a :: S) h Q = aW d 195 21 [l0, l1, .int a, l3, l4] S h Q := ax_istore_n mt195 dX12_holds_20 (Nat.le_of_ble_eq_true rfl) rfl
theorem s195_21 : aW d 195 21 [.ref o, l1, l2, l3, l4] S h Q = aW d 195 22 [.ref o, l1, l2, l3, l4] (.ref o :: S) h Q := ax_aload_n mt195 dX12_holds_21 rfl
theorem s195_22 (hT : gT h o = some (14, 54)) : aW d 195 22 L (.ref o :: S) h Q = (isRf (gR h o 10) = true ∧ aW d 195 25 L (gR h o 10 :: S) h Q) := ax_geta mt195 dX12_holds_22 (by decide) ft_49184 fk_49184 hT
theorem s195_25 : aW d 195 25 [.ref o, l1, l2, l3, l4] S h Q = aW d 195 26 [.ref o, l1, l2, l3, l4] (.ref o :: S) h Q := ax_aload_n mt195 dX12_holds_25 rfl
theorem s195_26 (hT : gT h o = some (14, 54)) : aW d 195 26 L (.ref o :: S) h Q = (isRf (gR h o 46) = true ∧ aW d 195 29 L (gR h o 46 :: S) h Q) := ax_geta mt195 dX12_holds_26 (by decide) ft_49256 fk_49256 hT
theorem s195_29 : aW d 195 29 [l0, .int a, l2, l3, l4] S h Q = aW d 195 30 [l0, .int a, l2, l3, l4] (.int a :: S) h Q := ax_iload_n mt195 dX12_holds_29 rfl
theorem s195_30 : aW d 195 30 L (.int a :: .ref o :: S) h Q = (inb a (aI h o) ∧ aW d 195 31 L (.int (gI h o a.toNatClampNeg) :: S) h Q) := ax_iald mt195 dX12_holds_30
theorem s195_31 : aW d 195 31 L (.int a :: .ref o :: S) h Q = (inb a (aI h o) ∧ aW d 195 32 L (.int (gI h o a.toNatClampNeg) :: S) h Q) := ax_iald mt195 dX12_holds_31
theorem s195_32 : aW d 195 32 [.ref o, l1, l2, l3, l4] S h Q = aW d 195 33 [.ref o, l1, l2, l3, l4] (.ref o :: S) h Q := ax_aload_n mt195 dX12_holds_32 rfl
theorem s195_33 (hT : gT h o = some (14, 54)) : aW d 195 33 L (.ref o :: S) h Q = (isRf (gR h o 11) = true ∧ aW d 195 36 L (gR h o 11 :: S) h Q) := ax_geta mt195 dX12_holds_33 (by decide) ft_49187 fk_49187 hT
theorem s195_36 : aW d 195 36 [.ref o, l1, l2, l3, l4] S h Q = aW d 195 37 [.ref o, l1, l2, l3, l4] (.ref o :: S) h Q := ax_aload_n mt195 dX12_holds_36 rfl
theorem s195_37 (hT : gT h o = some (14, 54)) : aW d 195 37 L (.ref o :: S) h Q = (isRf (gR h o 46) = true ∧ aW d 195 40 L (gR h o 46 :: S) h Q) := ax_geta mt195 dX12_holds_37 (by decide) ft_49256 fk_49256 hT
theorem s195_40 : aW d 195 40 [l0, .int a, l2, l3, l4] S h Q = aW d 195 41 [l0, .int a, l2, l3, l4] (.int a :: S) h Q := ax_iload_n mt195 dX12_holds_40 rfl
theorem s195_41 : aW d 195 41 L (.int a :: .ref o :: S) h Q = (inb a (aI h o) ∧ aW d 195 42 L (.int (gI h o a.toNatClampNeg) :: S) h Q) := ax_iald mt195 dX12_holds_41
theorem s195_42 : aW d 195 42 L (.int a :: .ref o :: S) h Q = (inb a (aI h o) ∧ aW d 195 43 L (.int (gI h o a.toNatClampNeg) :: S) h Q) := ax_iald mt195 dX12_holds_42
theorem s195_43 : aW (d + 1) 195 43 L (.int x1 :: .int x0 :: []) h Q = aM d 155 [.int x0, .int x1] h (fun v h1 => aW (d + 1) 195 46 L (ab_ps v []) h1 Q) := ax_invs mt195 dX12_holds_43 (by decide) ct_49345 (.inl rfl) mt155 ⟨⟨Nat.le_of_ble_eq_true rfl, Nat.le_of_ble_eq_true rfl, Nat.le_of_ble_eq_true rfl⟩, rfl, rfl⟩
theorem s195_46 : aW d 195 46 [l0, l1, l2, l3, l4] (.int a :: S) h Q = aW d 195 47 [l0, l1, l2, .int a, l4] S h Q := ax_istore_n mt195 dX12_holds_46 (Nat.le_of_ble_eq_true rfl) rfl
theorem s195_47 : aW d 195 47 L S h Q = aW d 195 48 L (.int (nI 0) :: S) h Q := ax_iconst mt195 dX12_holds_47 ic_0
theorem s195_48 : aW d 195 48 [l0, l1, l2, l3, l4] (.int a :: S) h Q = aW d 195 50 [l0, l1, l2, l3, .int a] S h Q := ax_istore mt195 dX12_holds_48 (Nat.le_of_ble_eq_true rfl) rfl
theorem s195_50 : aW d 195 50 [l0, l1, l2, l3, .int a] S h Q = aW d 195 52 [l0, l1, l2, l3, .int a] (.int a :: S) h Q := ax_iload mt195 dX12_holds_50 rfl
theorem s195_52 : aW d 195 52 [l0, l1, l2, .int a, l4] S h Q = aW d 195 53 [l0, l1, l2, .int a, l4] (.int a :: S) h Q := ax_iload_n mt195 dX12_holds_52 rfl
theorem s195_53 : aW d 195 53 L (.int b :: .int a :: S) h Q = (if a < b then aW d 195 56 L S h Q else aW d 195 92 L S h Q) := ax_icmp_ge mt195 dX12_holds_53 (by decide)
theorem s195_56 : aW d 195 56 [.ref o, l1, l2, l3, l4] S h Q = aW d 195 57 [.ref o, l1, l2, l3, l4] (.ref o :: S) h Q := ax_aload_n mt195 dX12_holds_56 rfl
theorem s195_57 (hT : gT h o = some (14, 54)) : aW d 195 57 L (.ref o :: S) h Q = aW d 195 60 L (.int (gI h o 53) :: S) h Q := ax_geti mt195 dX12_holds_57 (by decide) ft_49439 fk_49439 hT
theorem s195_60 : aW d 195 60 L S h Q = aW d 195 63 L (.int (nI 400) :: S) h Q := ax_sipush mt195 dX12_holds_60 sp_400
theorem s195_63 : aW d 195 63 L (.int b :: .int a :: S) h Q = (if a < b then aW d 195 66 L S h Q else aW d 195 92 L S h Q) := ax_icmp_ge mt195 dX12_holds_63 (by decide)
theorem s195_66 : aW d 195 66 [.ref o, l1, l2, l3, l4] S h Q = aW d 195 67 [.ref o, l1, l2, l3, l4] (.ref o :: S) h Q := ax_aload_n mt195 dX12_holds_66 rfl
theorem s195_67 (hT : gT h o = some (14, 54)) : aW d 195 67 L (.ref o :: S) h Q = (isRf (gR h o 52) = true ∧ aW d 195 70 L (gR h o 52 :: S) h Q) := ax_geta mt195 dX12_holds_67 (by decide) ft_49274 fk_49274 hT
theorem s195_70 : aW d 195 70 [.ref o, l1, l2, l3, l4] S h Q = aW d 195 71 [.ref o, l1, l2, l3, l4] (.ref o :: S) h Q := ax_aload_n mt195 dX12_holds_70 rfl
theorem s195_71 (hT : gT h o = some (14, 54)) : aW d 195 71 L (.ref o :: S) h Q = aW d 195 74 L (.int (gI h o 53) :: S) h Q := ax_geti mt195 dX12_holds_71 (by decide) ft_49439 fk_49439 hT
theorem s195_74 : aW d 195 74 [l0, l1, .int a, l3, l4] S h Q = aW d 195 75 [l0, l1, .int a, l3, l4] (.int a :: S) h Q := ax_iload_n mt195 dX12_holds_74 rfl
theorem s195_75 : aW d 195 75 L (.int b :: .int a :: .ref o :: S) h Q = (inb a (aJ h o) ∧ aW d 195 76 L S (pI h o a.toNatClampNeg b) Q) := ax_iast mt195 dX12_holds_75
theorem s195_76 : aW d 195 76 [.ref o, l1, l2, l3, l4] S h Q = aW d 195 77 [.ref o, l1, l2, l3, l4] (.ref o :: S) h Q := ax_aload_n mt195 dX12_holds_76 rfl
theorem s195_77 : aW d 195 77 L (.ref o :: S) h Q = aW d 195 78 L (.ref o :: .ref o :: S) h Q := ax_dupa mt195 dX12_holds_77
theorem s195_78 (hT : gT h o = some (14, 54)) : aW d 195 78 L (.ref o :: S) h Q = aW d 195 81 L (.int (gI h o 53) :: S) h Q := ax_geti mt195 dX12_holds_78 (by decide) ft_49439 fk_49439 hT
theorem s195_81 : aW d 195 81 L S h Q = aW d 195 82 L (.int (nI 1) :: S) h Q := ax_iconst mt195 dX12_holds_81 ic_1
theorem s195_82 : aW d 195 82 L (.int b :: .int a :: S) h Q = aW d 195 83 L (.int (a + b) :: S) h Q := ax_iadd mt195 dX12_holds_82
theorem s195_83 (hT : gT h o = some (14, 54)) : aW d 195 83 L (.int a :: .ref o :: S) h Q = aW d 195 86 L S (pI h o 53 a) Q := ax_puti mt195 dX12_holds_83 (by decide) ft_49439 (fun q => fn_49439 q.1) fp_49439 hT
theorem s195_86 : aW d 195 86 [l0, l1, l2, l3, .int a] S h Q = aW d 195 89 [l0, l1, l2, l3, .int (a + nI 1)] S h Q := ax_iinc mt195 dX12_holds_86 rfl ic_1 rfl
theorem s195_89 : aW d 195 89 L S h Q = aW d 195 50 L S h Q := ax_goto mt195 dX12_holds_89 (by decide)
theorem s195_92 : aW d 195 92 [l0, .int a, l2, l3, l4] S h Q = aW d 195 95 [l0, .int (a + nI 1), l2, l3, l4] S h Q := ax_iinc mt195 dX12_holds_92 rfl ic_1 rfl
theorem s195_95 : aW d 195 95 L S h Q = aW d 195 7 L S h Q := ax_goto mt195 dX12_holds_95 (by decide)
theorem s195_98 : aW d 195 98 L [] h Q = Q none h := ax_retv mt195 dX12_holds_98 rfl
-- method 196: BufferRoomModel.pairBy(I)I
theorem dX12_pairBy_0 : decode cX12_pairBy 0 = .ok (.iconst 0, 1) := by decide +kernel
theorem dX12_pairBy_1 : decode cX12_pairBy 1 = .ok (.istore_n 2, 1) := by decide +kernel
theorem dX12_pairBy_2 : decode cX12_pairBy 2 = .ok (.iconst 0, 1) := by decide +kernel
theorem dX12_pairBy_3 : decode cX12_pairBy 3 = .ok (.istore_n 3, 1) := by decide +kernel
theorem dX12_pairBy_4 : decode cX12_pairBy 4 = .ok (.iload_n 3, 1) := by decide +kernel
theorem dX12_pairBy_5 : decode cX12_pairBy 5 = .ok (.aload_n 0, 1) := by decide +kernel
theorem dX12_pairBy_6 : decode cX12_pairBy 6 = .ok (.getfield 287, 3) := by decide +kernel
theorem dX12_pairBy_9 : decode cX12_pairBy 9 = .ok (.iload_n 1, 1) := by decide +kernel
theorem dX12_pairBy_10 : decode cX12_pairBy 10 = .ok (.iadd, 1) := by decide +kernel
theorem dX12_pairBy_11 : decode cX12_pairBy 11 = .ok (.if_icmp .ge 81, 3) := by decide +kernel
theorem dX12_pairBy_14 : decode cX12_pairBy 14 = .ok (.iload_n 3, 1) := by decide +kernel
theorem dX12_pairBy_15 : decode cX12_pairBy 15 = .ok (.aload_n 0, 1) := by decide +kernel
theorem dX12_pairBy_16 : decode cX12_pairBy 16 = .ok (.getfield 287, 3) := by decide +kernel
theorem dX12_pairBy_19 : decode cX12_pairBy 19 = .ok (.if_icmp .ge 24, 3) := by decide +kernel
theorem dX12_pairBy_22 : decode cX12_pairBy 22 = .ok (.aload_n 0, 1) := by decide +kernel
theorem dX12_pairBy_23 : decode cX12_pairBy 23 = .ok (.getfield 122, 3) := by decide +kernel
theorem dX12_pairBy_26 : decode cX12_pairBy 26 = .ok (.iload_n 3, 1) := by decide +kernel
theorem dX12_pairBy_27 : decode cX12_pairBy 27 = .ok (.aload_n 0, 1) := by decide +kernel
theorem dX12_pairBy_28 : decode cX12_pairBy 28 = .ok (.getfield 287, 3) := by decide +kernel
theorem dX12_pairBy_31 : decode cX12_pairBy 31 = .ok (.if_icmp .ge 7, 3) := by decide +kernel
theorem dX12_pairBy_34 : decode cX12_pairBy 34 = .ok (.iload_n 3, 1) := by decide +kernel
theorem dX12_pairBy_35 : decode cX12_pairBy 35 = .ok (.goto 4, 3) := by decide +kernel
theorem dX12_pairBy_38 : decode cX12_pairBy 38 = .ok (.iconst 0, 1) := by decide +kernel
theorem dX12_pairBy_39 : decode cX12_pairBy 39 = .ok (.iaload, 1) := by decide +kernel
theorem dX12_pairBy_40 : decode cX12_pairBy 40 = .ok (.goto 4, 3) := by decide +kernel
theorem dX12_pairBy_43 : decode cX12_pairBy 43 = .ok (.iconst 0, 1) := by decide +kernel
theorem dX12_pairBy_44 : decode cX12_pairBy 44 = .ok (.iload_n 3, 1) := by decide +kernel
theorem dX12_pairBy_45 : decode cX12_pairBy 45 = .ok (.iload_n 1, 1) := by decide +kernel
theorem dX12_pairBy_46 : decode cX12_pairBy 46 = .ok (.if_icmp .lt 23, 3) := by decide +kernel
theorem dX12_pairBy_49 : decode cX12_pairBy 49 = .ok (.aload_n 0, 1) := by decide +kernel
theorem dX12_pairBy_50 : decode cX12_pairBy 50 = .ok (.getfield 122, 3) := by decide +kernel
theorem dX12_pairBy_53 : decode cX12_pairBy 53 = .ok (.iload_n 3, 1) := by decide +kernel
theorem dX12_pairBy_54 : decode cX12_pairBy 54 = .ok (.iload_n 1, 1) := by decide +kernel
theorem dX12_pairBy_55 : decode cX12_pairBy 55 = .ok (.if_icmp .lt 9, 3) := by decide +kernel
theorem dX12_pairBy_58 : decode cX12_pairBy 58 = .ok (.iload_n 3, 1) := by decide +kernel
theorem dX12_pairBy_59 : decode cX12_pairBy 59 = .ok (.iload_n 1, 1) := by decide +kernel
theorem dX12_pairBy_60 : decode cX12_pairBy 60 = .ok (.isub, 1) := by decide +kernel
theorem dX12_pairBy_61 : decode cX12_pairBy 61 = .ok (.goto 4, 3) := by decide +kernel
theorem dX12_pairBy_64 : decode cX12_pairBy 64 = .ok (.iconst 0, 1) := by decide +kernel
theorem dX12_pairBy_65 : decode cX12_pairBy 65 = .ok (.iaload, 1) := by decide +kernel
theorem dX12_pairBy_66 : decode cX12_pairBy 66 = .ok (.goto 4, 3) := by decide +kernel
theorem dX12_pairBy_69 : decode cX12_pairBy 69 = .ok (.iconst 0, 1) := by decide +kernel
theorem dX12_pairBy_70 : decode cX12_pairBy 70 = .ok (.iadd, 1) := by decide +kernel
theorem dX12_pairBy_71 : decode cX12_pairBy 71 = .ok (.istore 4, 2) := by decide +kernel
theorem dX12_pairBy_73 : decode cX12_pairBy 73 = .ok (.iload 4, 2) := by decide +kernel
theorem dX12_pairBy_75 : decode cX12_pairBy 75 = .ok (.iload_n 2, 1) := by decide +kernel
theorem dX12_pairBy_76 : decode cX12_pairBy 76 = .ok (.if_icmp .le 8, 3) := by decide +kernel
theorem dX12_pairBy_79 : decode cX12_pairBy 79 = .ok (.iload 4, 2) := by decide +kernel
theorem dX12_pairBy_81 : decode cX12_pairBy 81 = .ok (.goto 4, 3) := by decide +kernel
theorem dX12_pairBy_84 : decode cX12_pairBy 84 = .ok (.iload_n 2, 1) := by decide +kernel
theorem dX12_pairBy_85 : decode cX12_pairBy 85 = .ok (.istore_n 2, 1) := by decide +kernel
theorem dX12_pairBy_86 : decode cX12_pairBy 86 = .ok (.iinc 3 1, 3) := by decide +kernel
theorem dX12_pairBy_89 : decode cX12_pairBy 89 = .ok (.goto (-85), 3) := by decide +kernel
theorem dX12_pairBy_92 : decode cX12_pairBy 92 = .ok (.iload_n 2, 1) := by decide +kernel
theorem dX12_pairBy_93 : decode cX12_pairBy 93 = .ok (.ireturn, 1) := by decide +kernel
theorem s196_0 : aW d 196 0 L S h Q = aW d 196 1 L (.int (nI 0) :: S) h Q := ax_iconst mt196 dX12_pairBy_0 ic_0
theorem s196_1 : aW d 196 1 [l0, l1, l2, l3, l4] (.int a :: S) h Q = aW d 196 2 [l0, l1, .int a, l3, l4] S h Q := ax_istore_n mt196 dX12_pairBy_1 (Nat.le_of_ble_eq_true rfl) rfl
theorem s196_2 : aW d 196 2 L S h Q = aW d 196 3 L (.int (nI 0) :: S) h Q := ax_iconst mt196 dX12_pairBy_2 ic_0
theorem s196_3 : aW d 196 3 [l0, l1, l2, l3, l4] (.int a :: S) h Q = aW d 196 4 [l0, l1, l2, .int a, l4] S h Q := ax_istore_n mt196 dX12_pairBy_3 (Nat.le_of_ble_eq_true rfl) rfl
theorem s196_4 : aW d 196 4 [l0, l1, l2, .int a, l4] S h Q = aW d 196 5 [l0, l1, l2, .int a, l4] (.int a :: S) h Q := ax_iload_n mt196 dX12_pairBy_4 rfl
theorem s196_5 : aW d 196 5 [.ref o, l1, l2, l3, l4] S h Q = aW d 196 6 [.ref o, l1, l2, l3, l4] (.ref o :: S) h Q := ax_aload_n mt196 dX12_pairBy_5 rfl
theorem s196_6 (hT : gT h o = some (14, 54)) : aW d 196 6 L (.ref o :: S) h Q = aW d 196 9 L (.int (gI h o 53) :: S) h Q := ax_geti mt196 dX12_pairBy_6 (by decide) ft_49439 fk_49439 hT
theorem s196_9 : aW d 196 9 [l0, .int a, l2, l3, l4] S h Q = aW d 196 10 [l0, .int a, l2, l3, l4] (.int a :: S) h Q := ax_iload_n mt196 dX12_pairBy_9 rfl
theorem s196_10 : aW d 196 10 L (.int b :: .int a :: S) h Q = aW d 196 11 L (.int (a + b) :: S) h Q := ax_iadd mt196 dX12_pairBy_10
theorem s196_11 : aW d 196 11 L (.int b :: .int a :: S) h Q = (if a < b then aW d 196 14 L S h Q else aW d 196 92 L S h Q) := ax_icmp_ge mt196 dX12_pairBy_11 (by decide)
theorem s196_14 : aW d 196 14 [l0, l1, l2, .int a, l4] S h Q = aW d 196 15 [l0, l1, l2, .int a, l4] (.int a :: S) h Q := ax_iload_n mt196 dX12_pairBy_14 rfl
theorem s196_15 : aW d 196 15 [.ref o, l1, l2, l3, l4] S h Q = aW d 196 16 [.ref o, l1, l2, l3, l4] (.ref o :: S) h Q := ax_aload_n mt196 dX12_pairBy_15 rfl
theorem s196_16 (hT : gT h o = some (14, 54)) : aW d 196 16 L (.ref o :: S) h Q = aW d 196 19 L (.int (gI h o 53) :: S) h Q := ax_geti mt196 dX12_pairBy_16 (by decide) ft_49439 fk_49439 hT
theorem s196_19 : aW d 196 19 L (.int b :: .int a :: S) h Q = (if a < b then aW d 196 22 L S h Q else aW d 196 43 L S h Q) := ax_icmp_ge mt196 dX12_pairBy_19 (by decide)
theorem s196_22 : aW d 196 22 [.ref o, l1, l2, l3, l4] S h Q = aW d 196 23 [.ref o, l1, l2, l3, l4] (.ref o :: S) h Q := ax_aload_n mt196 dX12_pairBy_22 rfl
theorem s196_23 (hT : gT h o = some (14, 54)) : aW d 196 23 L (.ref o :: S) h Q = (isRf (gR h o 52) = true ∧ aW d 196 26 L (gR h o 52 :: S) h Q) := ax_geta mt196 dX12_pairBy_23 (by decide) ft_49274 fk_49274 hT
theorem s196_26 : aW d 196 26 [l0, l1, l2, .int a, l4] S h Q = aW d 196 27 [l0, l1, l2, .int a, l4] (.int a :: S) h Q := ax_iload_n mt196 dX12_pairBy_26 rfl
theorem s196_27 : aW d 196 27 [.ref o, l1, l2, l3, l4] S h Q = aW d 196 28 [.ref o, l1, l2, l3, l4] (.ref o :: S) h Q := ax_aload_n mt196 dX12_pairBy_27 rfl
theorem s196_28 (hT : gT h o = some (14, 54)) : aW d 196 28 L (.ref o :: S) h Q = aW d 196 31 L (.int (gI h o 53) :: S) h Q := ax_geti mt196 dX12_pairBy_28 (by decide) ft_49439 fk_49439 hT
theorem s196_31 : aW d 196 31 L (.int b :: .int a :: S) h Q = (if a < b then aW d 196 34 L S h Q else aW d 196 38 L S h Q) := ax_icmp_ge mt196 dX12_pairBy_31 (by decide)
theorem s196_34 : aW d 196 34 [l0, l1, l2, .int a, l4] S h Q = aW d 196 35 [l0, l1, l2, .int a, l4] (.int a :: S) h Q := ax_iload_n mt196 dX12_pairBy_34 rfl
theorem s196_35 : aW d 196 35 L S h Q = aW d 196 39 L S h Q := ax_goto mt196 dX12_pairBy_35 (by decide)
theorem s196_39 : aW d 196 39 L (.int a :: .ref o :: S) h Q = (inb a (aI h o) ∧ aW d 196 40 L (.int (gI h o a.toNatClampNeg) :: S) h Q) := ax_iald mt196 dX12_pairBy_39
theorem s196_40 : aW d 196 40 L S h Q = aW d 196 44 L S h Q := ax_goto mt196 dX12_pairBy_40 (by decide)
theorem s196_44 : aW d 196 44 [l0, l1, l2, .int a, l4] S h Q = aW d 196 45 [l0, l1, l2, .int a, l4] (.int a :: S) h Q := ax_iload_n mt196 dX12_pairBy_44 rfl
theorem s196_45 : aW d 196 45 [l0, .int a, l2, l3, l4] S h Q = aW d 196 46 [l0, .int a, l2, l3, l4] (.int a :: S) h Q := ax_iload_n mt196 dX12_pairBy_45 rfl
theorem s196_46 : aW d 196 46 L (.int b :: .int a :: S) h Q = (if a < b then aW d 196 69 L S h Q else aW d 196 49 L S h Q) := ax_icmp_lt mt196 dX12_pairBy_46 (by decide)
theorem s196_49 : aW d 196 49 [.ref o, l1, l2, l3, l4] S h Q = aW d 196 50 [.ref o, l1, l2, l3, l4] (.ref o :: S) h Q := ax_aload_n mt196 dX12_pairBy_49 rfl
theorem s196_50 (hT : gT h o = some (14, 54)) : aW d 196 50 L (.ref o :: S) h Q = (isRf (gR h o 52) = true ∧ aW d 196 53 L (gR h o 52 :: S) h Q) := ax_geta mt196 dX12_pairBy_50 (by decide) ft_49274 fk_49274 hT
theorem s196_53 : aW d 196 53 [l0, l1, l2, .int a, l4] S h Q = aW d 196 54 [l0, l1, l2, .int a, l4] (.int a :: S) h Q := ax_iload_n mt196 dX12_pairBy_53 rfl
theorem s196_54 : aW d 196 54 [l0, .int a, l2, l3, l4] S h Q = aW d 196 55 [l0, .int a, l2, l3, l4] (.int a :: S) h Q := ax_iload_n mt196 dX12_pairBy_54 rfl
theorem s196_55 : aW d 196 55 L (.int b :: .int a :: S) h Q = (if a < b then aW d 196 64 L S h Q else aW d 196 58 L S h Q) := ax_icmp_lt mt196 dX12_pairBy_55 (by decide)
theorem s196_58 : aW d 196 58 [l0, l1, l2, .int a, l4] S h Q = aW d 196 59 [l0, l1, l2, .int a, l4] (.int a :: S) h Q := ax_iload_n mt196 dX12_pairBy_58 rfl
theorem s196_59 : aW d 196 59 [l0, .int a, l2, l3, l4] S h Q = aW d 196 60 [l0, .int a, l2, l3, l4] (.int a :: S) h Q := ax_iload_n mt196 dX12_pairBy_59 rfl
theorem s196_60 : aW d 196 60 L (.int b :: .int a :: S) h Q = aW d 196 61 L (.int (a - b) :: S) h Q := ax_isub mt196 dX12_pairBy_60
theorem s196_61 : aW d 196 61 L S h Q = aW d 196 65 L S h Q := ax_goto mt196 dX12_pairBy_61 (by decide)
theorem s196_65 : aW d 196 65 L (.int a :: .ref o :: S) h Q = (inb a (aI h o) ∧ aW d 196 66 L (.int (gI h o a.toNatClampNeg) :: S) h Q) := ax_iald mt196 dX12_pairBy_65
theorem s196_66 : aW d 196 66 L S h Q = aW d 196 70 L S h Q := ax_goto mt196 dX12_pairBy_66 (by decide)
theorem s196_70 : aW d 196 70 L (.int b :: .int a :: S) h Q = aW d 196 71 L (.int (a + b) :: S) h Q := ax_iadd mt196 dX12_pairBy_70
theorem s196_71 : aW d 196 71 [l0, l1, l2, l3, l4] (.int a :: S) h Q = aW d 196 73 [l0, l1, l2, l3, .int a] S h Q := ax_istore mt196 dX12_pairBy_71 (Nat.le_of_ble_eq_true rfl) rfl
theorem s196_73 : aW d 196 73 [l0, l1, l2, l3, .int a] S h Q = aW d 196 75 [l0, l1, l2, l3, .int a] (.int a :: S) h Q := ax_iload mt196 dX12_pairBy_73 rfl
theorem s196_75 : aW d 196 75 [l0, l1, .int a, l3, l4] S h Q = aW d 196 76 [l0, l1, .int a, l3, l4] (.int a :: S) h Q := ax_iload_n mt196 dX12_pairBy_75 rfl
theorem s196_76 : aW d 196 76 L (.int b :: .int a :: S) h Q = (if b < a then aW d 196 79 L S h Q else aW d 196 84 L S h Q) := ax_icmp_le mt196 dX12_pairBy_76 (by decide)
theorem s196_79 : aW d 196 79 [l0, l1, l2, l3, .int a] S h Q = aW d 196 81 [l0, l1, l2, l3, .int a] (.int a :: S) h Q := ax_iload mt196 dX12_pairBy_79 rfl
theorem s196_81 : aW d 196 81 L S h Q = aW d 196 85 L S h Q := ax_goto mt196 dX12_pairBy_81 (by decide)
theorem s196_85 : aW d 196 85 [l0, l1, l2, l3, l4] (.int a :: S) h Q = aW d 196 86 [l0, l1, .int a, l3, l4] S h Q := ax_istore_n mt196 dX12_pairBy_85 (Nat.le_of_ble_eq_true rfl) rfl
theorem s196_86 : aW d 196 86 [l0, l1, l2, .int a, l4] S h Q = aW d 196 89 [l0, l1, l2, .int (a + nI 1), l4] S h Q := ax_iinc mt196 dX12_pairBy_86 rfl ic_1 rfl
theorem s196_89 : aW d 196 89 L S h Q = aW d 196 4 L S h Q := ax_goto mt196 dX12_pairBy_89 (by decide)
theorem s196_84 : aW d 196 84 [l0, l1, .int a, l3, l4] S h Q = aW d 196 85 [l0, l1, .int a, l3, l4] (.int a :: S) h Q := ax_iload_n mt196 dX12_pairBy_84 rfl
theorem s196_64 : aW d 196 64 L S h Q = aW d 196 65 L (.int (nI 0) :: S) h Q := ax_iconst mt196 dX12_pairBy_64 ic_0
theorem s196_69 : aW d 196 69 L S h Q = aW d 196 70 L (.int (nI 0) :: S) h Q := ax_iconst mt196 dX12_pairBy_69 ic_0
theorem s196_38 : aW d 196 38 L S h Q = aW d 196 39 L (.int (nI 0) :: S) h Q := ax_iconst mt196 dX12_pairBy_38 ic_0
theorem s196_43 : aW d 196 43 L S h Q = aW d 196 44 L (.int (nI 0) :: S) h Q := ax_iconst mt196 dX12_pairBy_43 ic_0
theorem s196_92 : aW d 196 92 [l0, l1, .int a, l3, l4] S h Q = aW d 196 93 [l0, l1, .int a, l3, l4] (.int a :: S) h Q := ax_iload_n mt196 dX12_pairBy_92 rfl
theorem s196_93 : aW d 196 93 L [.int a] h Q = Q (some (.int a)) h := ax_reti mt196 dX12_pairBy_93 rfl
-- method 197: BufferRoomModel.pair(I)I
theorem dX12_pair_0 : decode cX12_pair 0 = .ok (.iload_n 1, 1) := by decide +kernel
theorem dX12_pair_1 : decode cX12_pair 1 = .ok (.iconst 0, 1) := by decide +kernel
theorem dX12_pair_2 : decode cX12_pair 2 = .ok (.sipush 400, 3) := by decide +kernel
theorem dX12_pair_5 : decode cX12_pair 5 = .ok (.invokestatic 125, 3) := by decide +kernel
theorem dX12_pair_8 : decode cX12_pair 8 = .ok (.ifCond .ne 6, 3) := by decide +kernel
theorem dX12_pair_11 : decode cX12_pair 11 = .ok (.bipush (-2), 2) := by decide +kernel
theorem dX12_pair_13 : decode cX12_pair 13 = .ok (.ireturn, 1) := by decide +kernel
theorem dX12_pair_14 : decode cX12_pair 14 = .ok (.aload_n 0, 1) := by decide +kernel
theorem dX12_pair_15 : decode cX12_pair 15 = .ok (.invokevirtual 225, 3) := by decide +kernel
theorem dX12_pair_18 : decode cX12_pair 18 = .ok (.ifCond .ne 6, 3) := by decide +kernel
theorem dX12_pair_21 : decode cX12_pair 21 = .ok (.bipush (-3), 2) := by decide +kernel
theorem dX12_pair_23 : decode cX12_pair 23 = .ok (.ireturn, 1) := by decide +kernel
theorem dX12_pair_24 : decode cX12_pair 24 = .ok (.aload_n 0, 1) := by decide +kernel
theorem dX12_pair_25 : decode cX12_pair 25 = .ok (.invokevirtual 290, 3) := by decide +kernel
theorem dX12_pair_28 : decode cX12_pair 28 = .ok (.aload_n 0, 1) := by decide +kernel
theorem dX12_pair_29 : decode cX12_pair 29 = .ok (.iload_n 1, 1) := by decide +kernel
theorem dX12_pair_30 : decode cX12_pair 30 = .ok (.invokevirtual 293, 3) := by decide +kernel
theorem dX12_pair_33 : decode cX12_pair 33 = .ok (.ireturn, 1) := by decide +kernel
theorem s197_0 : aW d 197 0 [l0, .int a] S h Q = aW d 197 1 [l0, .int a] (.int a :: S) h Q := ax_iload_n mt197 dX12_pair_0 rfl
theorem s197_1 : aW d 197 1 L S h Q = aW d 197 2 L (.int (nI 0) :: S) h Q := ax_iconst mt197 dX12_pair_1 ic_0
theorem s197_2 : aW d 197 2 L S h Q = aW d 197 5 L (.int (nI 400) :: S) h Q := ax_sipush mt197 dX12_pair_2 sp_400
theorem s197_5 : aW (d + 1) 197 5 L (.int x2 :: .int x1 :: .int x0 :: []) h Q = aM d 139 [.int x0, .int x1, .int x2] h (fun v h1 => aW (d + 1) 197 8 L (ab_ps v []) h1 Q) := ax_invs mt197 dX12_pair_5 (by decide) ct_49277 (.inl rfl) mt139 ⟨⟨Nat.le_of_ble_eq_true rfl, Nat.le_of_ble_eq_true rfl, Nat.le_of_ble_eq_true rfl⟩, rfl, rfl⟩
theorem s197_8 : aW d 197 8 L (.int a :: S) h Q = (if a = 0 then aW d 197 11 L S h Q else aW d 197 14 L S h Q) := ax_if_ne mt197 dX12_pair_8 (by decide)
theorem s197_11 : aW d 197 11 L S h Q = aW d 197 13 L (.int ((-2)) :: S) h Q := ax_bipush mt197 dX12_pair_11 bp_m2
theorem s197_13 : aW d 197 13 L [.int a] h Q = Q (some (.int a)) h := ax_reti mt197 dX12_pair_13 rfl
theorem s197_14 : aW d 197 14 [.ref o, l1] S h Q = aW d 197 15 [.ref o, l1] (.ref o :: S) h Q := ax_aload_n mt197 dX12_pair_14 rfl
theorem s197_15 (hT : gT h o = some (14, 54)) : aW (d + 1) 197 15 L (.ref o :: []) h Q = aM d 163 (.ref o :: []) h (fun v h1 => aW (d + 1) 197 18 L (ab_ps v []) h1 Q) := ax_invv mt197 dX12_pair_15 (by decide) ct_49377 (.inl rfl) mt163 ⟨⟨Nat.le_of_ble_eq_true rfl, Nat.le_of_ble_eq_true rfl, Nat.le_of_ble_eq_true rfl⟩, rfl, rfl, rfl⟩ hT
theorem s197_18 : aW d 197 18 L (.int a :: S) h Q = (if a = 0 then aW d 197 21 L S h Q else aW d 197 24 L S h Q) := ax_if_ne mt197 dX12_pair_18 (by decide)
theorem s197_21 : aW d 197 21 L S h Q = aW d 197 23 L (.int ((-3)) :: S) h Q := ax_bipush mt197 dX12_pair_21 bp_m3
theorem s197_23 : aW d 197 23 L [.int a] h Q = Q (some (.int a)) h := ax_reti mt197 dX12_pair_23 rfl
theorem s197_24 : aW d 197 24 [.ref o, l1] S h Q = aW d 197 25 [.ref o, l1] (.ref o :: S) h Q := ax_aload_n mt197 dX12_pair_24 rfl
theorem s197_25 (hT : gT h o = some (14, 54)) : aW (d + 1) 197 25 L (.ref o :: []) h Q = aM d 195 (.ref o :: []) h (fun v h1 => aW (d + 1) 197 28 L (ab_ps v []) h1 Q) := ax_invv mt197 dX12_pair_25 (by decide) ct_49442 (.inl rfl) mt195 ⟨⟨Nat.le_of_ble_eq_true rfl, Nat.le_of_ble_eq_true rfl, Nat.le_of_ble_eq_true rfl⟩, rfl, rfl, rfl⟩ hT
theorem s197_28 : aW d 197 28 [.ref o, l1] S h Q = aW d 197 29 [.ref o, l1] (.ref o :: S) h Q := ax_aload_n mt197 dX12_pair_28 rfl
theorem s197_29 : aW d 197 29 [l0, .int a] S h Q = aW d 197 30 [l0, .int a] (.int a :: S) h Q := ax_iload_n mt197 dX12_pair_29 rfl
theorem s197_30 (hT : gT h o = some (14, 54)) : aW (d + 1) 197 30 L (.int x0 :: .ref o :: []) h Q = aM d 196 (.ref o :: [.int x0]) h (fun v h1 => aW (d + 1) 197 33 L (ab_ps v []) h1 Q) := ax_invv mt197 dX12_pair_30 (by decide) ct_49445 (.inl rfl) mt196 ⟨⟨Nat.le_of_ble_eq_true rfl, Nat.le_of_ble_eq_true rfl, Nat.le_of_ble_eq_true rfl⟩, rfl, rfl, rfl⟩ hT
theorem s197_33 : aW d 197 33 L [.int a] h Q = Q (some (.int a)) h := ax_reti mt197 dX12_pair_33 rfl
-- method 198: BufferRoomModel.bestPhase(I)I
theorem dX12_bestPhase_0 : decode cX12_bestPhase 0 = .ok (.iload_n 1, 1) := by decide +kernel
theorem dX12_bestPhase_1 : decode cX12_bestPhase 1 = .ok (.iconst 0, 1) := by decide +kernel
theorem dX12_bestPhase_2 : decode cX12_bestPhase 2 = .ok (.sipush 400, 3) := by decide +kernel
theorem dX12_bestPhase_5 : decode cX12_bestPhase 5 = .ok (.invokestatic 125, 3) := by decide +kernel
theorem dX12_bestPhase_8 : decode cX12_bestPhase 8 = .ok (.ifCond .ne 6, 3) := by decide +kernel
theorem dX12_bestPhase_11 : decode cX12_bestPhase 11 = .ok (.bipush (-2), 2) := by decide +kernel
theorem dX12_bestPhase_13 : decode cX12_bestPhase 13 = .ok (.ireturn, 1) := by decide +kernel
theorem dX12_bestPhase_14 : decode cX12_bestPhase 14 = .ok (.aload_n 0, 1) := by decide +kernel
theorem dX12_bestPhase_15 : decode cX12_bestPhase 15 = .ok (.invokevirtual 225, 3) := by decide +kernel
theorem dX12_bestPhase_18 : decode cX12_bestPhase 18 = .ok (.ifCond .ne 6, 3) := by decide +kernel
theorem dX12_bestPhase_21 : decode cX12_bestPhase 21 = .ok (.bipush (-3), 2) := by decide +kernel
theorem dX12_bestPhase_23 : decode cX12_bestPhase 23 = .ok (.ireturn, 1) := by decide +kernel
theorem dX12_bestPhase_24 : decode cX12_bestPhase 24 = .ok (.aload_n 0, 1) := by decide +kernel
theorem dX12_bestPhase_25 : decode cX12_bestPhase 25 = .ok (.invokevirtual 290, 3) := by decide +kernel
theorem dX12_bestPhase_28 : decode cX12_bestPhase 28 = .ok (.iconst 0, 1) := by decide +kernel
theorem dX12_bestPhase_29 : decode cX12_bestPhase 29 = .ok (.istore_n 2, 1) := by decide +kernel
theorem dX12_bestPhase_30 : decode cX12_bestPhase 30 = .ok (.aload_n 0, 1) := by decide +kernel
theorem dX12_bestPhase_31 : decode cX12_bestPhase 31 = .ok (.iconst 0, 1) := by decide +kernel
theorem dX12_bestPhase_32 : decode cX12_bestPhase 32 = .ok (.invokevirtual 293, 3) := by decide +kernel
theorem dX12_bestPhase_35 : decode cX12_bestPhase 35 = .ok (.istore_n 3, 1) := by decide +kernel
theorem dX12_bestPhase_36 : decode cX12_bestPhase 36 = .ok (.iconst 1, 1) := by decide +kernel
theorem dX12_bestPhase_37 : decode cX12_bestPhase 37 = .ok (.istore 4, 2) := by decide +kernel
theorem dX12_bestPhase_39 : decode cX12_bestPhase 39 = .ok (.iload 4, 2) := by decide +kernel
theorem dX12_bestPhase_41 : decode cX12_bestPhase 41 = .ok (.iload_n 1, 1) := by decide +kernel
theorem dX12_bestPhase_42 : decode cX12_bestPhase 42 = .ok (.if_icmp .gt 43, 3) := by decide +kernel
theorem dX12_bestPhase_45 : decode cX12_bestPhase 45 = .ok (.aload_n 0, 1) := by decide +kernel
theorem dX12_bestPhase_46 : decode cX12_bestPhase 46 = .ok (.iload 4, 2) := by decide +kernel
theorem dX12_bestPhase_48 : decode cX12_bestPhase 48 = .ok (.invokevirtual 293, 3) := by decide +kernel
theorem dX12_bestPhase_51 : decode cX12_bestPhase 51 = .ok (.istore 5, 2) := by decide +kernel
theorem dX12_bestPhase_53 : decode cX12_bestPhase 53 = .ok (.iload 5, 2) := by decide +kernel
theorem dX12_bestPhase_55 : decode cX12_bestPhase 55 = .ok (.iload_n 3, 1) := by decide +kernel
theorem dX12_bestPhase_56 : decode cX12_bestPhase 56 = .ok (.if_icmp .ge 8, 3) := by decide +kernel
theorem dX12_bestPhase_59 : decode cX12_bestPhase 59 = .ok (.iload 4, 2) := by decide +kernel
theorem dX12_bestPhase_61 : decode cX12_bestPhase 61 = .ok (.goto 4, 3) := by decide +kernel
theorem dX12_bestPhase_64 : decode cX12_bestPhase 64 = .ok (.iload_n 2, 1) := by decide +kernel
theorem dX12_bestPhase_65 : decode cX12_bestPhase 65 = .ok (.istore_n 2, 1) := by decide +kernel
theorem dX12_bestPhase_66 : decode cX12_bestPhase 66 = .ok (.iload 5, 2) := by decide +kernel
theorem dX12_bestPhase_68 : decode cX12_bestPhase 68 = .ok (.iload_n 3, 1) := by decide +kernel
theorem dX12_bestPhase_69 : decode cX12_bestPhase 69 = .ok (.if_icmp .ge 8, 3) := by decide +kernel
theorem dX12_bestPhase_72 : decode cX12_bestPhase 72 = .ok (.iload 5, 2) := by decide +kernel
theorem dX12_bestPhase_74 : decode cX12_bestPhase 74 = .ok (.goto 4, 3) := by decide +kernel
theorem dX12_bestPhase_77 : decode cX12_bestPhase 77 = .ok (.iload_n 3, 1) := by decide +kernel
theorem dX12_bestPhase_78 : decode cX12_bestPhase 78 = .ok (.istore_n 3, 1) := by decide +kernel
theorem dX12_bestPhase_79 : decode cX12_bestPhase 79 = .ok (.iinc 4 1, 3) := by decide +kernel
theorem dX12_bestPhase_82 : decode cX12_bestPhase 82 = .ok (.goto (-43), 3) := by decide +kernel
theorem dX12_bestPhase_85 : decode cX12_bestPhase 85 = .ok (.iload_n 2, 1) := by decide +kernel
theorem dX12_bestPhase_86 : decode cX12_bestPhase 86 = .ok (.ireturn, 1) := by decide +kernel
theorem s198_0 : aW d 198 0 [l0, .int a, l2, l3, l4, l5] S h Q = aW d 198 1 [l0, .int a, l2, l3, l4, l5] (.int a :: S) h Q := ax_iload_n mt198 dX12_bestPhase_0 rfl
theorem s198_1 : aW d 198 1 L S h Q = aW d 198 2 L (.int (nI 0) :: S) h Q := ax_iconst mt198 dX12_bestPhase_1 ic_0
theorem s198_2 : aW d 198 2 L S h Q = aW d 198 5 L (.int (nI 400) :: S) h Q := ax_sipush mt198 dX12_bestPhase_2 sp_400
theorem s198_5 : aW (d + 1) 198 5 L (.int x2 :: .int x1 :: .int x0 :: []) h Q = aM d 139 [.int x0, .int x1, .int x2] h (fun v h1 => aW (d + 1) 198 8 L (ab_ps v []) h1 Q) := ax_invs mt198 dX12_bestPhase_5 (by decide) ct_49277 (.inl rfl) mt139 ⟨⟨Nat.le_of_ble_eq_true rfl, Nat.le_of_ble_eq_true rfl, Nat.le_of_ble_eq_true rfl⟩, rfl, rfl⟩
theorem s198_8 : aW d 198 8 L (.int a :: S) h Q = (if a = 0 then aW d 198 11 L S h Q else aW d 198 14 L S h Q) := ax_if_ne mt198 dX12_bestPhase_8 (by decide)
theorem s198_11 : aW d 198 11 L S h Q = aW d 198 13 L (.int ((-2)) :: S) h Q := ax_bipush mt198 dX12_bestPhase_11 bp_m2
theorem s198_13 : aW d 198 13 L [.int a] h Q = Q (some (.int a)) h := ax_reti mt198 dX12_bestPhase_13 rfl
theorem s198_14 : aW d 198 14 [.ref o, l1, l2, l3, l4, l5] S h Q = aW d 198 15 [.ref o, l1, l2, l3, l4, l5] (.ref o :: S) h Q := ax_aload_n mt198 dX12_bestPhase_14 rfl
theorem s198_15 (hT : gT h o = some (14, 54)) : aW (d + 1) 198 15 L (.ref o :: []) h Q = aM d 163 (.ref o :: []) h (fun v h1 => aW (d + 1) 198 18 L (ab_ps v []) h1 Q) := ax_invv mt198 dX12_bestPhase_15 (by decide) ct_49377 (.inl rfl) mt163 ⟨⟨Nat.le_of_ble_eq_true rfl, Nat.le_of_ble_eq_true rfl, Nat.le_of_ble_eq_true rfl⟩, rfl, rfl, rfl⟩ hT
theorem s198_18 : aW d 198 18 L (.int a :: S) h Q = (if a = 0 then aW d 198 21 L S h Q else aW d 198 24 L S h Q) := ax_if_ne mt198 dX12_bestPhase_18 (by decide)
theorem s198_21 : aW d 198 21 L S h Q = aW d 198 23 L (.int ((-3)) :: S) h Q := ax_bipush mt198 dX12_bestPhase_21 bp_m3
theorem s198_23 : aW d 198 23 L [.int a] h Q = Q (some (.int a)) h := ax_reti mt198 dX12_bestPhase_23 rfl
theorem s198_24 : aW d 198 24 [.ref o, l1, l2, l3, l4, l5] S h Q = aW d 198 25 [.ref o, l1, l2, l3, l4, l5] (.ref o :: S) h Q := ax_aload_n mt198 dX12_bestPhase_24 rfl
theorem s198_25 (hT : gT h o = some (14, 54)) : aW (d + 1) 198 25 L (.ref o :: []) h Q = aM d 195 (.ref o :: []) h (fun v h1 => aW (d + 1) 198 28 L (ab_ps v []) h1 Q) := ax_invv mt198 dX12_bestPhase_25 (by decide) ct_49442 (.inl rfl) mt195 ⟨⟨Nat.le_of_ble_eq_true rfl, Nat.le_of_ble_eq_true rfl, Nat.le_of_ble_eq_true rfl⟩, rfl, rfl, rfl⟩ hT
theorem s198_28 : aW d 198 28 L S h Q = aW d 198 29 L (.int (nI 0) :: S) h Q := ax_iconst mt198 dX12_bestPhase_28 ic_0
theorem s198_29 : aW d 198 29 [l0, l1, l2, l3, l4, l5] (.int a :: S) h Q = aW d 198 30 [l0, l1, .int a, l3, l4, l5] S h Q := ax_istore_n mt198 dX12_bestPhase_29 (Nat.le_of_ble_eq_true rfl) rfl
theorem s198_30 : aW d 198 30 [.ref o, l1, l2, l3, l4, l5] S h Q = aW d 198 31 [.ref o, l1, l2, l3, l4, l5] (.ref o :: S) h Q := ax_aload_n mt198 dX12_bestPhase_30 rfl
theorem s198_31 : aW d 198 31 L S h Q = aW d 198 32 L (.int (nI 0) :: S) h Q := ax_iconst mt198 dX12_bestPhase_31 ic_0
theorem s198_32 (hT : gT h o = some (14, 54)) : aW (d + 1) 198 32 L (.int x0 :: .ref o :: []) h Q = aM d 196 (.ref o :: [.int x0]) h (fun v h1 => aW (d + 1) 198 35 L (ab_ps v []) h1 Q) := ax_invv mt198 dX12_bestPhase_32 (by decide) ct_49445 (.inl rfl) mt196 ⟨⟨Nat.le_of_ble_eq_true rfl, Nat.le_of_ble_eq_true rfl, Nat.le_of_ble_eq_true rfl⟩, rfl, rfl, rfl⟩ hT
theorem s198_35 : aW d 198 35 [l0, l1, l2, l3, l4, l5] (.int a :: S) h Q = aW d 198 36 [l0, l1, l2, .int a, l4, l5] S h Q := ax_istore_n mt198 dX12_bestPhase_35 (Nat.le_of_ble_eq_true rfl) rfl
theorem s198_36 : aW d 198 36 L S h Q = aW d 198 37 L (.int (nI 1) :: S) h Q := ax_iconst mt198 dX12_bestPhase_36 ic_1
theorem s198_37 : aW d 198 37 [l0, l1, l2, l3, l4, l5] (.int a :: S) h Q = aW d 198 39 [l0, l1, l2, l3, .int a, l5] S h Q := ax_istore mt198 dX12_bestPhase_37 (Nat.le_of_ble_eq_true rfl) rfl
theorem s198_39 : aW d 198 39 [l0, l1, l2, l3, .int a, l5] S h Q = aW d 198 41 [l0, l1, l2, l3, .int a, l5] (.int a :: S) h Q := ax_iload mt198 dX12_bestPhase_39 rfl
theorem s198_41 : aW d 198 41 [l0, .int a, l2, l3, l4, l5] S h Q = aW d 198 42 [l0, .int a, l2, l3, l4, l5] (.int a :: S) h Q := ax_iload_n mt198 dX12_bestPhase_41 rfl
theorem s198_42 : aW d 198 42 L (.int b :: .int a :: S) h Q = (if b < a then aW d 198 85 L S h Q else aW d 198 45 L S h Q) := ax_icmp_gt mt198 dX12_bestPhase_42 (by decide)
theorem s198_45 : aW d 198 45 [.ref o, l1, l2, l3, l4, l5] S h Q = aW d 198 46 [.ref o, l1, l2, l3, l4, l5] (.ref o :: S) h Q := ax_aload_n mt198 dX12_bestPhase_45 rfl
theorem s198_46 : aW d 198 46 [l0, l1, l2, l3, .int a, l5] S h Q = aW d 198 48 [l0, l1, l2, l3, .int a, l5] (.int a :: S) h Q := ax_iload mt198 dX12_bestPhase_46 rfl
theorem s198_48 (hT : gT h o = some (14, 54)) : aW (d + 1) 198 48 L (.int x0 :: .ref o :: []) h Q = aM d 196 (.ref o :: [.int x0]) h (fun v h1 => aW (d + 1) 198 51 L (ab_ps v []) h1 Q) := ax_invv mt198 dX12_bestPhase_48 (by decide) ct_49445 (.inl rfl) mt196 ⟨⟨Nat.le_of_ble_eq_true rfl, Nat.le_of_ble_eq_true rfl, Nat.le_of_ble_eq_true rfl⟩, rfl, rfl, rfl⟩ hT
theorem s198_51 : aW d 198 51 [l0, l1, l2, l3, l4, l5] (.int a :: S) h Q = aW d 198 53 [l0, l1, l2, l3, l4, .int a] S h Q := ax_istore mt198 dX12_bestPhase_51 (Nat.le_of_ble_eq_true rfl) rfl
theorem s198_53 : aW d 198 53 [l0, l1, l2, l3, l4, .int a] S h Q = aW d 198 55 [l0, l1, l2, l3, l4, .int a] (.int a :: S) h Q := ax_iload mt198 dX12_bestPhase_53 rfl
theorem s198_55 : aW d 198 55 [l0, l1, l2, .int a, l4, l5] S h Q = aW d 198 56 [l0, l1, l2, .int a, l4, l5] (.int a :: S) h Q := ax_iload_n mt198 dX12_bestPhase_55 rfl
theorem s198_56 : aW d 198 56 L (.int b :: .int a :: S) h Q = (if a < b then aW d 198 59 L S h Q else aW d 198 64 L S h Q) := ax_icmp_ge mt198 dX12_bestPhase_56 (by decide)
theorem s198_59 : aW d 198 59 [l0, l1, l2, l3, .int a, l5] S h Q = aW d 198 61 [l0, l1, l2, l3, .int a, l5] (.int a :: S) h Q := ax_iload mt198 dX12_bestPhase_59 rfl
theorem s198_61 : aW d 198 61 L S h Q = aW d 198 65 L S h Q := ax_goto mt198 dX12_bestPhase_61 (by decide)
theorem s198_65 : aW d 198 65 [l0, l1, l2, l3, l4, l5] (.int a :: S) h Q = aW d 198 66 [l0, l1, .int a, l3, l4, l5] S h Q := ax_istore_n mt198 dX12_bestPhase_65 (Nat.le_of_ble_eq_true rfl) rfl
theorem s198_66 : aW d 198 66 [l0, l1, l2, l3, l4, .int a] S h Q = aW d 198 68 [l0, l1, l2, l3, l4, .int a] (.int a :: S) h Q := ax_iload mt198 dX12_bestPhase_66 rfl
theorem s198_68 : aW d 198 68 [l0, l1, l2, .int a, l4, l5] S h Q = aW d 198 69 [l0, l1, l2, .int a, l4, l5] (.int a :: S) h Q := ax_iload_n mt198 dX12_bestPhase_68 rfl
theorem s198_69 : aW d 198 69 L (.int b :: .int a :: S) h Q = (if a < b then aW d 198 72 L S h Q else aW d 198 77 L S h Q) := ax_icmp_ge mt198 dX12_bestPhase_69 (by decide)
theorem s198_72 : aW d 198 72 [l0, l1, l2, l3, l4, .int a] S h Q = aW d 198 74 [l0, l1, l2, l3, l4, .int a] (.int a :: S) h Q := ax_iload mt198 dX12_bestPhase_72 rfl
theorem s198_74 : aW d 198 74 L S h Q = aW d 198 78 L S h Q := ax_goto mt198 dX12_bestPhase_74 (by decide)
theorem s198_78 : aW d 198 78 [l0, l1, l2, l3, l4, l5] (.int a :: S) h Q = aW d 198 79 [l0, l1, l2, .int a, l4, l5] S h Q := ax_istore_n mt198 dX12_bestPhase_78 (Nat.le_of_ble_eq_true rfl) rfl
theorem s198_79 : aW d 198 79 [l0, l1, l2, l3, .int a, l5] S h Q = aW d 198 82 [l0, l1, l2, l3, .int (a + nI 1), l5] S h Q := ax_iinc mt198 dX12_bestPhase_79 rfl ic_1 rfl
theorem s198_82 : aW d 198 82 L S h Q = aW d 198 39 L S h Q := ax_goto mt198 dX12_bestPhase_82 (by decide)
theorem s198_77 : aW d 198 77 [l0, l1, l2, .int a, l4, l5] S h Q = aW d 198 78 [l0, l1, l2, .int a, l4, l5] (.int a :: S) h Q := ax_iload_n mt198 dX12_bestPhase_77 rfl
theorem s198_64 : aW d 198 64 [l0, l1, .int a, l3, l4, l5] S h Q = aW d 198 65 [l0, l1, .int a, l3, l4, l5] (.int a :: S) h Q := ax_iload_n mt198 dX12_bestPhase_64 rfl
theorem s198_85 : aW d 198 85 [l0, l1, .int a, l3, l4, l5] S h Q = aW d 198 86 [l0, l1, .int a, l3, l4, l5] (.int a :: S) h Q := ax_iload_n mt198 dX12_bestPhase_85 rfl
theorem s198_86 : aW d 198 86 L [.int a] h Q = Q (some (.int a)) h := ax_reti mt198 dX12_bestPhase_86 rfl
-- method 199: BufferRoomModel.rule(I)I
theorem dX12_rule_0 : decode cX12_rule 0 = .ok (.iload_n 1, 1) := by decide +kernel
theorem dX12_rule_1 : decode cX12_rule 1 = .ok (.iconst 0, 1) := by decide +kernel
theorem dX12_rule_2 : decode cX12_rule 2 = .ok (.iconst 2, 1) := by decide +kernel
theorem dX12_rule_3 : decode cX12_rule 3 = .ok (.invokestatic 125, 3) := by decide +kernel
theorem dX12_rule_6 : decode cX12_rule 6 = .ok (.ifCond .ne 6, 3) := by decide +kernel
theorem dX12_rule_9 : decode cX12_rule 9 = .ok (.bipush (-2), 2) := by decide +kernel
theorem dX12_rule_11 : decode cX12_rule 11 = .ok (.ireturn, 1) := by decide +kernel
theorem dX12_rule_12 : decode cX12_rule 12 = .ok (.aload_n 0, 1) := by decide +kernel
theorem dX12_rule_13 : decode cX12_rule 13 = .ok (.getfield 296, 3) := by decide +kernel
theorem dX12_rule_16 : decode cX12_rule 16 = .ok (.istore_n 2, 1) := by decide +kernel
theorem dX12_rule_17 : decode cX12_rule 17 = .ok (.aload_n 0, 1) := by decide +kernel
theorem dX12_rule_18 : decode cX12_rule 18 = .ok (.iload_n 1, 1) := by decide +kernel
theorem dX12_rule_19 : decode cX12_rule 19 = .ok (.putfield 296, 3) := by decide +kernel
theorem dX12_rule_22 : decode cX12_rule 22 = .ok (.iload_n 2, 1) := by decide +kernel
theorem dX12_rule_23 : decode cX12_rule 23 = .ok (.ireturn, 1) := by decide +kernel
theorem s199_0 : aW d 199 0 [l0, .int a, l2] S h Q = aW d 199 1 [l0, .int a, l2] (.int a :: S) h Q := ax_iload_n mt199 dX12_rule_0 rfl
theorem s199_1 : aW d 199 1 L S h Q = aW d 199 2 L (.int (nI 0) :: S) h Q := ax_iconst mt199 dX12_rule_1 ic_0
theorem s199_2 : aW d 199 2 L S h Q = aW d 199 3 L (.int (nI 2) :: S) h Q := ax_iconst mt199 dX12_rule_2 ic_2
theorem s199_3 : aW (d + 1) 199 3 L (.int x2 :: .int x1 :: .int x0 :: []) h Q = aM d 139 [.int x0, .int x1, .int x2] h (fun v h1 => aW (d + 1) 199 6 L (ab_ps v []) h1 Q) := ax_invs mt199 dX12_rule_3 (by decide) ct_49277 (.inl rfl) mt139 ⟨⟨Nat.le_of_ble_eq_true rfl, Nat.le_of_ble_eq_true rfl, Nat.le_of_ble_eq_true rfl⟩, rfl, rfl⟩
theorem s199_6 : aW d 199 6 L (.int a :: S) h Q = (if a = 0 then aW d 199 9 L S h Q else aW d 199 12 L S h Q) := ax_if_ne mt199 dX12_rule_6 (by decide)
theorem s199_9 : aW d 199 9 L S h Q = aW d 199 11 L (.int ((-2)) :: S) h Q := ax_bipush mt199 dX12_rule_9 bp_m2
theorem s199_11 : aW d 199 11 L [.int a] h Q = Q (some (.int a)) h := ax_reti mt199 dX12_rule_11 rfl
theorem s199_12 : aW d 199 12 [.ref o, l1, l2] S h Q = aW d 199 13 [.ref o, l1, l2] (.ref o :: S) h Q := ax_aload_n mt199 dX12_rule_12 rfl
theorem s199_13 (hT : gT h o = some (14, 54)) : aW d 199 13 L (.ref o :: S) h Q = aW d 199 16 L (.int (gI h o 34) :: S) h Q := ax_geti mt199 dX12_rule_13 (by decide) ft_49448 fk_49448 hT
theorem s199_16 : aW d 199 16 [l0, l1, l2] (.int a :: S) h Q = aW d 199 17 [l0, l1, .int a] S h Q := ax_istore_n mt199 dX12_rule_16 (Nat.le_of_ble_eq_true rfl) rfl
theorem s199_17 : aW d 199 17 [.ref o, l1, l2] S h Q = aW d 199 18 [.ref o, l1, l2] (.ref o :: S) h Q := ax_aload_n mt199 dX12_rule_17 rfl
theorem s199_18 : aW d 199 18 [l0, .int a, l2] S h Q = aW d 199 19 [l0, .int a, l2] (.int a :: S) h Q := ax_iload_n mt199 dX12_rule_18 rfl
theorem s199_19 (hT : gT h o = some (14, 54)) : aW d 199 19 L (.int a :: .ref o :: S) h Q = aW d 199 22 L S (pI h o 34 a) Q := ax_puti mt199 dX12_rule_19 (by decide) ft_49448 (fun q => fn_49448 q.1) fp_49448 hT
theorem s199_22 : aW d 199 22 [l0, l1, .int a] S h Q = aW d 199 23 [l0, l1, .int a] (.int a :: S) h Q := ax_iload_n mt199 dX12_rule_22 rfl
theorem s199_23 : aW d 199 23 L [.int a] h Q = Q (some (.int a)) h := ax_reti mt199 dX12_rule_23 rfl
-- method 200: BufferRoomModel.top()I
theorem dX12_top_0 : decode cX12_top 0 = .ok (.iconst 0, 1) := by decide +kernel
theorem dX12_top_1 : decode cX12_top 1 = .ok (.istore_n 1, 1) := by decide +kernel
theorem dX12_top_2 : decode cX12_top 2 = .ok (.iconst 0, 1) := by decide +kernel
theorem dX12_top_3 : decode cX12_top 3 = .ok (.istore_n 2, 1) := by decide +kernel
theorem dX12_top_4 : decode cX12_top 4 = .ok (.iload_n 2, 1) := by decide +kernel
theorem dX12_top_5 : decode cX12_top 5 = .ok (.bipush 12, 2) := by decide +kernel
theorem dX12_top_7 : decode cX12_top 7 = .ok (.if_icmp .ge 52, 3) := by decide +kernel
theorem dX12_top_10 : decode cX12_top 10 = .ok (.aload_n 0, 1) := by decide +kernel
theorem dX12_top_11 : decode cX12_top 11 = .ok (.getfield 86, 3) := by decide +kernel
theorem dX12_top_14 : decode cX12_top 14 = .ok (.iload_n 2, 1) := by decide +kernel
theorem dX12_top_15 : decode cX12_top 15 = .ok (.iaload, 1) := by decide +kernel
theorem dX12_top_16 : decode cX12_top 16 = .ok (.iconst (-1), 1) := by decide +kernel
theorem dX12_top_17 : decode cX12_top 17 = .ok (.if_icmp .eq 34, 3) := by decide +kernel
theorem dX12_top_20 : decode cX12_top 20 = .ok (.aload_n 0, 1) := by decide +kernel
theorem dX12_top_21 : decode cX12_top 21 = .ok (.getfield 86, 3) := by decide +kernel
theorem dX12_top_24 : decode cX12_top 24 = .ok (.iload_n 2, 1) := by decide +kernel
theorem dX12_top_25 : decode cX12_top 25 = .ok (.iaload, 1) := by decide +kernel
theorem dX12_top_26 : decode cX12_top 26 = .ok (.aload_n 0, 1) := by decide +kernel
theorem dX12_top_27 : decode cX12_top 27 = .ok (.iload_n 2, 1) := by decide +kernel
theorem dX12_top_28 : decode cX12_top 28 = .ok (.invokevirtual 204, 3) := by decide +kernel
theorem dX12_top_31 : decode cX12_top 31 = .ok (.iadd, 1) := by decide +kernel
theorem dX12_top_32 : decode cX12_top 32 = .ok (.iload_n 1, 1) := by decide +kernel
theorem dX12_top_33 : decode cX12_top 33 = .ok (.if_icmp .le 18, 3) := by decide +kernel
theorem dX12_top_36 : decode cX12_top 36 = .ok (.aload_n 0, 1) := by decide +kernel
theorem dX12_top_37 : decode cX12_top 37 = .ok (.getfield 86, 3) := by decide +kernel
theorem dX12_top_40 : decode cX12_top 40 = .ok (.iload_n 2, 1) := by decide +kernel
theorem dX12_top_41 : decode cX12_top 41 = .ok (.iaload, 1) := by decide +kernel
theorem dX12_top_42 : decode cX12_top 42 = .ok (.aload_n 0, 1) := by decide +kernel
theorem dX12_top_43 : decode cX12_top 43 = .ok (.iload_n 2, 1) := by decide +kernel
theorem dX12_top_44 : decode cX12_top 44 = .ok (.invokevirtual 204, 3) := by decide +kernel
theorem dX12_top_47 : decode cX12_top 47 = .ok (.iadd, 1) := by decide +kernel
theorem dX12_top_48 : decode cX12_top 48 = .ok (.goto 4, 3) := by decide +kernel
theorem dX12_top_51 : decode cX12_top 51 = .ok (.iload_n 1, 1) := by decide +kernel
theorem dX12_top_52 : decode cX12_top 52 = .ok (.istore_n 1, 1) := by decide +kernel
theorem dX12_top_53 : decode cX12_top 53 = .ok (.iinc 2 1, 3) := by decide +kernel
theorem dX12_top_56 : decode cX12_top 56 = .ok (.goto (-52), 3) := by decide +kernel
theorem dX12_top_59 : decode cX12_top 59 = .ok (.iload_n 1, 1) := by decide +kernel
theorem dX12_top_60 : decode cX12_top 60 = .ok (.ireturn, 1) := by decide +kernel
theorem s200_0 : aW d 200 0 L S h Q = aW d 200 1 L (.int (nI 0) :: S) h Q := ax_iconst mt200 dX12_top_0 ic_0
theorem s200_1 : aW d 200 1 [l0, l1, l2] (.int a :: S) h Q = aW d 200 2 [l0, .int a, l2] S h Q := ax_istore_n mt200 dX12_top_1 (Nat.le_of_ble_eq_true rfl) rfl
theorem s200_2 : aW d 200 2 L S h Q = aW d 200 3 L (.int (nI 0) :: S) h Q := ax_iconst mt200 dX12_top_2 ic_0
theorem s200_3 : aW d 200 3 [l0, l1, l2] (.int a :: S) h Q = aW d 200 4 [l0, l1, .int a] S h Q := ax_istore_n mt200 dX12_top_3 (Nat.le_of_ble_eq_true rfl) rfl
theorem s200_4 : aW d 200 4 [l0, l1, .int a] S h Q = aW d 200 5 [l0, l1, .int a] (.int a :: S) h Q := ax_iload_n mt200 dX12_top_4 rfl
theorem s200_5 : aW d 200 5 L S h Q = aW d 200 7 L (.int (nI 12) :: S) h Q := ax_bipush mt200 dX12_top_5 bp_12
theorem s200_7 : aW d 200 7 L (.int b :: .int a :: S) h Q = (if a < b then aW d 200 10 L S h Q else aW d 200 59 L S h Q) := ax_icmp_ge mt200 dX12_top_7 (by decide)
theorem s200_10 : aW d 200 10 [.ref o, l1, l2] S h Q = aW d 200 11 [.ref o, l1, l2] (.ref o :: S) h Q := ax_aload_n mt200 dX12_top_10 rfl
theorem s200_11 (hT : gT h o = some (14, 54)) : aW d 200 11 L (.ref o :: S) h Q = (isRf (gR h o 35) = true ∧ aW d 200 14 L (gR h o 35 :: S) h Q) := ax_geta mt200 dX12_top_11 (by decide) ft_49238 fk_49238 hT
theorem s200_14 : aW d 200 14 [l0, l1, .int a] S h Q = aW d 200 15 [l0, l1, .int a] (.int a :: S) h Q := ax_iload_n mt200 dX12_top_14 rfl
theorem s200_15 : aW d 200 15 L (.int a :: .ref o :: S) h Q = (inb a (aI h o) ∧ aW d 200 16 L (.int (gI h o a.toNatClampNeg) :: S) h Q) := ax_iald mt200 dX12_top_15
theorem s200_16 : aW d 200 16 L S h Q = aW d 200 17 L (.int ((-1)) :: S) h Q := ax_iconst mt200 dX12_top_16 ic_m1
theorem s200_17 : aW d 200 17 L (.int b :: .int a :: S) h Q = (if a = b then aW d 200 51 L S h Q else aW d 200 20 L S h Q) := ax_icmp_eq mt200 dX12_top_17 (by decide)
theorem s200_20 : aW d 200 20 [.ref o, l1, l2] S h Q = aW d 200 21 [.ref o, l1, l2] (.ref o :: S) h Q := ax_aload_n mt200 dX12_top_20 rfl
theorem s200_21 (hT : gT h o = some (14, 54)) : aW d 200 21 L (.ref o :: S) h Q = (isRf (gR h o 35) = true ∧ aW d 200 24 L (gR h o 35 :: S) h Q) := ax_geta mt200 dX12_top_21 (by decide) ft_49238 fk_49238 hT
theorem s200_24 : aW d 200 24 [l0, l1, .int a] S h Q = aW d 200 25 [l0, l1, .int a] (.int a :: S) h Q := ax_iload_n mt200 dX12_top_24 rfl
theorem s200_25 : aW d 200 25 L (.int a :: .ref o :: S) h Q = (inb a (aI h o) ∧ aW d 200 26 L (.int (gI h o a.toNatClampNeg) :: S) h Q) := ax_iald mt200 dX12_top_25
theorem s200_26 : aW d 200 26 [.ref o, l1, l2] S h Q = aW d 200 27 [.ref o, l1, l2] (.ref o :: S) h Q := ax_aload_n mt200 dX12_top_26 rfl
theorem s200_27 : aW d 200 27 [l0, l1, .int a] S h Q = aW d 200 28 [l0, l1, .int a] (.int a :: S) h Q := ax_iload_n mt200 dX12_top_27 rfl
theorem s200_28 (hT : gT h o = some (14, 54)) : aW (d + 1) 200 28 L (.int x0 :: .ref o :: [.int y0]) h Q = aM d 154 (.ref o :: [.int x0]) h (fun v h1 => aW (d + 1) 200 31 L (ab_ps v [.int y0]) h1 Q) := ax_invv mt200 dX12_top_28 (by decide) ct_49356 (.inl rfl) mt154 ⟨⟨Nat.le_of_ble_eq_true rfl, Nat.le_of_ble_eq_true rfl, Nat.le_of_ble_eq_true rfl⟩, rfl, rfl, rfl⟩ hT
theorem s200_31 : aW d 200 31 L (.int b :: .int a :: S) h Q = aW d 200 32 L (.int (a + b) :: S) h Q := ax_iadd mt200 dX12_top_31
theorem s200_32 : aW d 200 32 [l0, .int a, l2] S h Q = aW d 200 33 [l0, .int a, l2] (.int a :: S) h Q := ax_iload_n mt200 dX12_top_32 rfl
theorem s200_33 : aW d 200 33 L (.int b :: .int a :: S) h Q = (if b < a then aW d 200 36 L S h Q else aW d 200 51 L S h Q) := ax_icmp_le mt200 dX12_top_33 (by decide)
theorem s200_36 : aW d 200 36 [.ref o, l1, l2] S h Q = aW d 200 37 [.ref o, l1, l2] (.ref o :: S) h Q := ax_aload_n mt200 dX12_top_36 rfl
theorem s200_37 (hT : gT h o = some (14, 54)) : aW d 200 37 L (.ref o :: S) h Q = (isRf (gR h o 35) = true ∧ aW d 200 40 L (gR h o 35 :: S) h Q) := ax_geta mt200 dX12_top_37 (by decide) ft_49238 fk_49238 hT
theorem s200_40 : aW d 200 40 [l0, l1, .int a] S h Q = aW d 200 41 [l0, l1, .int a] (.int a :: S) h Q := ax_iload_n mt200 dX12_top_40 rfl
theorem s200_41 : aW d 200 41 L (.int a :: .ref o :: S) h Q = (inb a (aI h o) ∧ aW d 200 42 L (.int (gI h o a.toNatClampNeg) :: S) h Q) := ax_iald mt200 dX12_top_41
theorem s200_42 : aW d 200 42 [.ref o, l1, l2] S h Q = aW d 200 43 [.ref o, l1, l2] (.ref o :: S) h Q := ax_aload_n mt200 dX12_top_42 rfl
theorem s200_43 : aW d 200 43 [l0, l1, .int a] S h Q = aW d 200 44 [l0, l1, .int a] (.int a :: S) h Q := ax_iload_n mt200 dX12_top_43 rfl
theorem s200_44 (hT : gT h o = some (14, 54)) : aW (d + 1) 200 44 L (.int x0 :: .ref o :: [.int y0]) h Q = aM d 154 (.ref o :: [.int x0]) h (fun v h1 => aW (d + 1) 200 47 L (ab_ps v [.int y0]) h1 Q) := ax_invv mt200 dX12_top_44 (by decide) ct_49356 (.inl rfl) mt154 ⟨⟨Nat.le_of_ble_eq_true rfl, Nat.le_of_ble_eq_true rfl, Nat.le_of_ble_eq_true rfl⟩, rfl, rfl, rfl⟩ hT
theorem s200_47 : aW d 200 47 L (.int b :: .int a :: S) h Q = aW d 200 48 L (.int (a + b) :: S) h Q := ax_iadd mt200 dX12_top_47
theorem s200_48 : aW d 200 48 L S h Q = aW d 200 52 L S h Q := ax_goto mt200 dX12_top_48 (by decide)
theorem s200_52 : aW d 200 52 [l0, l1, l2] (.int a :: S) h Q = aW d 200 53 [l0, .int a, l2] S h Q := ax_istore_n mt200 dX12_top_52 (Nat.le_of_ble_eq_true rfl) rfl
theorem s200_53 : aW d 200 53 [l0, l1, .int a] S h Q = aW d 200 56 [l0, l1, .int (a + nI 1)] S h Q := ax_iinc mt200 dX12_top_53 rfl ic_1 rfl
theorem s200_56 : aW d 200 56 L S h Q = aW d 200 4 L S h Q := ax_goto mt200 dX12_top_56 (by decide)
theorem s200_51 : aW d 200 51 [l0, .int a, l2] S h Q = aW d 200 52 [l0, .int a, l2] (.int a :: S) h Q := ax_iload_n mt200 dX12_top_51 rfl
theorem s200_59 : aW d 200 59 [l0, .int a, l2] S h Q = aW d 200 60 [l0, .int a, l2] (.int a :: S) h Q := ax_iload_n mt200 dX12_top_59 rfl
theorem s200_60 : aW d 200 60 L [.int a] h Q = Q (some (.int a)) h := ax_reti mt200 dX12_top_60 rfl
-- method 201: BufferRoomModel.nextAbove(I)I
theorem dX12_nextAbove_0 : decode cX12_nextAbove 0 = .ok (.iconst (-1), 1) := by decide +kernel
theorem dX12_nextAbove_1 : decode cX12_nextAbove 1 = .ok (.istore_n 2, 1) := by decide +kernel
theorem dX12_nextAbove_2 : decode cX12_nextAbove 2 = .ok (.iconst 0, 1) := by decide +kernel
theorem dX12_nextAbove_3 : decode cX12_nextAbove 3 = .ok (.istore_n 3, 1) := by decide +kernel
theorem dX12_nextAbove_4 : decode cX12_nextAbove 4 = .ok (.iload_n 3, 1) := by decide +kernel
theorem dX12_nextAbove_5 : decode cX12_nextAbove 5 = .ok (.bipush 12, 2) := by decide +kernel
theorem dX12_nextAbove_7 : decode cX12_nextAbove 7 = .ok (.if_icmp .ge 53, 3) := by decide +kernel
theorem dX12_nextAbove_10 : decode cX12_nextAbove 10 = .ok (.aload_n 0, 1) := by decide +kernel
theorem dX12_nextAbove_11 : decode cX12_nextAbove 11 = .ok (.getfield 86, 3) := by decide +kernel
theorem dX12_nextAbove_14 : decode cX12_nextAbove 14 = .ok (.iload_n 3, 1) := by decide +kernel
theorem dX12_nextAbove_15 : decode cX12_nextAbove 15 = .ok (.iaload, 1) := by decide +kernel
theorem dX12_nextAbove_16 : decode cX12_nextAbove 16 = .ok (.iload_n 1, 1) := by decide +kernel
theorem dX12_nextAbove_17 : decode cX12_nextAbove 17 = .ok (.if_icmp .lt 35, 3) := by decide +kernel
theorem dX12_nextAbove_20 : decode cX12_nextAbove 20 = .ok (.aload_n 0, 1) := by decide +kernel
theorem dX12_nextAbove_21 : decode cX12_nextAbove 21 = .ok (.iload_n 3, 1) := by decide +kernel
theorem dX12_nextAbove_22 : decode cX12_nextAbove 22 = .ok (.invokevirtual 204, 3) := by decide +kernel
theorem dX12_nextAbove_25 : decode cX12_nextAbove 25 = .ok (.ifCond .le 27, 3) := by decide +kernel
theorem dX12_nextAbove_28 : decode cX12_nextAbove 28 = .ok (.iload_n 2, 1) := by decide +kernel
theorem dX12_nextAbove_29 : decode cX12_nextAbove 29 = .ok (.iconst (-1), 1) := by decide +kernel
theorem dX12_nextAbove_30 : decode cX12_nextAbove 30 = .ok (.if_icmp .eq 13, 3) := by decide +kernel
theorem dX12_nextAbove_33 : decode cX12_nextAbove 33 = .ok (.aload_n 0, 1) := by decide +kernel
theorem dX12_nextAbove_34 : decode cX12_nextAbove 34 = .ok (.getfield 86, 3) := by decide +kernel
theorem dX12_nextAbove_37 : decode cX12_nextAbove 37 = .ok (.iload_n 3, 1) := by decide +kernel
theorem dX12_nextAbove_38 : decode cX12_nextAbove 38 = .ok (.iaload, 1) := by decide +kernel
theorem dX12_nextAbove_39 : decode cX12_nextAbove 39 = .ok (.iload_n 2, 1) := by decide +kernel
theorem dX12_nextAbove_40 : decode cX12_nextAbove 40 = .ok (.if_icmp .ge 12, 3) := by decide +kernel
theorem dX12_nextAbove_43 : decode cX12_nextAbove 43 = .ok (.aload_n 0, 1) := by decide +kernel
theorem dX12_nextAbove_44 : decode cX12_nextAbove 44 = .ok (.getfield 86, 3) := by decide +kernel
theorem dX12_nextAbove_47 : decode cX12_nextAbove 47 = .ok (.iload_n 3, 1) := by decide +kernel
theorem dX12_nextAbove_48 : decode cX12_nextAbove 48 = .ok (.iaload, 1) := by decide +kernel
theorem dX12_nextAbove_49 : decode cX12_nextAbove 49 = .ok (.goto 4, 3) := by decide +kernel
theorem dX12_nextAbove_52 : decode cX12_nextAbove 52 = .ok (.iload_n 2, 1) := by decide +kernel
theorem dX12_nextAbove_53 : decode cX12_nextAbove 53 = .ok (.istore_n 2, 1) := by decide +kernel
theorem dX12_nextAbove_54 : decode cX12_nextAbove 54 = .ok (.iinc 3 1, 3) := by decide +kernel
theorem dX12_nextAbove_57 : decode cX12_nextAbove 57 = .ok (.goto (-53), 3) := by decide +kernel
theorem dX12_nextAbove_60 : decode cX12_nextAbove 60 = .ok (.iload_n 2, 1) := by decide +kernel
theorem dX12_nextAbove_61 : decode cX12_nextAbove 61 = .ok (.ireturn, 1) := by decide +kernel
theorem s201_0 : aW d 201 0 L S h Q = aW d 201 1 L (.int ((-1)) :: S) h Q := ax_iconst mt201 dX12_nextAbove_0 ic_m1
theorem s201_1 : aW d 201 1 [l0, l1, l2, l3] (.int a :: S) h Q = aW d 201 2 [l0, l1, .int a, l3] S h Q := ax_istore_n mt201 dX12_nextAbove_1 (Nat.le_of_ble_eq_true rfl) rfl
theorem s201_2 : aW d 201 2 L S h Q = aW d 201 3 L (.int (nI 0) :: S) h Q := ax_iconst mt201 dX12_nextAbove_2 ic_0
theorem s201_3 : aW d 201 3 [l0, l1, l2, l3] (.int a :: S) h Q = aW d 201 4 [l0, l1, l2, .int a] S h Q := ax_istore_n mt201 dX12_nextAbove_3 (Nat.le_of_ble_eq_true rfl) rfl
theorem s201_4 : aW d 201 4 [l0, l1, l2, .int a] S h Q = aW d 201 5 [l0, l1, l2, .int a] (.int a :: S) h Q := ax_iload_n mt201 dX12_nextAbove_4 rfl
theorem s201_5 : aW d 201 5 L S h Q = aW d 201 7 L (.int (nI 12) :: S) h Q := ax_bipush mt201 dX12_nextAbove_5 bp_12
theorem s201_7 : aW d 201 7 L (.int b :: .int a :: S) h Q = (if a < b then aW d 201 10 L S h Q else aW d 201 60 L S h Q) := ax_icmp_ge mt201 dX12_nextAbove_7 (by decide)
theorem s201_10 : aW d 201 10 [.ref o, l1, l2, l3] S h Q = aW d 201 11 [.ref o, l1, l2, l3] (.ref o :: S) h Q := ax_aload_n mt201 dX12_nextAbove_10 rfl
theorem s201_11 (hT : gT h o = some (14, 54)) : aW d 201 11 L (.ref o :: S) h Q = (isRf (gR h o 35) = true ∧ aW d 201 14 L (gR h o 35 :: S) h Q) := ax_geta mt201 dX12_nextAbove_11 (by decide) ft_49238 fk_49238 hT
theorem s201_14 : aW d 201 14 [l0, l1, l2, .int a] S h Q = aW d 201 15 [l0, l1, l2, .int a] (.int a :: S) h Q := ax_iload_n mt201 dX12_nextAbove_14 rfl
theorem s201_15 : aW d 201 15 L (.int a :: .ref o :: S) h Q = (inb a (aI h o) ∧ aW d 201 16 L (.int (gI h o a.toNatClampNeg) :: S) h Q) := ax_iald mt201 dX12_nextAbove_15
theorem s201_16 : aW d 201 16 [l0, .int a, l2, l3] S h Q = aW d 201 17 [l0, .int a, l2, l3] (.int a :: S) h Q := ax_iload_n mt201 dX12_nextAbove_16 rfl
theorem s201_17 : aW d 201 17 L (.int b :: .int a :: S) h Q = (if a < b then aW d 201 52 L S h Q else aW d 201 20 L S h Q) := ax_icmp_lt mt201 dX12_nextAbove_17 (by decide)
theorem s201_20 : aW d 201 20 [.ref o, l1, l2, l3] S h Q = aW d 201 21 [.ref o, l1, l2, l3] (.ref o :: S) h Q := ax_aload_n mt201 dX12_nextAbove_20 rfl
theorem s201_21 : aW d 201 21 [l0, l1, l2, .int a] S h Q = aW d 201 22 [l0, l1, l2, .int a] (.int a :: S) h Q := ax_iload_n mt201 dX12_nextAbove_21 rfl
theorem s201_22 (hT : gT h o = some (14, 54)) : aW (d + 1) 201 22 L (.int x0 :: .ref o :: []) h Q = aM d 154 (.ref o :: [.int x0]) h (fun v h1 => aW (d + 1) 201 25 L (ab_ps v []) h1 Q) := ax_invv mt201 dX12_nextAbove_22 (by decide) ct_49356 (.inl rfl) mt154 ⟨⟨Nat.le_of_ble_eq_true rfl, Nat.le_of_ble_eq_true rfl, Nat.le_of_ble_eq_true rfl⟩, rfl, rfl, rfl⟩ hT
theorem s201_25 : aW d 201 25 L (.int a :: S) h Q = (if 0 < a then aW d 201 28 L S h Q else aW d 201 52 L S h Q) := ax_if_le mt201 dX12_nextAbove_25 (by decide)
theorem s201_28 : aW d 201 28 [l0, l1, .int a, l3] S h Q = aW d 201 29 [l0, l1, .int a, l3] (.int a :: S) h Q := ax_iload_n mt201 dX12_nextAbove_28 rfl
theorem s201_29 : aW d 201 29 L S h Q = aW d 201 30 L (.int ((-1)) :: S) h Q := ax_iconst mt201 dX12_nextAbove_29 ic_m1
theorem s201_30 : aW d 201 30 L (.int b :: .int a :: S) h Q = (if a = b then aW d 201 43 L S h Q else aW d 201 33 L S h Q) := ax_icmp_eq mt201 dX12_nextAbove_30 (by decide)
theorem s201_33 : aW d 201 33 [.ref o, l1, l2, l3] S h Q = aW d 201 34 [.ref o, l1, l2, l3] (.ref o :: S) h Q := ax_aload_n mt201 dX12_nextAbove_33 rfl
theorem s201_34 (hT : gT h o = some (14, 54)) : aW d 201 34 L (.ref o :: S) h Q = (isRf (gR h o 35) = true ∧ aW d 201 37 L (gR h o 35 :: S) h Q) := ax_geta mt201 dX12_nextAbove_34 (by decide) ft_49238 fk_49238 hT
theorem s201_37 : aW d 201 37 [l0, l1, l2, .int a] S h Q = aW d 201 38 [l0, l1, l2, .int a] (.int a :: S) h Q := ax_iload_n mt201 dX12_nextAbove_37 rfl
theorem s201_38 : aW d 201 38 L (.int a :: .ref o :: S) h Q = (inb a (aI h o) ∧ aW d 201 39 L (.int (gI h o a.toNatClampNeg) :: S) h Q) := ax_iald mt201 dX12_nextAbove_38
theorem s201_39 : aW d 201 39 [l0, l1, .int a, l3] S h Q = aW d 201 40 [l0, l1, .int a, l3] (.int a :: S) h Q := ax_iload_n mt201 dX12_nextAbove_39 rfl
theorem s201_40 : aW d 201 40 L (.int b :: .int a :: S) h Q = (if a < b then aW d 201 43 L S h Q else aW d 201 52 L S h Q) := ax_icmp_ge mt201 dX12_nextAbove_40 (by decide)
theorem s201_43 : aW d 201 43 [.ref o, l1, l2, l3] S h Q = aW d 201 44 [.ref o, l1, l2, l3] (.ref o :: S) h Q := ax_aload_n mt201 dX12_nextAbove_43 rfl
theorem s201_44 (hT : gT h o = some (14, 54)) : aW d 201 44 L (.ref o :: S) h Q = (isRf (gR h o 35) = true ∧ aW d 201 47 L (gR h o 35 :: S) h Q) := ax_geta mt201 dX12_nextAbove_44 (by decide) ft_49238 fk_49238 hT
theorem s201_47 : aW d 201 47 [l0, l1, l2, .int a] S h Q = aW d 201 48 [l0, l1, l2, .int a] (.int a :: S) h Q := ax_iload_n mt201 dX12_nextAbove_47 rfl
theorem s201_48 : aW d 201 48 L (.int a :: .ref o :: S) h Q = (inb a (aI h o) ∧ aW d 201 49 L (.int (gI h o a.toNatClampNeg) :: S) h Q) := ax_iald mt201 dX12_nextAbove_48
theorem s201_49 : aW d 201 49 L S h Q = aW d 201 53 L S h Q := ax_goto mt201 dX12_nextAbove_49 (by decide)
theorem s201_53 : aW d 201 53 [l0, l1, l2, l3] (.int a :: S) h Q = aW d 201 54 [l0, l1, .int a, l3] S h Q := ax_istore_n mt201 dX12_nextAbove_53 (Nat.le_of_ble_eq_true rfl) rfl
theorem s201_54 : aW d 201 54 [l0, l1, l2, .int a] S h Q = aW d 201 57 [l0, l1, l2, .int (a + nI 1)] S h Q := ax_iinc mt201 dX12_nextAbove_54 rfl ic_1 rfl
theorem s201_57 : aW d 201 57 L S h Q = aW d 201 4 L S h Q := ax_goto mt201 dX12_nextAbove_57 (by decide)
theorem s201_52 : aW d 201 52 [l0, l1, .int a, l3] S h Q = aW d 201 53 [l0, l1, .int a, l3] (.int a :: S) h Q := ax_iload_n mt201 dX12_nextAbove_52 rfl
theorem s201_60 : aW d 201 60 [l0, l1, .int a, l3] S h Q = aW d 201 61 [l0, l1, .int a, l3] (.int a :: S) h Q := ax_iload_n mt201 dX12_nextAbove_60 rfl
theorem s201_61 : aW d 201 61 L [.int a] h Q = Q (some (.int a)) h := ax_reti mt201 dX12_nextAbove_61 rfl
-- method 202: BufferRoomModel.puts(I)V
theorem dX12_puts_0 : decode cX12_puts 0 = .ok (.aload_n 0, 1) := by decide +kernel
theorem dX12_puts_1 : decode cX12_puts 1 = .ok (.iload_n 1, 1) := by decide +kernel
theorem dX12_puts_2 : decode cX12_puts 2 = .ok (.invokevirtual 204, 3) := by decide +kernel
theorem dX12_puts_5 : decode cX12_puts 5 = .ok (.istore_n 2, 1) := by decide +kernel
theorem dX12_puts_6 : decode cX12_puts 6 = .ok (.iconst (-1), 1) := by decide +kernel
theorem dX12_puts_7 : decode cX12_puts 7 = .ok (.istore_n 3, 1) := by decide +kernel
theorem dX12_puts_8 : decode cX12_puts 8 = .ok (.iconst 0, 1) := by decide +kernel
theorem dX12_puts_9 : decode cX12_puts 9 = .ok (.istore 4, 2) := by decide +kernel
theorem dX12_puts_11 : decode cX12_puts 11 = .ok (.iconst 0, 1) := by decide +kernel
theorem dX12_puts_12 : decode cX12_puts 12 = .ok (.istore 5, 2) := by decide +kernel
theorem dX12_puts_14 : decode cX12_puts 14 = .ok (.aload_n 0, 1) := by decide +kernel
theorem dX12_puts_15 : decode cX12_puts 15 = .ok (.iconst 0, 1) := by decide +kernel
theorem dX12_puts_16 : decode cX12_puts 16 = .ok (.invokevirtual 299, 3) := by decide +kernel
theorem dX12_puts_19 : decode cX12_puts 19 = .ok (.istore 6, 2) := by decide +kernel
theorem dX12_puts_21 : decode cX12_puts 21 = .ok (.iload 6, 2) := by decide +kernel
theorem dX12_puts_23 : decode cX12_puts 23 = .ok (.iconst (-1), 1) := by decide +kernel
theorem dX12_puts_24 : decode cX12_puts 24 = .ok (.if_icmp .eq 94, 3) := by decide +kernel
theorem dX12_puts_27 : decode cX12_puts 27 = .ok (.iload 6, 2) := by decide +kernel
theorem dX12_puts_29 : decode cX12_puts 29 = .ok (.iload 5, 2) := by decide +kernel
theorem dX12_puts_31 : decode cX12_puts 31 = .ok (.isub, 1) := by decide +kernel
theorem dX12_puts_32 : decode cX12_puts 32 = .ok (.istore 7, 2) := by decide +kernel
theorem dX12_puts_34 : decode cX12_puts 34 = .ok (.iload 7, 2) := by decide +kernel
theorem dX12_puts_36 : decode cX12_puts 36 = .ok (.ifCond .le 13, 3) := by decide +kernel
theorem dX12_puts_39 : decode cX12_puts 39 = .ok (.iload 7, 2) := by decide +kernel
theorem dX12_puts_41 : decode cX12_puts 41 = .ok (.iload_n 2, 1) := by decide +kernel
theorem dX12_puts_42 : decode cX12_puts 42 = .ok (.if_icmp .lt 7, 3) := by decide +kernel
theorem dX12_puts_45 : decode cX12_puts 45 = .ok (.iconst 1, 1) := by decide +kernel
theorem dX12_puts_46 : decode cX12_puts 46 = .ok (.goto 4, 3) := by decide +kernel
theorem dX12_puts_49 : decode cX12_puts 49 = .ok (.iconst 0, 1) := by decide +kernel
theorem dX12_puts_50 : decode cX12_puts 50 = .ok (.istore 8, 2) := by decide +kernel
theorem dX12_puts_52 : decode cX12_puts 52 = .ok (.iload 8, 2) := by decide +kernel
theorem dX12_puts_54 : decode cX12_puts 54 = .ok (.ifCond .eq 45, 3) := by decide +kernel
theorem dX12_puts_57 : decode cX12_puts 57 = .ok (.iload_n 3, 1) := by decide +kernel
theorem dX12_puts_58 : decode cX12_puts 58 = .ok (.iconst (-1), 1) := by decide +kernel
theorem dX12_puts_59 : decode cX12_puts 59 = .ok (.if_icmp .eq 33, 3) := by decide +kernel
theorem dX12_puts_62 : decode cX12_puts 62 = .ok (.aload_n 0, 1) := by decide +kernel
theorem dX12_puts_63 : decode cX12_puts 63 = .ok (.getfield 296, 3) := by decide +kernel
theorem dX12_puts_66 : decode cX12_puts 66 = .ok (.iconst 1, 1) := by decide +kernel
theorem dX12_puts_67 : decode cX12_puts 67 = .ok (.if_icmp .ne 10, 3) := by decide +kernel
theorem dX12_puts_70 : decode cX12_puts 70 = .ok (.iload 7, 2) := by decide +kernel
theorem dX12_puts_72 : decode cX12_puts 72 = .ok (.iload 4, 2) := by decide +kernel
theorem dX12_puts_74 : decode cX12_puts 74 = .ok (.if_icmp .lt 18, 3) := by decide +kernel
theorem dX12_puts_77 : decode cX12_puts 77 = .ok (.aload_n 0, 1) := by decide +kernel
theorem dX12_puts_78 : decode cX12_puts 78 = .ok (.getfield 296, 3) := by decide +kernel
theorem dX12_puts_81 : decode cX12_puts 81 = .ok (.iconst 2, 1) := by decide +kernel
theorem dX12_puts_82 : decode cX12_puts 82 = .ok (.if_icmp .ne 17, 3) := by decide +kernel
theorem dX12_puts_85 : decode cX12_puts 85 = .ok (.iload 7, 2) := by decide +kernel
theorem dX12_puts_87 : decode cX12_puts 87 = .ok (.iload 4, 2) := by decide +kernel
theorem dX12_puts_89 : decode cX12_puts 89 = .ok (.if_icmp .le 10, 3) := by decide +kernel
theorem dX12_puts_92 : decode cX12_puts 92 = .ok (.iload 5, 2) := by decide +kernel
theorem dX12_puts_94 : decode cX12_puts 94 = .ok (.istore_n 3, 1) := by decide +kernel
theorem dX12_puts_95 : decode cX12_puts 95 = .ok (.iload 7, 2) := by decide +kernel
theorem dX12_puts_97 : decode cX12_puts 97 = .ok (.istore 4, 2) := by decide +kernel
theorem dX12_puts_99 : decode cX12_puts 99 = .ok (.aload_n 0, 1) := by decide +kernel
theorem dX12_puts_100 : decode cX12_puts 100 = .ok (.iload 6, 2) := by decide +kernel
theorem dX12_puts_102 : decode cX12_puts 102 = .ok (.invokevirtual 302, 3) := by decide +kernel
theorem dX12_puts_105 : decode cX12_puts 105 = .ok (.istore 5, 2) := by decide +kernel
theorem dX12_puts_107 : decode cX12_puts 107 = .ok (.aload_n 0, 1) := by decide +kernel
theorem dX12_puts_108 : decode cX12_puts 108 = .ok (.iload 5, 2) := by decide +kernel
theorem dX12_puts_110 : decode cX12_puts 110 = .ok (.invokevirtual 299, 3) := by decide +kernel
theorem dX12_puts_113 : decode cX12_puts 113 = .ok (.istore 6, 2) := by decide +kernel
theorem dX12_puts_115 : decode cX12_puts 115 = .ok (.goto (-94), 3) := by decide +kernel
theorem dX12_puts_118 : decode cX12_puts 118 = .ok (.aload_n 0, 1) := by decide +kernel
theorem dX12_puts_119 : decode cX12_puts 119 = .ok (.getfield 86, 3) := by decide +kernel
theorem dX12_puts_122 : decode cX12_puts 122 = .ok (.iload_n 1, 1) := by decide +kernel
theorem dX12_puts_123 : decode cX12_puts 123 = .ok (.iload_n 3, 1) := by decide +kernel
theorem dX12_puts_124 : decode cX12_puts 124 = .ok (.iconst (-1), 1) := by decide +kernel
theorem dX12_puts_125 : decode cX12_puts 125 = .ok (.if_icmp .ne 8, 3) := by decide +kernel
theorem dX12_puts_128 : decode cX12_puts 128 = .ok (.iload 5, 2) := by decide +kernel
theorem dX12_puts_130 : decode cX12_puts 130 = .ok (.goto 4, 3) := by decide +kernel
theorem dX12_puts_133 : decode cX12_puts 133 = .ok (.iload_n 3, 1) := by decide +kernel
theorem dX12_puts_134 : decode cX12_puts 134 = .ok (.iastore, 1) := by decide +kernel
theorem dX12_puts_135 : decode cX12_puts 135 = .ok (.return_, 1) := by decide +kernel
theorem s202_0 : aW d 202 0 [.ref o, l1, l2, l3, l4, l5, l6, l7, l8] S h Q = aW d 202 1 [.ref o, l1, l2, l3, l4, l5, l6, l7, l8] (.ref o :: S) h Q := ax_aload_n mt202 dX12_puts_0 rfl
theorem s202_1 : aW d 202 1 [l0, .int a, l2, l3, l4, l5, l6, l7, l8] S h Q = aW d 202 2 [l0, .int a, l2, l3, l4, l5, l6, l7, l8] (.int a :: S) h Q := ax_iload_n mt202 dX12_puts_1 rfl
theorem s202_2 (hT : gT h o = some (14, 54)) : aW (d + 1) 202 2 L (.int x0 :: .ref o :: []) h Q = aM d 154 (.ref o :: [.int x0]) h (fun v h1 => aW (d + 1) 202 5 L (ab_ps v []) h1 Q) := ax_invv mt202 dX12_puts_2 (by decide) ct_49356 (.inl rfl) mt154 ⟨⟨Nat.le_of_ble_eq_true rfl, Nat.le_of_ble_eq_true rfl, Nat.le_of_ble_eq_true rfl⟩, rfl, rfl, rfl⟩ hT
theorem s202_5 : aW d 202 5 [l0, l1, l2, l3, l4, l5, l6, l7, l8] (.int a :: S) h Q = aW d 202 6 [l0, l1, .int a, l3, l4, l5, l6, l7, l8] S h Q := ax_istore_n mt202 dX12_puts_5 (Nat.le_of_ble_eq_true rfl) rfl
theorem s202_6 : aW d 202 6 L S h Q = aW d 202 7 L (.int ((-1)) :: S) h Q := ax_iconst mt202 dX12_puts_6 ic_m1
theorem s202_7 : aW d 202 7 [l0, l1, l2, l3, l4, l5, l6, l7, l8] (.int a :: S) h Q = aW d 202 8 [l0, l1, l2, .int a, l4, l5, l6, l7, l8] S h Q := ax_istore_n mt202 dX12_puts_7 (Nat.le_of_ble_eq_true rfl) rfl
theorem s202_8 : aW d 202 8 L S h Q = aW d 202 9 L (.int (nI 0) :: S) h Q := ax_iconst mt202 dX12_puts_8 ic_0
theorem s202_9 : aW d 202 9 [l0, l1, l2, l3, l4, l5, l6, l7, l8] (.int a :: S) h Q = aW d 202 11 [l0, l1, l2, l3, .int a, l5, l6, l7, l8] S h Q := ax_istore mt202 dX12_puts_9 (Nat.le_of_ble_eq_true rfl) rfl
theorem s202_11 : aW d 202 11 L S h Q = aW d 202 12 L (.int (nI 0) :: S) h Q := ax_iconst mt202 dX12_puts_11 ic_0
theorem s202_12 : aW d 202 12 [l0, l1, l2, l3, l4, l5, l6, l7, l8] (.int a :: S) h Q = aW d 202 14 [l0, l1, l2, l3, l4, .int a, l6, l7, l8] S h Q := ax_istore mt202 dX12_puts_12 (Nat.le_of_ble_eq_true rfl) rfl
theorem s202_14 : aW d 202 14 [.ref o, l1, l2, l3, l4, l5, l6, l7, l8] S h Q = aW d 202 15 [.ref o, l1, l2, l3, l4, l5, l6, l7, l8] (.ref o :: S) h Q := ax_aload_n mt202 dX12_puts_14 rfl
theorem s202_15 : aW d 202 15 L S h Q = aW d 202 16 L (.int (nI 0) :: S) h Q := ax_iconst mt202 dX12_puts_15 ic_0
theorem s202_16 (hT : gT h o = some (14, 54)) : aW (d + 1) 202 16 L (.int x0 :: .ref o :: []) h Q = aM d 201 (.ref o :: [.int x0]) h (fun v h1 => aW (d + 1) 202 19 L (ab_ps v []) h1 Q) := ax_invv mt202 dX12_puts_16 (by decide) ct_49451 (.inl rfl) mt201 ⟨⟨Nat.le_of_ble_eq_true rfl, Nat.le_of_ble_eq_true rfl, Nat.le_of_ble_eq_true rfl⟩, rfl, rfl, rfl⟩ hT
theorem s202_19 : aW d 202 19 [l0, l1, l2, l3, l4, l5, l6, l7, l8] (.int a :: S) h Q = aW d 202 21 [l0, l1, l2, l3, l4, l5, .int a, l7, l8] S h Q := ax_istore mt202 dX12_puts_19 (Nat.le_of_ble_eq_true rfl) rfl
theorem s202_21 : aW d 202 21 [l0, l1, l2, l3, l4, l5, .int a, l7, l8] S h Q = aW d 202 23 [l0, l1, l2, l3, l4, l5, .int a, l7, l8] (.int a :: S) h Q := ax_iload mt202 dX12_puts_21 rfl
theorem s202_23 : aW d 202 23 L S h Q = aW d 202 24 L (.int ((-1)) :: S) h Q := ax_iconst mt202 dX12_puts_23 ic_m1
theorem s202_24 : aW d 202 24 L (.int b :: .int a :: S) h Q = (if a = b then aW d 202 118 L S h Q else aW d 202 27 L S h Q) := ax_icmp_eq mt202 dX12_puts_24 (by decide)
theorem s202_27 : aW d 202 27 [l0, l1, l2, l3, l4, l5, .int a, l7, l8] S h Q = aW d 202 29 [l0, l1, l2, l3, l4, l5, .int a, l7, l8] (.int a :: S) h Q := ax_iload mt202 dX12_puts_27 rfl
theorem s202_29 : aW d 202 29 [l0, l1, l2, l3, l4, .int a, l6, l7, l8] S h Q = aW d 202 31 [l0, l1, l2, l3, l4, .int a, l6, l7, l8] (.int a :: S) h Q := ax_iload mt202 dX12_puts_29 rfl
theorem s202_31 : aW d 202 31 L (.int b :: .int a :: S) h Q = aW d 202 32 L (.int (a - b) :: S) h Q := ax_isub mt202 dX12_puts_31
theorem s202_32 : aW d 202 32 [l0, l1, l2, l3, l4, l5, l6, l7, l8] (.int a :: S) h Q = aW d 202 34 [l0, l1, l2, l3, l4, l5, l6, .int a, l8] S h Q := ax_istore mt202 dX12_puts_32 (Nat.le_of_ble_eq_true rfl) rfl
theorem s202_34 : aW d 202 34 [l0, l1, l2, l3, l4, l5, l6, .int a, l8] S h Q = aW d 202 36 [l0, l1, l2, l3, l4, l5, l6, .int a, l8] (.int a :: S) h Q := ax_iload mt202 dX12_puts_34 rfl
theorem s202_36 : aW d 202 36 L (.int a :: S) h Q = (if 0 < a then aW d 202 39 L S h Q else aW d 202 49 L S h Q) := ax_if_le mt202 dX12_puts_36 (by decide)
theorem s202_39 : aW d 202 39 [l0, l1, l2, l3, l4, l5, l6, .int a, l8] S h Q = aW d 202 41 [l0, l1, l2, l3, l4, l5, l6, .int a, l8] (.int a :: S) h Q := ax_iload mt202 dX12_puts_39 rfl
theorem s202_41 : aW d 202 41 [l0, l1, .int a, l3, l4, l5, l6, l7, l8] S h Q = aW d 202 42 [l0, l1, .int a, l3, l4, l5, l6, l7, l8] (.int a :: S) h Q := ax_iload_n mt202 dX12_puts_41 rfl
theorem s202_42 : aW d 202 42 L (.int b :: .int a :: S) h Q = (if a < b then aW d 202 49 L S h Q else aW d 202 45 L S h Q) := ax_icmp_lt mt202 dX12_puts_42 (by decide)
theorem s202_45 : aW d 202 45 L S h Q = aW d 202 46 L (.int (nI 1) :: S) h Q := ax_iconst mt202 dX12_puts_45 ic_1
theorem s202_46 : aW d 202 46 L S h Q = aW d 202 50 L S h Q := ax_goto mt202 dX12_puts_46 (by decide)
theorem s202_50 : aW d 202 50 [l0, l1, l2, l3, l4, l5, l6, l7, l8] (.int a :: S) h Q = aW d 202 52 [l0, l1, l2, l3, l4, l5, l6, l7, .int a] S h Q := ax_istore mt202 dX12_puts_50 (Nat.le_of_ble_eq_true rfl) rfl
theorem s202_52 : aW d 202 52 [l0, l1, l2, l3, l4, l5, l6, l7, .int a] S h Q = aW d 202 54 [l0, l1, l2, l3, l4, l5, l6, l7, .int a] (.int a :: S) h Q := ax_iload mt202 dX12_puts_52 rfl
theorem s202_54 : aW d 202 54 L (.int a :: S) h Q = (if a = 0 then aW d 202 99 L S h Q else aW d 202 57 L S h Q) := ax_if_eq mt202 dX12_puts_54 (by decide)
theorem s202_57 : aW d 202 57 [l0, l1, l2, .int a, l4, l5, l6, l7, l8] S h Q = aW d 202 58 [l0, l1, l2, .int a, l4, l5, l6, l7, l8] (.int a :: S) h Q := ax_iload_n mt202 dX12_puts_57 rfl
theorem s202_58 : aW d 202 58 L S h Q = aW d 202 59 L (.int ((-1)) :: S) h Q := ax_iconst mt202 dX12_puts_58 ic_m1
theorem s202_59 : aW d 202 59 L (.int b :: .int a :: S) h Q = (if a = b then aW d 202 92 L S h Q else aW d 202 62 L S h Q) := ax_icmp_eq mt202 dX12_puts_59 (by decide)
theorem s202_62 : aW d 202 62 [.ref o, l1, l2, l3, l4, l5, l6, l7, l8] S h Q = aW d 202 63 [.ref o, l1, l2, l3, l4, l5, l6, l7, l8] (.ref o :: S) h Q := ax_aload_n mt202 dX12_puts_62 rfl
theorem s202_63 (hT : gT h o = some (14, 54)) : aW d 202 63 L (.ref o :: S) h Q = aW d 202 66 L (.int (gI h o 34) :: S) h Q := ax_geti mt202 dX12_puts_63 (by decide) ft_49448 fk_49448 hT
theorem s202_66 : aW d 202 66 L S h Q = aW d 202 67 L (.int (nI 1) :: S) h Q := ax_iconst mt202 dX12_puts_66 ic_1
theorem s202_67 : aW d 202 67 L (.int b :: .int a :: S) h Q = (if a = b then aW d 202 70 L S h Q else aW d 202 77 L S h Q) := ax_icmp_ne mt202 dX12_puts_67 (by decide)
theorem s202_70 : aW d 202 70 [l0, l1, l2, l3, l4, l5, l6, .int a, l8] S h Q = aW d 202 72 [l0, l1, l2, l3, l4, l5, l6, .int a, l8] (.int a :: S) h Q := ax_iload mt202 dX12_puts_70 rfl
theorem s202_72 : aW d 202 72 [l0, l1, l2, l3, .int a, l5, l6, l7, l8] S h Q = aW d 202 74 [l0, l1, l2, l3, .int a, l5, l6, l7, l8] (.int a :: S) h Q := ax_iload mt202 dX12_puts_72 rfl
theorem s202_74 : aW d 202 74 L (.int b :: .int a :: S) h Q = (if a < b then aW d 202 92 L S h Q else aW d 202 77 L S h Q) := ax_icmp_lt mt202 dX12_puts_74 (by decide)
theorem s202_77 : aW d 202 77 [.ref o, l1, l2, l3, l4, l5, l6, l7, l8] S h Q = aW d 202 78 [.ref o, l1, l2, l3, l4, l5, l6, l7, l8] (.ref o :: S) h Q := ax_aload_n mt202 dX12_puts_77 rfl
theorem s202_78 (hT : gT h o = some (14, 54)) : aW d 202 78 L (.ref o :: S) h Q = aW d 202 81 L (.int (gI h o 34) :: S) h Q := ax_geti mt202 dX12_puts_78 (by decide) ft_49448 fk_49448 hT
theorem s202_81 : aW d 202 81 L S h Q = aW d 202 82 L (.int (nI 2) :: S) h Q := ax_iconst mt202 dX12_puts_81 ic_2
theorem s202_82 : aW d 202 82 L (.int b :: .int a :: S) h Q = (if a = b then aW d 202 85 L S h Q else aW d 202 99 L S h Q) := ax_icmp_ne mt202 dX12_puts_82 (by decide)
theorem s202_85 : aW d 202 85 [l0, l1, l2, l3, l4, l5, l6, .int a, l8] S h Q = aW d 202 87 [l0, l1, l2, l3, l4, l5, l6, .int a, l8] (.int a :: S) h Q := ax_iload mt202 dX12_puts_85 rfl
theorem s202_87 : aW d 202 87 [l0, l1, l2, l3, .int a, l5, l6, l7, l8] S h Q = aW d 202 89 [l0, l1, l2, l3, .int a, l5, l6, l7, l8] (.int a :: S) h Q := ax_iload mt202 dX12_puts_87 rfl
theorem s202_89 : aW d 202 89 L (.int b :: .int a :: S) h Q = (if b < a then aW d 202 92 L S h Q else aW d 202 99 L S h Q) := ax_icmp_le mt202 dX12_puts_89 (by decide)
theorem s202_92 : aW d 202 92 [l0, l1, l2, l3, l4, .int a, l6, l7, l8] S h Q = aW d 202 94 [l0, l1, l2, l3, l4, .int a, l6, l7, l8] (.int a :: S) h Q := ax_iload mt202 dX12_puts_92 rfl
theorem s202_94 : aW d 202 94 [l0, l1, l2, l3, l4, l5, l6, l7, l8] (.int a :: S) h Q = aW d 202 95 [l0, l1, l2, .int a, l4, l5, l6, l7, l8] S h Q := ax_istore_n mt202 dX12_puts_94 (Nat.le_of_ble_eq_true rfl) rfl
theorem s202_95 : aW d 202 95 [l0, l1, l2, l3, l4, l5, l6, .int a, l8] S h Q = aW d 202 97 [l0, l1, l2, l3, l4, l5, l6, .int a, l8] (.int a :: S) h Q := ax_iload mt202 dX12_puts_95 rfl
theorem s202_97 : aW d 202 97 [l0, l1, l2, l3, l4, l5, l6, l7, l8] (.int a :: S) h Q = aW d 202 99 [l0, l1, l2, l3, .int a, l5, l6, l7, l8] S h Q := ax_istore mt202 dX12_puts_97 (Nat.le_of_ble_eq_true rfl) rfl
theorem s202_99 : aW d 202 99 [.ref o, l1, l2, l3, l4, l5, l6, l7, l8] S h Q = aW d 202 100 [.ref o, l1, l2, l3, l4, l5, l6, l7, l8] (.ref o :: S) h Q := ax_aload_n mt202 dX12_puts_99 rfl
theorem s202_100 : aW d 202 100 [l0, l1, l2, l3, l4, l5, .int a, l7, l8] S h Q = aW d 202 102 [l0, l1, l2, l3, l4, l5, .int a, l7, l8] (.int a :: S) h Q := ax_iload mt202 dX12_puts_100 rfl
theorem s202_102 (hT : gT h o = some (14, 54)) : aW (d + 1) 202 102 L (.int x0 :: .ref o :: []) h Q = aM d 203 (.ref o :: [.int x0]) h (fun v h1 => aW (d + 1) 202 105 L (ab_ps v []) h1 Q) := ax_invv mt202 dX12_puts_102 (by decide) ct_49454 (.inl rfl) mt203 ⟨⟨Nat.le_of_ble_eq_true rfl, Nat.le_of_ble_eq_true rfl, Nat.le_of_ble_eq_true rfl⟩, rfl, rfl, rfl⟩ hT
theorem s202_105 : aW d 202 105 [l0, l1, l2, l3, l4, l5, l6, l7, l8] (.int a :: S) h Q = aW d 202 107 [l0, l1, l2, l3, l4, .int a, l6, l7, l8] S h Q := ax_istore mt202 dX12_puts_105 (Nat.le_of_ble_eq_true rfl) rfl
theorem s202_107 : aW d 202 107 [.ref o, l1, l2, l3, l4, l5, l6, l7, l8] S h Q = aW d 202 108 [.ref o, l1, l2, l3, l4, l5, l6, l7, l8] (.ref o :: S) h Q := ax_aload_n mt202 dX12_puts_107 rfl
theorem s202_108 : aW d 202 108 [l0, l1, l2, l3, l4, .int a, l6, l7, l8] S h Q = aW d 202 110 [l0, l1, l2, l3, l4, .int a, l6, l7, l8] (.int a :: S) h Q := ax_iload mt202 dX12_puts_108 rfl
theorem s202_110 (hT : gT h o = some (14, 54)) : aW (d + 1) 202 110 L (.int x0 :: .ref o :: []) h Q = aM d 201 (.ref o :: [.int x0]) h (fun v h1 => aW (d + 1) 202 113 L (ab_ps v []) h1 Q) := ax_invv mt202 dX12_puts_110 (by decide) ct_49451 (.inl rfl) mt201 ⟨⟨Nat.le_of_ble_eq_true rfl, Nat.le_of_ble_eq_true rfl, Nat.le_of_ble_eq_true rfl⟩, rfl, rfl, rfl⟩ hT
theorem s202_113 : aW d 202 113 [l0, l1, l2, l3, l4, l5, l6, l7, l8] (.int a :: S) h Q = aW d 202 115 [l0, l1, l2, l3, l4, l5, .int a, l7, l8] S h Q := ax_istore mt202 dX12_puts_113 (Nat.le_of_ble_eq_true rfl) rfl
theorem s202_115 : aW d 202 115 L S h Q = aW d 202 21 L S h Q := ax_goto mt202 dX12_puts_115 (by decide)
theorem s202_49 : aW d 202 49 L S h Q = aW d 202 50 L (.int (nI 0) :: S) h Q := ax_iconst mt202 dX12_puts_49 ic_0
theorem s202_118 : aW d 202 118 [.ref o, l1, l2, l3, l4, l5, l6, l7, l8] S h Q = aW d 202 119 [.ref o, l1, l2, l3, l4, l5, l6, l7, l8] (.ref o :: S) h Q := ax_aload_n mt202 dX12_puts_118 rfl
theorem s202_119 (hT : gT h o = some (14, 54)) : aW d 202 119 L (.ref o :: S) h Q = (isRf (gR h o 35) = true ∧ aW d 202 122 L (gR h o 35 :: S) h Q) := ax_geta mt202 dX12_puts_119 (by decide) ft_49238 fk_49238 hT
theorem s202_122 : aW d 202 122 [l0, .int a, l2, l3, l4, l5, l6, l7, l8] S h Q = aW d 202 123 [l0, .int a, l2, l3, l4, l5, l6, l7, l8] (.int a :: S) h Q := ax_iload_n mt202 dX12_puts_122 rfl
theorem s202_123 : aW d 202 123 [l0, l1, l2, .int a, l4, l5, l6, l7, l8] S h Q = aW d 202 124 [l0, l1, l2, .int a, l4, l5, l6, l7, l8] (.int a :: S) h Q := ax_iload_n mt202 dX12_puts_123 rfl
theorem s202_124 : aW d 202 124 L S h Q = aW d 202 125 L (.int ((-1)) :: S) h Q := ax_iconst mt202 dX12_puts_124 ic_m1
theorem s202_125 : aW d 202 125 L (.int b :: .int a :: S) h Q = (if a = b then aW d 202 128 L S h Q else aW d 202 133 L S h Q) := ax_icmp_ne mt202 dX12_puts_125 (by decide)
theorem s202_128 : aW d 202 128 [l0, l1, l2, l3, l4, .int a, l6, l7, l8] S h Q = aW d 202 130 [l0, l1, l2, l3, l4, .int a, l6, l7, l8] (.int a :: S) h Q := ax_iload mt202 dX12_puts_128 rfl
theorem s202_130 : aW d 202 130 L S h Q = aW d 202 134 L S h Q := ax_goto mt202 dX12_puts_130 (by decide)
theorem s202_134 : aW d 202 134 L (.int b :: .int a :: .ref o :: S) h Q = (inb a (aJ h o) ∧ aW d 202 135 L S (pI h o a.toNatClampNeg b) Q) := ax_iast mt202 dX12_puts_134
theorem s202_135 : aW d 202 135 L [] h Q = Q none h := ax_retv mt202 dX12_puts_135 rfl
theorem s202_133 : aW d 202 133 [l0, l1, l2, .int a, l4, l5, l6, l7, l8] S h Q = aW d 202 134 [l0, l1, l2, .int a, l4, l5, l6, l7, l8] (.int a :: S) h Q := ax_iload_n mt202 dX12_puts_133 rfl
-- method 203: BufferRoomModel.endAt(I)I
theorem dX12_endAt_0 : decode cX12_endAt 0 = .ok (.iload_n 1, 1) := by decide +kernel
theorem dX12_endAt_1 : decode cX12_endAt 1 = .ok (.istore_n 2, 1) := by decide +kernel
theorem dX12_endAt_2 : decode cX12_endAt 2 = .ok (.iconst 0, 1) := by decide +kernel
theorem dX12_endAt_3 : decode cX12_endAt 3 = .ok (.istore_n 3, 1) := by decide +kernel
theorem dX12_endAt_4 : decode cX12_endAt 4 = .ok (.iload_n 3, 1) := by decide +kernel
theorem dX12_endAt_5 : decode cX12_endAt 5 = .ok (.bipush 12, 2) := by decide +kernel
theorem dX12_endAt_7 : decode cX12_endAt 7 = .ok (.if_icmp .ge 42, 3) := by decide +kernel
theorem dX12_endAt_10 : decode cX12_endAt 10 = .ok (.aload_n 0, 1) := by decide +kernel
theorem dX12_endAt_11 : decode cX12_endAt 11 = .ok (.getfield 86, 3) := by decide +kernel
theorem dX12_endAt_14 : decode cX12_endAt 14 = .ok (.iload_n 3, 1) := by decide +kernel
theorem dX12_endAt_15 : decode cX12_endAt 15 = .ok (.iaload, 1) := by decide +kernel
theorem dX12_endAt_16 : decode cX12_endAt 16 = .ok (.iload_n 1, 1) := by decide +kernel
theorem dX12_endAt_17 : decode cX12_endAt 17 = .ok (.if_icmp .ne 24, 3) := by decide +kernel
theorem dX12_endAt_20 : decode cX12_endAt 20 = .ok (.iload_n 1, 1) := by decide +kernel
theorem dX12_endAt_21 : decode cX12_endAt 21 = .ok (.aload_n 0, 1) := by decide +kernel
theorem dX12_endAt_22 : decode cX12_endAt 22 = .ok (.iload_n 3, 1) := by decide +kernel
theorem dX12_endAt_23 : decode cX12_endAt 23 = .ok (.invokevirtual 204, 3) := by decide +kernel
theorem dX12_endAt_26 : decode cX12_endAt 26 = .ok (.iadd, 1) := by decide +kernel
theorem dX12_endAt_27 : decode cX12_endAt 27 = .ok (.iload_n 2, 1) := by decide +kernel
theorem dX12_endAt_28 : decode cX12_endAt 28 = .ok (.if_icmp .le 13, 3) := by decide +kernel
theorem dX12_endAt_31 : decode cX12_endAt 31 = .ok (.iload_n 1, 1) := by decide +kernel
theorem dX12_endAt_32 : decode cX12_endAt 32 = .ok (.aload_n 0, 1) := by decide +kernel
theorem dX12_endAt_33 : decode cX12_endAt 33 = .ok (.iload_n 3, 1) := by decide +kernel
theorem dX12_endAt_34 : decode cX12_endAt 34 = .ok (.invokevirtual 204, 3) := by decide +kernel
theorem dX12_endAt_37 : decode cX12_endAt 37 = .ok (.iadd, 1) := by decide +kernel
theorem dX12_endAt_38 : decode cX12_endAt 38 = .ok (.goto 4, 3) := by decide +kernel
theorem dX12_endAt_41 : decode cX12_endAt 41 = .ok (.iload_n 2, 1) := by decide +kernel
theorem dX12_endAt_42 : decode cX12_endAt 42 = .ok (.istore_n 2, 1) := by decide +kernel
theorem dX12_endAt_43 : decode cX12_endAt 43 = .ok (.iinc 3 1, 3) := by decide +kernel
theorem dX12_endAt_46 : decode cX12_endAt 46 = .ok (.goto (-42), 3) := by decide +kernel
theorem dX12_endAt_49 : decode cX12_endAt 49 = .ok (.iload_n 2, 1) := by decide +kernel
theorem dX12_endAt_50 : decode cX12_endAt 50 = .ok (.ireturn, 1) := by decide +kernel
theorem s203_0 : aW d 203 0 [l0, .int a, l2, l3] S h Q = aW d 203 1 [l0, .int a, l2, l3] (.int a :: S) h Q := ax_iload_n mt203 dX12_endAt_0 rfl
theorem s203_1 : aW d 203 1 [l0, l1, l2, l3] (.int a :: S) h Q = aW d 203 2 [l0, l1, .int a, l3] S h Q := ax_istore_n mt203 dX12_endAt_1 (Nat.le_of_ble_eq_true rfl) rfl
theorem s203_2 : aW d 203 2 L S h Q = aW d 203 3 L (.int (nI 0) :: S) h Q := ax_iconst mt203 dX12_endAt_2 ic_0
theorem s203_3 : aW d 203 3 [l0, l1, l2, l3] (.int a :: S) h Q = aW d 203 4 [l0, l1, l2, .int a] S h Q := ax_istore_n mt203 dX12_endAt_3 (Nat.le_of_ble_eq_true rfl) rfl
theorem s203_4 : aW d 203 4 [l0, l1, l2, .int a] S h Q = aW d 203 5 [l0, l1, l2, .int a] (.int a :: S) h Q := ax_iload_n mt203 dX12_endAt_4 rfl
theorem s203_5 : aW d 203 5 L S h Q = aW d 203 7 L (.int (nI 12) :: S) h Q := ax_bipush mt203 dX12_endAt_5 bp_12
theorem s203_7 : aW d 203 7 L (.int b :: .int a :: S) h Q = (if a < b then aW d 203 10 L S h Q else aW d 203 49 L S h Q) := ax_icmp_ge mt203 dX12_endAt_7 (by decide)
theorem s203_10 : aW d 203 10 [.ref o, l1, l2, l3] S h Q = aW d 203 11 [.ref o, l1, l2, l3] (.ref o :: S) h Q := ax_aload_n mt203 dX12_endAt_10 rfl
theorem s203_11 (hT : gT h o = some (14, 54)) : aW d 203 11 L (.ref o :: S) h Q = (isRf (gR h o 35) = true ∧ aW d 203 14 L (gR h o 35 :: S) h Q) := ax_geta mt203 dX12_endAt_11 (by decide) ft_49238 fk_49238 hT
theorem s203_14 : aW d 203 14 [l0, l1, l2, .int a] S h Q = aW d 203 15 [l0, l1, l2, .int a] (.int a :: S) h Q := ax_iload_n mt203 dX12_endAt_14 rfl
theorem s203_15 : aW d 203 15 L (.int a :: .ref o :: S) h Q = (inb a (aI h o) ∧ aW d 203 16 L (.int (gI h o a.toNatClampNeg) :: S) h Q) := ax_iald mt203 dX12_endAt_15
theorem s203_16 : aW d 203 16 [l0, .int a, l2, l3] S h Q = aW d 203 17 [l0, .int a, l2, l3] (.int a :: S) h Q := ax_iload_n mt203 dX12_endAt_16 rfl
theorem s203_17 : aW d 203 17 L (.int b :: .int a :: S) h Q = (if a = b then aW d 203 20 L S h Q else aW d 203 41 L S h Q) := ax_icmp_ne mt203 dX12_endAt_17 (by decide)
theorem s203_20 : aW d 203 20 [l0, .int a, l2, l3] S h Q = aW d 203 21 [l0, .int a, l2, l3] (.int a :: S) h Q := ax_iload_n mt203 dX12_endAt_20 rfl
theorem s203_21 : aW d 203 21 [.ref o, l1, l2, l3] S h Q = aW d 203 22 [.ref o, l1, l2, l3] (.ref o :: S) h Q := ax_aload_n mt203 dX12_endAt_21 rfl
theorem s203_22 : aW d 203 22 [l0, l1, l2, .int a] S h Q = aW d 203 23 [l0, l1, l2, .int a] (.int a :: S) h Q := ax_iload_n mt203 dX12_endAt_22 rfl
theorem s203_23 (hT : gT h o = some (14, 54)) : aW (d + 1) 203 23 L (.int x0 :: .ref o :: [.int y0]) h Q = aM d 154 (.ref o :: [.int x0]) h (fun v h1 => aW (d + 1) 203 26 L (ab_ps v [.int y0]) h1 Q) := ax_invv mt203 dX12_endAt_23 (by decide) ct_49356 (.inl rfl) mt154 ⟨⟨Nat.le_of_ble_eq_true rfl, Nat.le_of_ble_eq_true rfl, Nat.le_of_ble_eq_true rfl⟩, rfl, rfl, rfl⟩ hT
theorem s203_26 : aW d 203 26 L (.int b :: .int a :: S) h Q = aW d 203 27 L (.int (a + b) :: S) h Q := ax_iadd mt203 dX12_endAt_26
theorem s203_27 : aW d 203 27 [l0, l1, .int a, l3] S h Q = aW d 203 28 [l0, l1, .int a, l3] (.int a :: S) h Q := ax_iload_n mt203 dX12_endAt_27 rfl
theorem s203_28 : aW d 203 28 L (.int b :: .int a :: S) h Q = (if b < a then aW d 203 31 L S h Q else aW d 203 41 L S h Q) := ax_icmp_le mt203 dX12_endAt_28 (by decide)
theorem s203_31 : aW d 203 31 [l0, .int a, l2, l3] S h Q = aW d 203 32 [l0, .int a, l2, l3] (.int a :: S) h Q := ax_iload_n mt203 dX12_endAt_31 rfl
theorem s203_32 : aW d 203 32 [.ref o, l1, l2, l3] S h Q = aW d 203 33 [.ref o, l1, l2, l3] (.ref o :: S) h Q := ax_aload_n mt203 dX12_endAt_32 rfl
theorem s203_33 : aW d 203 33 [l0, l1, l2, .int a] S h Q = aW d 203 34 [l0, l1, l2, .int a] (.int a :: S) h Q := ax_iload_n mt203 dX12_endAt_33 rfl
theorem s203_34 (hT : gT h o = some (14, 54)) : aW (d + 1) 203 34 L (.int x0 :: .ref o :: [.int y0]) h Q = aM d 154 (.ref o :: [.int x0]) h (fun v h1 => aW (d + 1) 203 37 L (ab_ps v [.int y0]) h1 Q) := ax_invv mt203 dX12_endAt_34 (by decide) ct_49356 (.inl rfl) mt154 ⟨⟨Nat.le_of_ble_eq_true rfl, Nat.le_of_ble_eq_true rfl, Nat.le_of_ble_eq_true rfl⟩, rfl, rfl, rfl⟩ hT
theorem s203_37 : aW d 203 37 L (.int b :: .int a :: S) h Q = aW d 203 38 L (.int (a + b) :: S) h Q := ax_iadd mt203 dX12_endAt_37
theorem s203_38 : aW d 203 38 L S h Q = aW d 203 42 L S h Q := ax_goto mt203 dX12_endAt_38 (by decide)
theorem s203_42 : aW d 203 42 [l0, l1, l2, l3] (.int a :: S) h Q = aW d 203 43 [l0, l1, .int a, l3] S h Q := ax_istore_n mt203 dX12_endAt_42 (Nat.le_of_ble_eq_true rfl) rfl
theorem s203_43 : aW d 203 43 [l0, l1, l2, .int a] S h Q = aW d 203 46 [l0, l1, l2, .int (a + nI 1)] S h Q := ax_iinc mt203 dX12_endAt_43 rfl ic_1 rfl
theorem s203_46 : aW d 203 46 L S h Q = aW d 203 4 L S h Q := ax_goto mt203 dX12_endAt_46 (by decide)
theorem s203_41 : aW d 203 41 [l0, l1, .int a, l3] S h Q = aW d 203 42 [l0, l1, .int a, l3] (.int a :: S) h Q := ax_iload_n mt203 dX12_endAt_41 rfl
theorem s203_49 : aW d 203 49 [l0, l1, .int a, l3] S h Q = aW d 203 50 [l0, l1, .int a, l3] (.int a :: S) h Q := ax_iload_n mt203 dX12_endAt_49 rfl
theorem s203_50 : aW d 203 50 L [.int a] h Q = Q (some (.int a)) h := ax_reti mt203 dX12_endAt_50 rfl
-- method 204: BufferRoomModel.goes()V
theorem dX12_goes_0 : decode cX12_goes 0 = .ok (.iconst 0, 1) := by decide +kernel
theorem dX12_goes_1 : decode cX12_goes 1 = .ok (.istore_n 1, 1) := by decide +kernel
theorem dX12_goes_2 : decode cX12_goes 2 = .ok (.iload_n 1, 1) := by decide +kernel
theorem dX12_goes_3 : decode cX12_goes 3 = .ok (.bipush 12, 2) := by decide +kernel
theorem dX12_goes_5 : decode cX12_goes 5 = .ok (.if_icmp .ge 48, 3) := by decide +kernel
theorem dX12_goes_8 : decode cX12_goes 8 = .ok (.aload_n 0, 1) := by decide +kernel
theorem dX12_goes_9 : decode cX12_goes 9 = .ok (.getfield 190, 3) := by decide +kernel
theorem dX12_goes_12 : decode cX12_goes 12 = .ok (.ifCond .ne 41, 3) := by decide +kernel
theorem dX12_goes_15 : decode cX12_goes 15 = .ok (.aload_n 0, 1) := by decide +kernel
theorem dX12_goes_16 : decode cX12_goes 16 = .ok (.getfield 16, 3) := by decide +kernel
theorem dX12_goes_19 : decode cX12_goes 19 = .ok (.iload_n 1, 1) := by decide +kernel
theorem dX12_goes_20 : decode cX12_goes 20 = .ok (.baload, 1) := by decide +kernel
theorem dX12_goes_21 : decode cX12_goes 21 = .ok (.ifCond .eq 26, 3) := by decide +kernel
theorem dX12_goes_24 : decode cX12_goes 24 = .ok (.aload_n 0, 1) := by decide +kernel
theorem dX12_goes_25 : decode cX12_goes 25 = .ok (.iload_n 1, 1) := by decide +kernel
theorem dX12_goes_26 : decode cX12_goes 26 = .ok (.invokevirtual 208, 3) := by decide +kernel
theorem dX12_goes_29 : decode cX12_goes 29 = .ok (.iconst (-1), 1) := by decide +kernel
theorem dX12_goes_30 : decode cX12_goes 30 = .ok (.if_icmp .ne 17, 3) := by decide +kernel
theorem dX12_goes_33 : decode cX12_goes 33 = .ok (.aload_n 0, 1) := by decide +kernel
theorem dX12_goes_34 : decode cX12_goes 34 = .ok (.getfield 110, 3) := by decide +kernel
theorem dX12_goes_37 : decode cX12_goes 37 = .ok (.iload_n 1, 1) := by decide +kernel
theorem dX12_goes_38 : decode cX12_goes 38 = .ok (.iaload, 1) := by decide +kernel
theorem dX12_goes_39 : decode cX12_goes 39 = .ok (.ifCond .lt 8, 3) := by decide +kernel
theorem dX12_goes_42 : decode cX12_goes 42 = .ok (.aload_n 0, 1) := by decide +kernel
theorem dX12_goes_43 : decode cX12_goes 43 = .ok (.iload_n 1, 1) := by decide +kernel
theorem dX12_goes_44 : decode cX12_goes 44 = .ok (.invokevirtual 305, 3) := by decide +kernel
theorem dX12_goes_47 : decode cX12_goes 47 = .ok (.iinc 1 1, 3) := by decide +kernel
theorem dX12_goes_50 : decode cX12_goes 50 = .ok (.goto (-48), 3) := by decide +kernel
theorem dX12_goes_53 : decode cX12_goes 53 = .ok (.aload_n 0, 1) := by decide +kernel
theorem dX12_goes_54 : decode cX12_goes 54 = .ok (.getfield 104, 3) := by decide +kernel
theorem dX12_goes_57 : decode cX12_goes 57 = .ok (.aload_n 0, 1) := by decide +kernel
theorem dX12_goes_58 : decode cX12_goes 58 = .ok (.getfield 190, 3) := by decide +kernel
theorem dX12_goes_61 : decode cX12_goes 61 = .ok (.iaload, 1) := by decide +kernel
theorem dX12_goes_62 : decode cX12_goes 62 = .ok (.istore_n 1, 1) := by decide +kernel
theorem dX12_goes_63 : decode cX12_goes 63 = .ok (.aload_n 0, 1) := by decide +kernel
theorem dX12_goes_64 : decode cX12_goes 64 = .ok (.aload_n 0, 1) := by decide +kernel
theorem dX12_goes_65 : decode cX12_goes 65 = .ok (.getfield 190, 3) := by decide +kernel
theorem dX12_goes_68 : decode cX12_goes 68 = .ok (.invokevirtual 234, 3) := by decide +kernel
theorem dX12_goes_71 : decode cX12_goes 71 = .ok (.istore_n 2, 1) := by decide +kernel
theorem dX12_goes_72 : decode cX12_goes 72 = .ok (.iload_n 2, 1) := by decide +kernel
theorem dX12_goes_73 : decode cX12_goes 73 = .ok (.iconst (-1), 1) := by decide +kernel
theorem dX12_goes_74 : decode cX12_goes 74 = .ok (.if_icmp .eq 56, 3) := by decide +kernel
theorem dX12_goes_77 : decode cX12_goes 77 = .ok (.aload_n 0, 1) := by decide +kernel
theorem dX12_goes_78 : decode cX12_goes 78 = .ok (.iload_n 2, 1) := by decide +kernel
theorem dX12_goes_79 : decode cX12_goes 79 = .ok (.ifCond .ge 7, 3) := by decide +kernel
theorem dX12_goes_82 : decode cX12_goes 82 = .ok (.iconst 0, 1) := by decide +kernel
theorem dX12_goes_83 : decode cX12_goes 83 = .ok (.goto 4, 3) := by decide +kernel
theorem dX12_goes_86 : decode cX12_goes 86 = .ok (.iload_n 2, 1) := by decide +kernel
theorem dX12_goes_87 : decode cX12_goes 87 = .ok (.invokevirtual 204, 3) := by decide +kernel
theorem dX12_goes_90 : decode cX12_goes 90 = .ok (.aload_n 0, 1) := by decide +kernel
theorem dX12_goes_91 : decode cX12_goes 91 = .ok (.aload_n 0, 1) := by decide +kernel
theorem dX12_goes_92 : decode cX12_goes 92 = .ok (.getfield 38, 3) := by decide +kernel
theorem dX12_goes_95 : decode cX12_goes 95 = .ok (.iload_n 1, 1) := by decide +kernel
theorem dX12_goes_96 : decode cX12_goes 96 = .ok (.iaload, 1) := by decide +kernel
theorem dX12_goes_97 : decode cX12_goes 97 = .ok (.invokevirtual 204, 3) := by decide +kernel
theorem dX12_goes_100 : decode cX12_goes 100 = .ok (.if_icmp .lt 30, 3) := by decide +kernel
theorem dX12_goes_103 : decode cX12_goes 103 = .ok (.aload_n 0, 1) := by decide +kernel
theorem dX12_goes_104 : decode cX12_goes 104 = .ok (.getfield 86, 3) := by decide +kernel
theorem dX12_goes_107 : decode cX12_goes 107 = .ok (.aload_n 0, 1) := by decide +kernel
theorem dX12_goes_108 : decode cX12_goes 108 = .ok (.getfield 38, 3) := by decide +kernel
theorem dX12_goes_111 : decode cX12_goes 111 = .ok (.iload_n 1, 1) := by decide +kernel
theorem dX12_goes_112 : decode cX12_goes 112 = .ok (.iaload, 1) := by decide +kernel
theorem dX12_goes_113 : decode cX12_goes 113 = .ok (.aload_n 0, 1) := by decide +kernel
theorem dX12_goes_114 : decode cX12_goes 114 = .ok (.getfield 86, 3) := by decide +kernel
theorem dX12_goes_117 : decode cX12_goes 117 = .ok (.iload_n 2, 1) := by decide +kernel
theorem dX12_goes_118 : decode cX12_goes 118 = .ok (.iaload, 1) := by decide +kernel
theorem dX12_goes_119 : decode cX12_goes 119 = .ok (.iastore, 1) := by decide +kernel
theorem dX12_goes_120 : decode cX12_goes 120 = .ok (.aload_n 0, 1) := by decide +kernel
theorem dX12_goes_121 : decode cX12_goes 121 = .ok (.getfield 86, 3) := by decide +kernel
theorem dX12_goes_124 : decode cX12_goes 124 = .ok (.iload_n 2, 1) := by decide +kernel
theorem dX12_goes_125 : decode cX12_goes 125 = .ok (.iconst (-1), 1) := by decide +kernel
theorem dX12_goes_126 : decode cX12_goes 126 = .ok (.iastore, 1) := by decide +kernel
theorem dX12_goes_127 : decode cX12_goes 127 = .ok (.goto 13, 3) := by decide +kernel
theorem dX12_goes_130 : decode cX12_goes 130 = .ok (.aload_n 0, 1) := by decide +kernel
theorem dX12_goes_131 : decode cX12_goes 131 = .ok (.aload_n 0, 1) := by decide +kernel
theorem dX12_goes_132 : decode cX12_goes 132 = .ok (.getfield 38, 3) := by decide +kernel
theorem dX12_goes_135 : decode cX12_goes 135 = .ok (.iload_n 1, 1) := by decide +kernel
theorem dX12_goes_136 : decode cX12_goes 136 = .ok (.iaload, 1) := by decide +kernel
theorem dX12_goes_137 : decode cX12_goes 137 = .ok (.invokevirtual 305, 3) := by decide +kernel
theorem dX12_goes_140 : decode cX12_goes 140 = .ok (.aload_n 0, 1) := by decide +kernel
theorem dX12_goes_141 : decode cX12_goes 141 = .ok (.invokevirtual 308, 3) := by decide +kernel
theorem dX12_goes_144 : decode cX12_goes 144 = .ok (.aload_n 0, 1) := by decide +kernel
theorem dX12_goes_145 : decode cX12_goes 145 = .ok (.iload_n 1, 1) := by decide +kernel
theorem dX12_goes_146 : decode cX12_goes 146 = .ok (.invokevirtual 228, 3) := by decide +kernel
theorem dX12_goes_149 : decode cX12_goes 149 = .ok (.iadd, 1) := by decide +kernel
theorem dX12_goes_150 : decode cX12_goes 150 = .ok (.istore_n 3, 1) := by decide +kernel
theorem dX12_goes_151 : decode cX12_goes 151 = .ok (.aload_n 0, 1) := by decide +kernel
theorem dX12_goes_152 : decode cX12_goes 152 = .ok (.iload_n 3, 1) := by decide +kernel
theorem dX12_goes_153 : decode cX12_goes 153 = .ok (.aload_n 0, 1) := by decide +kernel
theorem dX12_goes_154 : decode cX12_goes 154 = .ok (.getfield 311, 3) := by decide +kernel
theorem dX12_goes_157 : decode cX12_goes 157 = .ok (.if_icmp .le 7, 3) := by decide +kernel
theorem dX12_goes_160 : decode cX12_goes 160 = .ok (.iload_n 3, 1) := by decide +kernel
theorem dX12_goes_161 : decode cX12_goes 161 = .ok (.goto 7, 3) := by decide +kernel
theorem dX12_goes_164 : decode cX12_goes 164 = .ok (.aload_n 0, 1) := by decide +kernel
theorem dX12_goes_165 : decode cX12_goes 165 = .ok (.getfield 311, 3) := by decide +kernel
theorem dX12_goes_168 : decode cX12_goes 168 = .ok (.putfield 311, 3) := by decide +kernel
theorem dX12_goes_171 : decode cX12_goes 171 = .ok (.iconst 0, 1) := by decide +kernel
theorem dX12_goes_172 : decode cX12_goes 172 = .ok (.istore 4, 2) := by decide +kernel
theorem dX12_goes_174 : decode cX12_goes 174 = .ok (.iload 4, 2) := by decide +kernel
theorem dX12_goes_176 : decode cX12_goes 176 = .ok (.bipush 12, 2) := by decide +kernel
theorem dX12_goes_178 : decode cX12_goes 178 = .ok (.if_icmp .ge 41, 3) := by decide +kernel
theorem dX12_goes_181 : decode cX12_goes 181 = .ok (.aload_n 0, 1) := by decide +kernel
theorem dX12_goes_182 : decode cX12_goes 182 = .ok (.getfield 86, 3) := by decide +kernel
theorem dX12_goes_185 : decode cX12_goes 185 = .ok (.iload 4, 2) := by decide +kernel
theorem dX12_goes_187 : decode cX12_goes 187 = .ok (.aload_n 0, 1) := by decide +kernel
theorem dX12_goes_188 : decode cX12_goes 188 = .ok (.getfield 110, 3) := by decide +kernel
theorem dX12_goes_191 : decode cX12_goes 191 = .ok (.iload 4, 2) := by decide +kernel
theorem dX12_goes_193 : decode cX12_goes 193 = .ok (.iaload, 1) := by decide +kernel
theorem dX12_goes_194 : decode cX12_goes 194 = .ok (.aload_n 0, 1) := by decide +kernel
theorem dX12_goes_195 : decode cX12_goes 195 = .ok (.getfield 190, 3) := by decide +kernel
theorem dX12_goes_198 : decode cX12_goes 198 = .ok (.if_icmp .gt 7, 3) := by decide +kernel
theorem dX12_goes_201 : decode cX12_goes 201 = .ok (.iconst (-1), 1) := by decide +kernel
theorem dX12_goes_202 : decode cX12_goes 202 = .ok (.goto 10, 3) := by decide +kernel
theorem dX12_goes_205 : decode cX12_goes 205 = .ok (.aload_n 0, 1) := by decide +kernel
theorem dX12_goes_206 : decode cX12_goes 206 = .ok (.getfield 86, 3) := by decide +kernel
theorem dX12_goes_209 : decode cX12_goes 209 = .ok (.iload 4, 2) := by decide +kernel
theorem dX12_goes_211 : decode cX12_goes 211 = .ok (.iaload, 1) := by decide +kernel
theorem dX12_goes_212 : decode cX12_goes 212 = .ok (.iastore, 1) := by decide +kernel
theorem dX12_goes_213 : decode cX12_goes 213 = .ok (.iinc 4 1, 3) := by decide +kernel
theorem dX12_goes_216 : decode cX12_goes 216 = .ok (.goto (-42), 3) := by decide +kernel
theorem dX12_goes_219 : decode cX12_goes 219 = .ok (.aload_n 0, 1) := by decide +kernel
theorem dX12_goes_220 : decode cX12_goes 220 = .ok (.dup, 1) := by decide +kernel
theorem dX12_goes_221 : decode cX12_goes 221 = .ok (.getfield 190, 3) := by decide +kernel
theorem dX12_goes_224 : decode cX12_goes 224 = .ok (.iconst 1, 1) := by decide +kernel
theorem dX12_goes_225 : decode cX12_goes 225 = .ok (.iadd, 1) := by decide +kernel
theorem dX12_goes_226 : decode cX12_goes 226 = .ok (.putfield 190, 3) := by decide +kernel
theorem dX12_goes_229 : decode cX12_goes 229 = .ok (.return_, 1) := by decide +kernel
theorem s204_0 : aW d 204 0 L S h Q = aW d 204 1 L (.int (nI 0) :: S) h Q := ax_iconst mt204 dX12_goes_0 ic_0
theorem s204_1 : aW d 204 1 [l0, l1, l2, l3, l4] (.int a :: S) h Q = aW d 204 2 [l0, .int a, l2, l3, l4] S h Q := ax_istore_n mt204 dX12_goes_1 (Nat.le_of_ble_eq_true rfl) rfl
theorem s204_2 : aW d 204 2 [l0, .int a, l2, l3, l4] S h Q = aW d 204 3 [l0, .int a, l2, l3, l4] (.int a :: S) h Q := ax_iload_n mt204 dX12_goes_2 rfl
theorem s204_3 : aW d 204 3 L S h Q = aW d 204 5 L (.int (nI 12) :: S) h Q := ax_bipush mt204 dX12_goes_3 bp_12
theorem s204_5 : aW d 204 5 L (.int b :: .int a :: S) h Q = (if a < b then aW d 204 8 L S h Q else aW d 204 53 L S h Q) := ax_icmp_ge mt204 dX12_goes_5 (by decide)
theorem s204_8 : aW d 204 8 [.ref o, l1, l2, l3, l4] S h Q = aW d 204 9 [.ref o, l1, l2, l3, l4] (.ref o :: S) h Q := ax_aload_n mt204 dX12_goes_8 rfl
theorem s204_9 (hT : gT h o = some (14, 54)) : aW d 204 9 L (.ref o :: S) h Q = aW d 204 12 L (.int (gI h o 32) :: S) h Q := ax_geti mt204 dX12_goes_9 (by decide) ft_49342 fk_49342 hT
theorem s204_12 : aW d 204 12 L (.int a :: S) h Q = (if a = 0 then aW d 204 15 L S h Q else aW d 204 53 L S h Q) := ax_if_ne mt204 dX12_goes_12 (by decide)
theorem s204_15 : aW d 204 15 [.ref o, l1, l2, l3, l4] S h Q = aW d 204 16 [.ref o, l1, l2, l3, l4] (.ref o :: S) h Q := ax_aload_n mt204 dX12_goes_15 rfl
theorem s204_16 (hT : gT h o = some (14, 54)) : aW d 204 16 L (.ref o :: S) h Q = (isRf (gR h o 5) = true ∧ aW d 204 19 L (gR h o 5 :: S) h Q) := ax_geta mt204 dX12_goes_16 (by decide) ft_49168 fk_49168 hT
theorem s204_19 : aW d 204 19 [l0, .int a, l2, l3, l4] S h Q = aW d 204 20 [l0, .int a, l2, l3, l4] (.int a :: S) h Q := ax_iload_n mt204 dX12_goes_19 rfl
theorem s204_20 : aW d 204 20 L (.int a :: .ref o :: S) h Q = (inb a (aZ h o) ∧ aW d 204 21 L (.int (gI h o a.toNatClampNeg) :: S) h Q) := ax_zald mt204 dX12_goes_20
theorem s204_21 : aW d 204 21 L (.int a :: S) h Q = (if a = 0 then aW d 204 47 L S h Q else aW d 204 24 L S h Q) := ax_if_eq mt204 dX12_goes_21 (by decide)
theorem s204_24 : aW d 204 24 [.ref o, l1, l2, l3, l4] S h Q = aW d 204 25 [.ref o, l1, l2, l3, l4] (.ref o :: S) h Q := ax_aload_n mt204 dX12_goes_24 rfl
theorem s204_25 : aW d 204 25 [l0, .int a, l2, l3, l4] S h Q = aW d 204 26 [l0, .int a, l2, l3, l4] (.int a :: S) h Q := ax_iload_n mt204 dX12_goes_25 rfl
theorem s204_26 (hT : gT h o = some (14, 54)) : aW (d + 1) 204 26 L (.int x0 :: .ref o :: []) h Q = aM d 161 (.ref o :: [.int x0]) h (fun v h1 => aW (d + 1) 204 29 L (ab_ps v []) h1 Q) := ax_invv mt204 dX12_goes_26 (by decide) ct_49360 (.inl rfl) mt161 ⟨⟨Nat.le_of_ble_eq_true rfl, Nat.le_of_ble_eq_true rfl, Nat.le_of_ble_eq_true rfl⟩, rfl, rfl, rfl⟩ hT
theorem s204_29 : aW d 204 29 L S h Q = aW d 204 30 L (.int ((-1)) :: S) h Q := ax_iconst mt204 dX12_goes_29 ic_m1
theorem s204_30 : aW d 204 30 L (.int b :: .int a :: S) h Q = (if a = b then aW d 204 33 L S h Q else aW d 204 47 L S h Q) := ax_icmp_ne mt204 dX12_goes_30 (by decide)
theorem s204_33 : aW d 204 33 [.ref o, l1, l2, l3, l4] S h Q = aW d 204 34 [.ref o, l1, l2, l3, l4] (.ref o :: S) h Q := ax_aload_n mt204 dX12_goes_33 rfl
theorem s204_34 (hT : gT h o = some (14, 54)) : aW d 204 34 L (.ref o :: S) h Q = (isRf (gR h o 48) = true ∧ aW d 204 37 L (gR h o 48 :: S) h Q) := ax_geta mt204 dX12_goes_34 (by decide) ft_49262 fk_49262 hT
theorem s204_37 : aW d 204 37 [l0, .int a, l2, l3, l4] S h Q = aW d 204 38 [l0, .int a, l2, l3, l4] (.int a :: S) h Q := ax_iload_n mt204 dX12_goes_37 rfl
theorem s204_38 : aW d 204 38 L (.int a :: .ref o :: S) h Q = (inb a (aI h o) ∧ aW d 204 39 L (.int (gI h o a.toNatClampNeg) :: S) h Q) := ax_iald mt204 dX12_goes_38
theorem s204_39 : aW d 204 39 L (.int a :: S) h Q = (if a < 0 then aW d 204 47 L S h Q else aW d 204 42 L S h Q) := ax_if_lt mt204 dX12_goes_39 (by decide)
theorem s204_42 : aW d 204 42 [.ref o, l1, l2, l3, l4] S h Q = aW d 204 43 [.ref o, l1, l2, l3, l4] (.ref o :: S) h Q := ax_aload_n mt204 dX12_goes_42 rfl
theorem s204_43 : aW d 204 43 [l0, .int a, l2, l3, l4] S h Q = aW d 204 44 [l0, .int a, l2, l3, l4] (.int a :: S) h Q := ax_iload_n mt204 dX12_goes_43 rfl
theorem s204_44 (hT : gT h o = some (14, 54)) : aW (d + 1) 204 44 L (.int x0 :: .ref o :: []) h Q = aM d 202 (.ref o :: [.int x0]) h (fun v h1 => aW (d + 1) 204 47 L (ab_ps v []) h1 Q) := ax_invv mt204 dX12_goes_44 (by decide) ct_49457 (.inl rfl) mt202 ⟨⟨Nat.le_of_ble_eq_true rfl, Nat.le_of_ble_eq_true rfl, Nat.le_of_ble_eq_true rfl⟩, rfl, rfl, rfl⟩ hT
theorem s204_47 : aW d 204 47 [l0, .int a, l2, l3, l4] S h Q = aW d 204 50 [l0, .int (a + nI 1), l2, l3, l4] S h Q := ax_iinc mt204 dX12_goes_47 rfl ic_1 rfl
theorem s204_50 : aW d 204 50 L S h Q = aW d 204 2 L S h Q := ax_goto mt204 dX12_goes_50 (by decide)
theorem s204_53 : aW d 204 53 [.ref o, l1, l2, l3, l4] S h Q = aW d 204 54 [.ref o, l1, l2, l3, l4] (.ref o :: S) h Q := ax_aload_n mt204 dX12_goes_53 rfl
theorem s204_54 (hT : gT h o = some (14, 54)) : aW d 204 54 L (.ref o :: S) h Q = (isRf (gR h o 46) = true ∧ aW d 204 57 L (gR h o 46 :: S) h Q) := ax_geta mt204 dX12_goes_54 (by decide) ft_49256 fk_49256 hT
theorem s204_57 : aW d 204 57 [.ref o, l1, l2, l3, l4] S h Q = aW d 204 58 [.ref o, l1, l2, l3, l4] (.ref o :: S) h Q := ax_aload_n mt204 dX12_goes_57 rfl
theorem s204_58 (hT : gT h o = some (14, 54)) : aW d 204 58 L (.ref o :: S) h Q = aW d 204 61 L (.int (gI h o 32) :: S) h Q := ax_geti mt204 dX12_goes_58 (by decide) ft_49342 fk_49342 hT
theorem s204_61 : aW d 204 61 L (.int a :: .ref o :: S) h Q = (inb a (aI h o) ∧ aW d 204 62 L (.int (gI h o a.toNatClampNeg) :: S) h Q) := ax_iald mt204 dX12_goes_61
theorem s204_62 : aW d 204 62 [l0, l1, l2, l3, l4] (.int a :: S) h Q = aW d 204 63 [l0, .int a, l2, l3, l4] S h Q := ax_istore_n mt204 dX12_goes_62 (Nat.le_of_ble_eq_true rfl) rfl
theorem s204_63 : aW d 204 63 [.ref o, l1, l2, l3, l4] S h Q = aW d 204 64 [.ref o, l1, l2, l3, l4] (.ref o :: S) h Q := ax_aload_n mt204 dX12_goes_63 rfl
theorem s204_64 : aW d 204 64 [.ref o, l1, l2, l3, l4] S h Q = aW d 204 65 [.ref o, l1, l2, l3, l4] (.ref o :: S) h Q := ax_aload_n mt204 dX12_goes_64 rfl
theorem s204_65 (hT : gT h o = some (14, 54)) : aW d 204 65 L (.ref o :: S) h Q = aW d 204 68 L (.int (gI h o 32) :: S) h Q := ax_geti mt204 dX12_goes_65 (by decide) ft_49342 fk_49342 hT
theorem s204_68 (hT : gT h o = some (14, 54)) : aW (d + 1) 204 68 L (.int x0 :: .ref o :: []) h Q = aM d 169 (.ref o :: [.int x0]) h (fun v h1 => aW (d + 1) 204 71 L (ab_ps v []) h1 Q) := ax_invv mt204 dX12_goes_68 (by decide) ct_49386 (.inl rfl) mt169 ⟨⟨Nat.le_of_ble_eq_true rfl, Nat.le_of_ble_eq_true rfl, Nat.le_of_ble_eq_true rfl⟩, rfl, rfl, rfl⟩ hT
theorem s204_71 : aW d 204 71 [l0, l1, l2, l3, l4] (.int a :: S) h Q = aW d 204 72 [l0, l1, .int a, l3, l4] S h Q := ax_istore_n mt204 dX12_goes_71 (Nat.le_of_ble_eq_true rfl) rfl
theorem s204_72 : aW d 204 72 [l0, l1, .int a, l3, l4] S h Q = aW d 204 73 [l0, l1, .int a, l3, l4] (.int a :: S) h Q := ax_iload_n mt204 dX12_goes_72 rfl
theorem s204_73 : aW d 204 73 L S h Q = aW d 204 74 L (.int ((-1)) :: S) h Q := ax_iconst mt204 dX12_goes_73 ic_m1
theorem s204_74 : aW d 204 74 L (.int b :: .int a :: S) h Q = (if a = b then aW d 204 130 L S h Q else aW d 204 77 L S h Q) := ax_icmp_eq mt204 dX12_goes_74 (by decide)
theorem s204_77 : aW d 204 77 [.ref o, l1, l2, l3, l4] S h Q = aW d 204 78 [.ref o, l1, l2, l3, l4] (.ref o :: S) h Q := ax_aload_n mt204 dX12_goes_77 rfl
theorem s204_78 : aW d 204 78 [l0, l1, .int a, l3, l4] S h Q = aW d 204 79 [l0, l1, .int a, l3, l4] (.int a :: S) h Q := ax_iload_n mt204 dX12_goes_78 rfl
theorem s204_79 : aW d 204 79 L (.int a :: S) h Q = (if a < 0 then aW d 204 82 L S h Q else aW d 204 86 L S h Q) := ax_if_ge mt204 dX12_goes_79 (by decide)
theorem s204_82 : aW d 204 82 L S h Q = aW d 204 83 L (.int (nI 0) :: S) h Q := ax_iconst mt204 dX12_goes_82 ic_0
theorem s204_83 : aW d 204 83 L S h Q = aW d 204 87 L S h Q := ax_goto mt204 dX12_goes_83 (by decide)
theorem s204_87 (hT : gT h o = some (14, 54)) : aW (d + 1) 204 87 L (.int x0 :: .ref o :: []) h Q = aM d 154 (.ref o :: [.int x0]) h (fun v h1 => aW (d + 1) 204 90 L (ab_ps v []) h1 Q) := ax_invv mt204 dX12_goes_87 (by decide) ct_49356 (.inl rfl) mt154 ⟨⟨Nat.le_of_ble_eq_true rfl, Nat.le_of_ble_eq_true rfl, Nat.le_of_ble_eq_true rfl⟩, rfl, rfl, rfl⟩ hT
theorem s204_90 : aW d 204 90 [.ref o, l1, l2, l3, l4] S h Q = aW d 204 91 [.ref o, l1, l2, l3, l4] (.ref o :: S) h Q := ax_aload_n mt204 dX12_goes_90 rfl
theorem s204_91 : aW d 204 91 [.ref o, l1, l2, l3, l4] S h Q = aW d 204 92 [.ref o, l1, l2, l3, l4] (.ref o :: S) h Q := ax_aload_n mt204 dX12_goes_91 rfl
theorem s204_92 (hT : gT h o = some (14, 54)) : aW d 204 92 L (.ref o :: S) h Q = (isRf (gR h o 12) = true ∧ aW d 204 95 L (gR h o 12 :: S) h Q) := ax_geta mt204 dX12_goes_92 (by decide) ft_49190 fk_49190 hT
theorem s204_95 : aW d 204 95 [l0, .int a, l2, l3, l4] S h Q = aW d 204 96 [l0, .int a, l2, l3, l4] (.int a :: S) h Q := ax_iload_n mt204 dX12_goes_95 rfl
theorem s204_96 : aW d 204 96 L (.int a :: .ref o :: S) h Q = (inb a (aI h o) ∧ aW d 204 97 L (.int (gI h o a.toNatClampNeg) :: S) h Q) := ax_iald mt204 dX12_goes_96
theorem s204_97 (hT : gT h o = some (14, 54)) : aW (d + 1) 204 97 L (.int x0 :: .ref o :: [.int y0]) h Q = aM d 154 (.ref o :: [.int x0]) h (fun v h1 => aW (d + 1) 204 100 L (ab_ps v [.int y0]) h1 Q) := ax_invv mt204 dX12_goes_97 (by decide) ct_49356 (.inl rfl) mt154 ⟨⟨Nat.le_of_ble_eq_true rfl, Nat.le_of_ble_eq_true rfl, Nat.le_of_ble_eq_true rfl⟩, rfl, rfl, rfl⟩ hT
theorem s204_100 : aW d 204 100 L (.int b :: .int a :: S) h Q = (if a < b then aW d 204 130 L S h Q else aW d 204 103 L S h Q) := ax_icmp_lt mt204 dX12_goes_100 (by decide)
theorem s204_103 : aW d 204 103 [.ref o, l1, l2, l3, l4] S h Q = aW d 204 104 [.ref o, l1, l2, l3, l4] (.ref o :: S) h Q := ax_aload_n mt204 dX12_goes_103 rfl
theorem s204_104 (hT : gT h o = some (14, 54)) : aW d 204 104 L (.ref o :: S) h Q = (isRf (gR h o 35) = true ∧ aW d 204 107 L (gR h o 35 :: S) h Q) := ax_geta mt204 dX12_goes_104 (by decide) ft_49238 fk_49238 hT
theorem s204_107 : aW d 204 107 [.ref o, l1, l2, l3, l4] S h Q = aW d 204 108 [.ref o, l1, l2, l3, l4] (.ref o :: S) h Q := ax_aload_n mt204 dX12_goes_107 rfl
theorem s204_108 (hT : gT h o = some (14, 54)) : aW d 204 108 L (.ref o :: S) h Q = (isRf (gR h o 12) = true ∧ aW d 204 111 L (gR h o 12 :: S) h Q) := ax_geta mt204 dX12_goes_108 (by decide) ft_49190 fk_49190 hT
theorem s204_111 : aW d 204 111 [l0, .int a, l2, l3, l4] S h Q = aW d 204 112 [l0, .int a, l2, l3, l4] (.int a :: S) h Q := ax_iload_n mt204 dX12_goes_111 rfl
theorem s204_112 : aW d 204 112 L (.int a :: .ref o :: S) h Q = (inb a (aI h o) ∧ aW d 204 113 L (.int (gI h o a.toNatClampNeg) :: S) h Q) := ax_iald mt204 dX12_goes_112
theorem s204_113 : aW d 204 113 [.ref o, l1, l2, l3, l4] S h Q = aW d 204 114 [.ref o, l1, l2, l3, l4] (.ref o :: S) h Q := ax_aload_n mt204 dX12_goes_113 rfl
theorem s204_114 (hT : gT h o = some (14, 54)) : aW d 204 114 L (.ref o :: S) h Q = (isRf (gR h o 35) = true ∧ aW d 204 117 L (gR h o 35 :: S) h Q) := ax_geta mt204 dX12_goes_114 (by decide) ft_49238 fk_49238 hT
theorem s204_117 : aW d 204 117 [l0, l1, .int a, l3, l4] S h Q = aW d 204 118 [l0, l1, .int a, l3, l4] (.int a :: S) h Q := ax_iload_n mt204 dX12_goes_117 rfl
theorem s204_118 : aW d 204 118 L (.int a :: .ref o :: S) h Q = (inb a (aI h o) ∧ aW d 204 119 L (.int (gI h o a.toNatClampNeg) :: S) h Q) := ax_iald mt204 dX12_goes_118
theorem s204_119 : aW d 204 119 L (.int b :: .int a :: .ref o :: S) h Q = (inb a (aJ h o) ∧ aW d 204 120 L S (pI h o a.toNatClampNeg b) Q) := ax_iast mt204 dX12_goes_119
theorem s204_120 : aW d 204 120 [.ref o, l1, l2, l3, l4] S h Q = aW d 204 121 [.ref o, l1, l2, l3, l4] (.ref o :: S) h Q := ax_aload_n mt204 dX12_goes_120 rfl
theorem s204_121 (hT : gT h o = some (14, 54)) : aW d 204 121 L (.ref o :: S) h Q = (isRf (gR h o 35) = true ∧ aW d 204 124 L (gR h o 35 :: S) h Q) := ax_geta mt204 dX12_goes_121 (by decide) ft_49238 fk_49238 hT
theorem s204_124 : aW d 204 124 [l0, l1, .int a, l3, l4] S h Q = aW d 204 125 [l0, l1, .int a, l3, l4] (.int a :: S) h Q := ax_iload_n mt204 dX12_goes_124 rfl
theorem s204_125 : aW d 204 125 L S h Q = aW d 204 126 L (.int ((-1)) :: S) h Q := ax_iconst mt204 dX12_goes_125 ic_m1
theorem s204_126 : aW d 204 126 L (.int b :: .int a :: .ref o :: S) h Q = (inb a (aJ h o) ∧ aW d 204 127 L S (pI h o a.toNatClampNeg b) Q) := ax_iast mt204 dX12_goes_126
theorem s204_127 : aW d 204 127 L S h Q = aW d 204 140 L S h Q := ax_goto mt204 dX12_goes_127 (by decide)
theorem s204_140 : aW d 204 140 [.ref o, l1, l2, l3, l4] S h Q = aW d 204 141 [.ref o, l1, l2, l3, l4] (.ref o :: S) h Q := ax_aload_n mt204 dX12_goes_140 rfl
theorem s204_141 (hT : gT h o = some (14, 54)) : aW (d + 1) 204 141 L (.ref o :: []) h Q = aM d 200 (.ref o :: []) h (fun v h1 => aW (d + 1) 204 144 L (ab_ps v []) h1 Q) := ax_invv mt204 dX12_goes_141 (by decide) ct_49460 (.inl rfl) mt200 ⟨⟨Nat.le_of_ble_eq_true rfl, Nat.le_of_ble_eq_true rfl, Nat.le_of_ble_eq_true rfl⟩, rfl, rfl, rfl⟩ hT
theorem s204_144 : aW d 204 144 [.ref o, l1, l2, l3, l4] S h Q = aW d 204 145 [.ref o, l1, l2, l3, l4] (.ref o :: S) h Q := ax_aload_n mt204 dX12_goes_144 rfl
theorem s204_145 : aW d 204 145 [l0, .int a, l2, l3, l4] S h Q = aW d 204 146 [l0, .int a, l2, l3, l4] (.int a :: S) h Q := ax_iload_n mt204 dX12_goes_145 rfl
theorem s204_146 (hT : gT h o = some (14, 54)) : aW (d + 1) 204 146 L (.int x0 :: .ref o :: [.int y0]) h Q = aM d 159 (.ref o :: [.int x0]) h (fun v h1 => aW (d + 1) 204 149 L (ab_ps v [.int y0]) h1 Q) := ax_invv mt204 dX12_goes_146 (by decide) ct_49380 (.inl rfl) mt159 ⟨⟨Nat.le_of_ble_eq_true rfl, Nat.le_of_ble_eq_true rfl, Nat.le_of_ble_eq_true rfl⟩, rfl, rfl, rfl⟩ hT
theorem s204_149 : aW d 204 149 L (.int b :: .int a :: S) h Q = aW d 204 150 L (.int (a + b) :: S) h Q := ax_iadd mt204 dX12_goes_149
theorem s204_150 : aW d 204 150 [l0, l1, l2, l3, l4] (.int a :: S) h Q = aW d 204 151 [l0, l1, l2, .int a, l4] S h Q := ax_istore_n mt204 dX12_goes_150 (Nat.le_of_ble_eq_true rfl) rfl
theorem s204_151 : aW d 204 151 [.ref o, l1, l2, l3, l4] S h Q = aW d 204 152 [.ref o, l1, l2, l3, l4] (.ref o :: S) h Q := ax_aload_n mt204 dX12_goes_151 rfl
theorem s204_152 : aW d 204 152 [l0, l1, l2, .int a, l4] S h Q = aW d 204 153 [l0, l1, l2, .int a, l4] (.int a :: S) h Q := ax_iload_n mt204 dX12_goes_152 rfl
theorem s204_153 : aW d 204 153 [.ref o, l1, l2, l3, l4] S h Q = aW d 204 154 [.ref o, l1, l2, l3, l4] (.ref o :: S) h Q := ax_aload_n mt204 dX12_goes_153 rfl
theorem s204_154 (hT : gT h o = some (14, 54)) : aW d 204 154 L (.ref o :: S) h Q = aW d 204 157 L (.int (gI h o 33) :: S) h Q := ax_geti mt204 dX12_goes_154 (by decide) ft_49463 fk_49463 hT
theorem s204_157 : aW d 204 157 L (.int b :: .int a :: S) h Q = (if b < a then aW d 204 160 L S h Q else aW d 204 164 L S h Q) := ax_icmp_le mt204 dX12_goes_157 (by decide)
theorem s204_160 : aW d 204 160 [l0, l1, l2, .int a, l4] S h Q = aW d 204 161 [l0, l1, l2, .int a, l4] (.int a :: S) h Q := ax_iload_n mt204 dX12_goes_160 rfl
theorem s204_161 : aW d 204 161 L S h Q = aW d 204 168 L S h Q := ax_goto mt204 dX12_goes_161 (by decide)
theorem s204_168 (hT : gT h o = some (14, 54)) : aW d 204 168 L (.int a :: .ref o :: S) h Q = aW d 204 171 L S (pI h o 33 a) Q := ax_puti mt204 dX12_goes_168 (by decide) ft_49463 (fun q => fn_49463 q.1) fp_49463 hT
theorem s204_171 : aW d 204 171 L S h Q = aW d 204 172 L (.int (nI 0) :: S) h Q := ax_iconst mt204 dX12_goes_171 ic_0
theorem s204_172 : aW d 204 172 [l0, l1, l2, l3, l4] (.int a :: S) h Q = aW d 204 174 [l0, l1, l2, l3, .int a] S h Q := ax_istore mt204 dX12_goes_172 (Nat.le_of_ble_eq_true rfl) rfl
theorem s204_174 : aW d 204 174 [l0, l1, l2, l3, .int a] S h Q = aW d 204 176 [l0, l1, l2, l3, .int a] (.int a :: S) h Q := ax_iload mt204 dX12_goes_174 rfl
theorem s204_176 : aW d 204 176 L S h Q = aW d 204 178 L (.int (nI 12) :: S) h Q := ax_bipush mt204 dX12_goes_176 bp_12
theorem s204_178 : aW d 204 178 L (.int b :: .int a :: S) h Q = (if a < b then aW d 204 181 L S h Q else aW d 204 219 L S h Q) := ax_icmp_ge mt204 dX12_goes_178 (by decide)
theorem s204_181 : aW d 204 181 [.ref o, l1, l2, l3, l4] S h Q = aW d 204 182 [.ref o, l1, l2, l3, l4] (.ref o :: S) h Q := ax_aload_n mt204 dX12_goes_181 rfl
theorem s204_182 (hT : gT h o = some (14, 54)) : aW d 204 182 L (.ref o :: S) h Q = (isRf (gR h o 35) = true ∧ aW d 204 185 L (gR h o 35 :: S) h Q) := ax_geta mt204 dX12_goes_182 (by decide) ft_49238 fk_49238 hT
theorem s204_185 : aW d 204 185 [l0, l1, l2, l3, .int a] S h Q = aW d 204 187 [l0, l1, l2, l3, .int a] (.int a :: S) h Q := ax_iload mt204 dX12_goes_185 rfl
theorem s204_187 : aW d 204 187 [.ref o, l1, l2, l3, l4] S h Q = aW d 204 188 [.ref o, l1, l2, l3, l4] (.ref o :: S) h Q := ax_aload_n mt204 dX12_goes_187 rfl
theorem s204_188 (hT : gT h o = some (14, 54)) : aW d 204 188 L (.ref o :: S) h Q = (isRf (gR h o 48) = true ∧ aW d 204 191 L (gR h o 48 :: S) h Q) := ax_geta mt204 dX12_goes_188 (by decide) ft_49262 fk_49262 hT
theorem s204_191 : aW d 204 191 [l0, l1, l2, l3, .int a] S h Q = aW d 204 193 [l0, l1, l2, l3, .int a] (.int a :: S) h Q := ax_iload mt204 dX12_goes_191 rfl
theorem s204_193 : aW d 204 193 L (.int a :: .ref o :: S) h Q = (inb a (aI h o) ∧ aW d 204 194 L (.int (gI h o a.toNatClampNeg) :: S) h Q) := ax_iald mt204 dX12_goes_193
theorem s204_194 : aW d 204 194 [.ref o, l1, l2, l3, l4] S h Q = aW d 204 195 [.ref o, l1, l2, l3, l4] (.ref o :: S) h Q := ax_aload_n mt204 dX12_goes_194 rfl
theorem s204_195 (hT : gT h o = some (14, 54)) : aW d 204 195 L (.ref o :: S) h Q = aW d 204 198 L (.int (gI h o 32) :: S) h Q := ax_geti mt204 dX12_goes_195 (by decide) ft_49342 fk_49342 hT
theorem s204_198 : aW d 204 198 L (.int b :: .int a :: S) h Q = (if b < a then aW d 204 205 L S h Q else aW d 204 201 L S h Q) := ax_icmp_gt mt204 dX12_goes_198 (by decide)
theorem s204_201 : aW d 204 201 L S h Q = aW d 204 202 L (.int ((-1)) :: S) h Q := ax_iconst mt204 dX12_goes_201 ic_m1
theorem s204_202 : aW d 204 202 L S h Q = aW d 204 212 L S h Q := ax_goto mt204 dX12_goes_202 (by decide)
theorem s204_212 : aW d 204 212 L (.int b :: .int a :: .ref o :: S) h Q = (inb a (aJ h o) ∧ aW d 204 213 L S (pI h o a.toNatClampNeg b) Q) := ax_iast mt204 dX12_goes_212
theorem s204_213 : aW d 204 213 [l0, l1, l2, l3, .int a] S h Q = aW d 204 216 [l0, l1, l2, l3, .int (a + nI 1)] S h Q := ax_iinc mt204 dX12_goes_213 rfl ic_1 rfl
theorem s204_216 : aW d 204 216 L S h Q = aW d 204 174 L S h Q := ax_goto mt204 dX12_goes_216 (by decide)
theorem s204_205 : aW d 204 205 [.ref o, l1, l2, l3, l4] S h Q = aW d 204 206 [.ref o, l1, l2, l3, l4] (.ref o :: S) h Q := ax_aload_n mt204 dX12_goes_205 rfl
theorem s204_206 (hT : gT h o = some (14, 54)) : aW d 204 206 L (.ref o :: S) h Q = (isRf (gR h o 35) = true ∧ aW d 204 209 L (gR h o 35 :: S) h Q) := ax_geta mt204 dX12_goes_206 (by decide) ft_49238 fk_49238 hT
theorem s204_209 : aW d 204 209 [l0, l1, l2, l3, .int a] S h Q = aW d 204 211 [l0, l1, l2, l3, .int a] (.int a :: S) h Q := ax_iload mt204 dX12_goes_209 rfl
theorem s204_211 : aW d 204 211 L (.int a :: .ref o :: S) h Q = (inb a (aI h o) ∧ aW d 204 212 L (.int (gI h o a.toNatClampNeg) :: S) h Q) := ax_iald mt204 dX12_goes_211
theorem s204_219 : aW d 204 219 [.ref o, l1, l2, l3, l4] S h Q = aW d 204 220 [.ref o, l1, l2, l3, l4] (.ref o :: S) h Q := ax_aload_n mt204 dX12_goes_219 rfl
theorem s204_220 : aW d 204 220 L (.ref o :: S) h Q = aW d 204 221 L (.ref o :: .ref o :: S) h Q := ax_dupa mt204 dX12_goes_220
theorem s204_221 (hT : gT h o = some (14, 54)) : aW d 204 221 L (.ref o :: S) h Q = aW d 204 224 L (.int (gI h o 32) :: S) h Q := ax_geti mt204 dX12_goes_221 (by decide) ft_49342 fk_49342 hT
theorem s204_224 : aW d 204 224 L S h Q = aW d 204 225 L (.int (nI 1) :: S) h Q := ax_iconst mt204 dX12_goes_224 ic_1
theorem s204_225 : aW d 204 225 L (.int b :: .int a :: S) h Q = aW d 204 226 L (.int (a + b) :: S) h Q := ax_iadd mt204 dX12_goes_225
theorem s204_226 (hT : gT h o = some (14, 54)) : aW d 204 226 L (.int a :: .ref o :: S) h Q = aW d 204 229 L S (pI h o 32 a) Q := ax_puti mt204 dX12_goes_226 (by decide) ft_49342 (fun q => fn_49342 q.1) fp_49342 hT
theorem s204_229 : aW d 204 229 L [] h Q = Q none h := ax_retv mt204 dX12_goes_229 rfl
theorem s204_164 : aW d 204 164 [.ref o, l1, l2, l3, l4] S h Q = aW d 204 165 [.ref o, l1, l2, l3, l4] (.ref o :: S) h Q := ax_aload_n mt204 dX12_goes_164 rfl
theorem s204_165 (hT : gT h o = some (14, 54)) : aW d 204 165 L (.ref o :: S) h Q = aW d 204 168 L (.int (gI h o 33) :: S) h Q := ax_geti mt204 dX12_goes_165 (by decide) ft_49463 fk_49463 hT
theorem s204_86 : aW d 204 86 [l0, l1, .int a, l3, l4] S h Q = aW d 204 87 [l0, l1, .int a, l3, l4] (.int a :: S) h Q := ax_iload_n mt204 dX12_goes_86 rfl
theorem s204_130 : aW d 204 130 [.ref o, l1, l2, l3, l4] S h Q = aW d 204 131 [.ref o, l1, l2, l3, l4] (.ref o :: S) h Q := ax_aload_n mt204 dX12_goes_130 rfl
theorem s204_131 : aW d 204 131 [.ref o, l1, l2, l3, l4] S h Q = aW d 204 132 [.ref o, l1, l2, l3, l4] (.ref o :: S) h Q := ax_aload_n mt204 dX12_goes_131 rfl
theorem s204_132 (hT : gT h o = some (14, 54)) : aW d 204 132 L (.ref o :: S) h Q = (isRf (gR h o 12) = true ∧ aW d 204 135 L (gR h o 12 :: S) h Q) := ax_geta mt204 dX12_goes_132 (by decide) ft_49190 fk_49190 hT
theorem s204_135 : aW d 204 135 [l0, .int a, l2, l3, l4] S h Q = aW d 204 136 [l0, .int a, l2, l3, l4] (.int a :: S) h Q := ax_iload_n mt204 dX12_goes_135 rfl
theorem s204_136 : aW d 204 136 L (.int a :: .ref o :: S) h Q = (inb a (aI h o) ∧ aW d 204 137 L (.int (gI h o a.toNatClampNeg) :: S) h Q) := ax_iald mt204 dX12_goes_136
theorem s204_137 (hT : gT h o = some (14, 54)) : aW (d + 1) 204 137 L (.int x0 :: .ref o :: []) h Q = aM d 202 (.ref o :: [.int x0]) h (fun v h1 => aW (d + 1) 204 140 L (ab_ps v []) h1 Q) := ax_invv mt204 dX12_goes_137 (by decide) ct_49457 (.inl rfl) mt202 ⟨⟨Nat.le_of_ble_eq_true rfl, Nat.le_of_ble_eq_true rfl, Nat.le_of_ble_eq_true rfl⟩, rfl, rfl, rfl⟩ hT
-- method 205: BufferRoomModel.go(I)I
theorem dX12_go_0 : decode cX12_go 0 = .ok (.iload_n 1, 1) := by decide +kernel
theorem dX12_go_1 : decode cX12_go 1 = .ok (.iconst 1, 1) := by decide +kernel
theorem dX12_go_2 : decode cX12_go 2 = .ok (.bipush 12, 2) := by decide +kernel
theorem dX12_go_4 : decode cX12_go 4 = .ok (.invokestatic 125, 3) := by decide +kernel
theorem dX12_go_7 : decode cX12_go 7 = .ok (.ifCond .ne 6, 3) := by decide +kernel
theorem dX12_go_10 : decode cX12_go 10 = .ok (.bipush (-2), 2) := by decide +kernel
theorem dX12_go_12 : decode cX12_go 12 = .ok (.ireturn, 1) := by decide +kernel
theorem dX12_go_13 : decode cX12_go 13 = .ok (.aload_n 0, 1) := by decide +kernel
theorem dX12_go_14 : decode cX12_go 14 = .ok (.invokevirtual 225, 3) := by decide +kernel
theorem dX12_go_17 : decode cX12_go 17 = .ok (.ifCond .eq 16, 3) := by decide +kernel
theorem dX12_go_20 : decode cX12_go 20 = .ok (.aload_n 0, 1) := by decide +kernel
theorem dX12_go_21 : decode cX12_go 21 = .ok (.getfield 190, 3) := by decide +kernel
theorem dX12_go_24 : decode cX12_go 24 = .ok (.iload_n 1, 1) := by decide +kernel
theorem dX12_go_25 : decode cX12_go 25 = .ok (.iadd, 1) := by decide +kernel
theorem dX12_go_26 : decode cX12_go 26 = .ok (.aload_n 0, 1) := by decide +kernel
theorem dX12_go_27 : decode cX12_go 27 = .ok (.getfield 165, 3) := by decide +kernel
theorem dX12_go_30 : decode cX12_go 30 = .ok (.if_icmp .le 6, 3) := by decide +kernel
theorem dX12_go_33 : decode cX12_go 33 = .ok (.bipush (-3), 2) := by decide +kernel
theorem dX12_go_35 : decode cX12_go 35 = .ok (.ireturn, 1) := by decide +kernel
theorem dX12_go_36 : decode cX12_go 36 = .ok (.iconst 0, 1) := by decide +kernel
theorem dX12_go_37 : decode cX12_go 37 = .ok (.istore_n 2, 1) := by decide +kernel
theorem dX12_go_38 : decode cX12_go 38 = .ok (.iload_n 2, 1) := by decide +kernel
theorem dX12_go_39 : decode cX12_go 39 = .ok (.iload_n 1, 1) := by decide +kernel
theorem dX12_go_40 : decode cX12_go 40 = .ok (.if_icmp .ge 13, 3) := by decide +kernel
theorem dX12_go_43 : decode cX12_go 43 = .ok (.aload_n 0, 1) := by decide +kernel
theorem dX12_go_44 : decode cX12_go 44 = .ok (.invokevirtual 314, 3) := by decide +kernel
theorem dX12_go_47 : decode cX12_go 47 = .ok (.iinc 2 1, 3) := by decide +kernel
theorem dX12_go_50 : decode cX12_go 50 = .ok (.goto (-12), 3) := by decide +kernel
theorem dX12_go_53 : decode cX12_go 53 = .ok (.aload_n 0, 1) := by decide +kernel
theorem dX12_go_54 : decode cX12_go 54 = .ok (.getfield 190, 3) := by decide +kernel
theorem dX12_go_57 : decode cX12_go 57 = .ok (.ireturn, 1) := by decide +kernel
theorem s205_0 : aW d 205 0 [l0, .int a, l2] S h Q = aW d 205 1 [l0, .int a, l2] (.int a :: S) h Q := ax_iload_n mt205 dX12_go_0 rfl
theorem s205_1 : aW d 205 1 L S h Q = aW d 205 2 L (.int (nI 1) :: S) h Q := ax_iconst mt205 dX12_go_1 ic_1
theorem s205_2 : aW d 205 2 L S h Q = aW d 205 4 L (.int (nI 12) :: S) h Q := ax_bipush mt205 dX12_go_2 bp_12
theorem s205_4 : aW (d + 1) 205 4 L (.int x2 :: .int x1 :: .int x0 :: []) h Q = aM d 139 [.int x0, .int x1, .int x2] h (fun v h1 => aW (d + 1) 205 7 L (ab_ps v []) h1 Q) := ax_invs mt205 dX12_go_4 (by decide) ct_49277 (.inl rfl) mt139 ⟨⟨Nat.le_of_ble_eq_true rfl, Nat.le_of_ble_eq_true rfl, Nat.le_of_ble_eq_true rfl⟩, rfl, rfl⟩
theorem s205_7 : aW d 205 7 L (.int a :: S) h Q = (if a = 0 then aW d 205 10 L S h Q else aW d 205 13 L S h Q) := ax_if_ne mt205 dX12_go_7 (by decide)
theorem s205_10 : aW d 205 10 L S h Q = aW d 205 12 L (.int ((-2)) :: S) h Q := ax_bipush mt205 dX12_go_10 bp_m2
theorem s205_12 : aW d 205 12 L [.int a] h Q = Q (some (.int a)) h := ax_reti mt205 dX12_go_12 rfl
theorem s205_13 : aW d 205 13 [.ref o, l1, l2] S h Q = aW d 205 14 [.ref o, l1, l2] (.ref o :: S) h Q := ax_aload_n mt205 dX12_go_13 rfl
theorem s205_14 (hT : gT h o = some (14, 54)) : aW (d + 1) 205 14 L (.ref o :: []) h Q = aM d 163 (.ref o :: []) h (fun v h1 => aW (d + 1) 205 17 L (ab_ps v []) h1 Q) := ax_invv mt205 dX12_go_14 (by decide) ct_49377 (.inl rfl) mt163 ⟨⟨Nat.le_of_ble_eq_true rfl, Nat.le_of_ble_eq_true rfl, Nat.le_of_ble_eq_true rfl⟩, rfl, rfl, rfl⟩ hT
theorem s205_17 : aW d 205 17 L (.int a :: S) h Q = (if a = 0 then aW d 205 33 L S h Q else aW d 205 20 L S h Q) := ax_if_eq mt205 dX12_go_17 (by decide)
theorem s205_20 : aW d 205 20 [.ref o, l1, l2] S h Q = aW d 205 21 [.ref o, l1, l2] (.ref o :: S) h Q := ax_aload_n mt205 dX12_go_20 rfl
theorem s205_21 (hT : gT h o = some (14, 54)) : aW d 205 21 L (.ref o :: S) h Q = aW d 205 24 L (.int (gI h o 32) :: S) h Q := ax_geti mt205 dX12_go_21 (by decide) ft_49342 fk_49342 hT
theorem s205_24 : aW d 205 24 [l0, .int a, l2] S h Q = aW d 205 25 [l0, .int a, l2] (.int a :: S) h Q := ax_iload_n mt205 dX12_go_24 rfl
theorem s205_25 : aW d 205 25 L (.int b :: .int a :: S) h Q = aW d 205 26 L (.int (a + b) :: S) h Q := ax_iadd mt205 dX12_go_25
theorem s205_26 : aW d 205 26 [.ref o, l1, l2] S h Q = aW d 205 27 [.ref o, l1, l2] (.ref o :: S) h Q := ax_aload_n mt205 dX12_go_26 rfl
theorem s205_27 (hT : gT h o = some (14, 54)) : aW d 205 27 L (.ref o :: S) h Q = aW d 205 30 L (.int (gI h o 4) :: S) h Q := ax_geti mt205 dX12_go_27 (by decide) ft_49317 fk_49317 hT
theorem s205_30 : aW d 205 30 L (.int b :: .int a :: S) h Q = (if b < a then aW d 205 33 L S h Q else aW d 205 36 L S h Q) := ax_icmp_le mt205 dX12_go_30 (by decide)
theorem s205_36 : aW d 205 36 L S h Q = aW d 205 37 L (.int (nI 0) :: S) h Q := ax_iconst mt205 dX12_go_36 ic_0
theorem s205_37 : aW d 205 37 [l0, l1, l2] (.int a :: S) h Q = aW d 205 38 [l0, l1, .int a] S h Q := ax_istore_n mt205 dX12_go_37 (Nat.le_of_ble_eq_true rfl) rfl
theorem s205_38 : aW d 205 38 [l0, l1, .int a] S h Q = aW d 205 39 [l0, l1, .int a] (.int a :: S) h Q := ax_iload_n mt205 dX12_go_38 rfl
theorem s205_39 : aW d 205 39 [l0, .int a, l2] S h Q = aW d 205 40 [l0, .int a, l2] (.int a :: S) h Q := ax_iload_n mt205 dX12_go_39 rfl
theorem s205_40 : aW d 205 40 L (.int b :: .int a :: S) h Q = (if a < b then aW d 205 43 L S h Q else aW d 205 53 L S h Q) := ax_icmp_ge mt205 dX12_go_40 (by decide)
theorem s205_43 : aW d 205 43 [.ref o, l1, l2] S h Q = aW d 205 44 [.ref o, l1, l2] (.ref o :: S) h Q := ax_aload_n mt205 dX12_go_43 rfl
theorem s205_44 (hT : gT h o = some (14, 54)) : aW (d + 1) 205 44 L (.ref o :: []) h Q = aM d 204 (.ref o :: []) h (fun v h1 => aW (d + 1) 205 47 L (ab_ps v []) h1 Q) := ax_invv mt205 dX12_go_44 (by decide) ct_49466 (.inl rfl) mt204 ⟨⟨Nat.le_of_ble_eq_true rfl, Nat.le_of_ble_eq_true rfl, Nat.le_of_ble_eq_true rfl⟩, rfl, rfl, rfl⟩ hT
theorem s205_47 : aW d 205 47 [l0, l1, .int a] S h Q = aW d 205 50 [l0, l1, .int (a + nI 1)] S h Q := ax_iinc mt205 dX12_go_47 rfl ic_1 rfl
theorem s205_50 : aW d 205 50 L S h Q = aW d 205 38 L S h Q := ax_goto mt205 dX12_go_50 (by decide)
theorem s205_53 : aW d 205 53 [.ref o, l1, l2] S h Q = aW d 205 54 [.ref o, l1, l2] (.ref o :: S) h Q := ax_aload_n mt205 dX12_go_53 rfl
theorem s205_54 (hT : gT h o = some (14, 54)) : aW d 205 54 L (.ref o :: S) h Q = aW d 205 57 L (.int (gI h o 32) :: S) h Q := ax_geti mt205 dX12_go_54 (by decide) ft_49342 fk_49342 hT
theorem s205_57 : aW d 205 57 L [.int a] h Q = Q (some (.int a)) h := ax_reti mt205 dX12_go_57 rfl
theorem s205_33 : aW d 205 33 L S h Q = aW d 205 35 L (.int ((-3)) :: S) h Q := ax_bipush mt205 dX12_go_33 bp_m3
theorem s205_35 : aW d 205 35 L [.int a] h Q = Q (some (.int a)) h := ax_reti mt205 dX12_go_35 rfl
-- method 206: BufferRoomModel.compact()I
theorem dX12_compact_0 : decode cX12_compact 0 = .ok (.iconst 0, 1) := by decide +kernel
theorem dX12_compact_1 : decode cX12_compact 1 = .ok (.istore_n 1, 1) := by decide +kernel
theorem dX12_compact_2 : decode cX12_compact 2 = .ok (.iconst 0, 1) := by decide +kernel
theorem dX12_compact_3 : decode cX12_compact 3 = .ok (.istore_n 2, 1) := by decide +kernel
theorem dX12_compact_4 : decode cX12_compact 4 = .ok (.iconst 0, 1) := by decide +kernel
theorem dX12_compact_5 : decode cX12_compact 5 = .ok (.istore_n 3, 1) := by decide +kernel
theorem dX12_compact_6 : decode cX12_compact 6 = .ok (.iconst 0, 1) := by decide +kernel
theorem dX12_compact_7 : decode cX12_compact 7 = .ok (.istore 4, 2) := by decide +kernel
theorem dX12_compact_9 : decode cX12_compact 9 = .ok (.iload 4, 2) := by decide +kernel
theorem dX12_compact_11 : decode cX12_compact 11 = .ok (.bipush 12, 2) := by decide +kernel
theorem dX12_compact_13 : decode cX12_compact 13 = .ok (.if_icmp .ge 143, 3) := by decide +kernel
theorem dX12_compact_16 : decode cX12_compact 16 = .ok (.iconst (-1), 1) := by decide +kernel
theorem dX12_compact_17 : decode cX12_compact 17 = .ok (.istore 5, 2) := by decide +kernel
theorem dX12_compact_19 : decode cX12_compact 19 = .ok (.iconst 0, 1) := by decide +kernel
theorem dX12_compact_20 : decode cX12_compact 20 = .ok (.istore 6, 2) := by decide +kernel
theorem dX12_compact_22 : decode cX12_compact 22 = .ok (.iload 6, 2) := by decide +kernel
theorem dX12_compact_24 : decode cX12_compact 24 = .ok (.bipush 12, 2) := by decide +kernel
theorem dX12_compact_26 : decode cX12_compact 26 = .ok (.if_icmp .ge 70, 3) := by decide +kernel
theorem dX12_compact_29 : decode cX12_compact 29 = .ok (.aload_n 0, 1) := by decide +kernel
theorem dX12_compact_30 : decode cX12_compact 30 = .ok (.getfield 86, 3) := by decide +kernel
theorem dX12_compact_33 : decode cX12_compact 33 = .ok (.iload 6, 2) := by decide +kernel
theorem dX12_compact_35 : decode cX12_compact 35 = .ok (.iaload, 1) := by decide +kernel
theorem dX12_compact_36 : decode cX12_compact 36 = .ok (.iconst (-1), 1) := by decide +kernel
theorem dX12_compact_37 : decode cX12_compact 37 = .ok (.if_icmp .eq 49, 3) := by decide +kernel
theorem dX12_compact_40 : decode cX12_compact 40 = .ok (.iload_n 3, 1) := by decide +kernel
theorem dX12_compact_41 : decode cX12_compact 41 = .ok (.iload 6, 2) := by decide +kernel
theorem dX12_compact_43 : decode cX12_compact 43 = .ok (.ishr, 1) := by decide +kernel
theorem dX12_compact_44 : decode cX12_compact 44 = .ok (.iconst 1, 1) := by decide +kernel
theorem dX12_compact_45 : decode cX12_compact 45 = .ok (.iand, 1) := by decide +kernel
theorem dX12_compact_46 : decode cX12_compact 46 = .ok (.ifCond .ne 40, 3) := by decide +kernel
theorem dX12_compact_49 : decode cX12_compact 49 = .ok (.iload 5, 2) := by decide +kernel
theorem dX12_compact_51 : decode cX12_compact 51 = .ok (.iconst (-1), 1) := by decide +kernel
theorem dX12_compact_52 : decode cX12_compact 52 = .ok (.if_icmp .eq 29, 3) := by decide +kernel
theorem dX12_compact_55 : decode cX12_compact 55 = .ok (.aload_n 0, 1) := by decide +kernel
theorem dX12_compact_56 : decode cX12_compact 56 = .ok (.getfield 86, 3) := by decide +kernel
theorem dX12_compact_59 : decode cX12_compact 59 = .ok (.iload 6, 2) := by decide +kernel
theorem dX12_compact_61 : decode cX12_compact 61 = .ok (.iaload, 1) := by decide +kernel
theorem dX12_compact_62 : decode cX12_compact 62 = .ok (.aload_n 0, 1) := by decide +kernel
theorem dX12_compact_63 : decode cX12_compact 63 = .ok (.getfield 86, 3) := by decide +kernel
theorem dX12_compact_66 : decode cX12_compact 66 = .ok (.iload 5, 2) := by decide +kernel
theorem dX12_compact_68 : decode cX12_compact 68 = .ok (.ifCond .ge 7, 3) := by decide +kernel
theorem dX12_compact_71 : decode cX12_compact 71 = .ok (.iconst 0, 1) := by decide +kernel
theorem dX12_compact_72 : decode cX12_compact 72 = .ok (.goto 5, 3) := by decide +kernel
theorem dX12_compact_75 : decode cX12_compact 75 = .ok (.iload 5, 2) := by decide +kernel
theorem dX12_compact_77 : decode cX12_compact 77 = .ok (.iaload, 1) := by decide +kernel
theorem dX12_compact_78 : decode cX12_compact 78 = .ok (.if_icmp .ge 8, 3) := by decide +kernel
theorem dX12_compact_81 : decode cX12_compact 81 = .ok (.iload 6, 2) := by decide +kernel
theorem dX12_compact_83 : decode cX12_compact 83 = .ok (.goto 5, 3) := by decide +kernel
theorem dX12_compact_86 : decode cX12_compact 86 = .ok (.iload 5, 2) := by decide +kernel
theorem dX12_compact_88 : decode cX12_compact 88 = .ok (.istore 5, 2) := by decide +kernel
theorem dX12_compact_90 : decode cX12_compact 90 = .ok (.iinc 6 1, 3) := by decide +kernel
theorem dX12_compact_93 : decode cX12_compact 93 = .ok (.goto (-71), 3) := by decide +kernel
theorem dX12_compact_96 : decode cX12_compact 96 = .ok (.iload 5, 2) := by decide +kernel
theorem dX12_compact_98 : decode cX12_compact 98 = .ok (.iconst (-1), 1) := by decide +kernel
theorem dX12_compact_99 : decode cX12_compact 99 = .ok (.if_icmp .eq 51, 3) := by decide +kernel
theorem dX12_compact_102 : decode cX12_compact 102 = .ok (.iload_n 3, 1) := by decide +kernel
theorem dX12_compact_103 : decode cX12_compact 103 = .ok (.iconst 1, 1) := by decide +kernel
theorem dX12_compact_104 : decode cX12_compact 104 = .ok (.iload 5, 2) := by decide +kernel
theorem dX12_compact_106 : decode cX12_compact 106 = .ok (.ishl, 1) := by decide +kernel
theorem dX12_compact_107 : decode cX12_compact 107 = .ok (.ior, 1) := by decide +kernel
theorem dX12_compact_108 : decode cX12_compact 108 = .ok (.istore_n 3, 1) := by decide +kernel
theorem dX12_compact_109 : decode cX12_compact 109 = .ok (.iload_n 1, 1) := by decide +kernel
theorem dX12_compact_110 : decode cX12_compact 110 = .ok (.aload_n 0, 1) := by decide +kernel
theorem dX12_compact_111 : decode cX12_compact 111 = .ok (.getfield 86, 3) := by decide +kernel
theorem dX12_compact_114 : decode cX12_compact 114 = .ok (.iload 5, 2) := by decide +kernel
theorem dX12_compact_116 : decode cX12_compact 116 = .ok (.iaload, 1) := by decide +kernel
theorem dX12_compact_117 : decode cX12_compact 117 = .ok (.iload_n 2, 1) := by decide +kernel
theorem dX12_compact_118 : decode cX12_compact 118 = .ok (.if_icmp .eq 12, 3) := by decide +kernel
theorem dX12_compact_121 : decode cX12_compact 121 = .ok (.aload_n 0, 1) := by decide +kernel
theorem dX12_compact_122 : decode cX12_compact 122 = .ok (.iload 5, 2) := by decide +kernel
theorem dX12_compact_124 : decode cX12_compact 124 = .ok (.invokevirtual 204, 3) := by decide +kernel
theorem dX12_compact_127 : decode cX12_compact 127 = .ok (.goto 4, 3) := by decide +kernel
theorem dX12_compact_130 : decode cX12_compact 130 = .ok (.iconst 0, 1) := by decide +kernel
theorem dX12_compact_131 : decode cX12_compact 131 = .ok (.iadd, 1) := by decide +kernel
theorem dX12_compact_132 : decode cX12_compact 132 = .ok (.istore_n 1, 1) := by decide +kernel
theorem dX12_compact_133 : decode cX12_compact 133 = .ok (.aload_n 0, 1) := by decide +kernel
theorem dX12_compact_134 : decode cX12_compact 134 = .ok (.getfield 86, 3) := by decide +kernel
theorem dX12_compact_137 : decode cX12_compact 137 = .ok (.iload 5, 2) := by decide +kernel
theorem dX12_compact_139 : decode cX12_compact 139 = .ok (.iload_n 2, 1) := by decide +kernel
theorem dX12_compact_140 : decode cX12_compact 140 = .ok (.iastore, 1) := by decide +kernel
theorem dX12_compact_141 : decode cX12_compact 141 = .ok (.iload_n 2, 1) := by decide +kernel
theorem dX12_compact_142 : decode cX12_compact 142 = .ok (.aload_n 0, 1) := by decide +kernel
theorem dX12_compact_143 : decode cX12_compact 143 = .ok (.iload 5, 2) := by decide +kernel
theorem dX12_compact_145 : decode cX12_compact 145 = .ok (.invokevirtual 204, 3) := by decide +kernel
theorem dX12_compact_148 : decode cX12_compact 148 = .ok (.iadd, 1) := by decide +kernel
theorem dX12_compact_149 : decode cX12_compact 149 = .ok (.istore_n 2, 1) := by decide +kernel
theorem dX12_compact_150 : decode cX12_compact 150 = .ok (.iinc 4 1, 3) := by decide +kernel
theorem dX12_compact_153 : decode cX12_compact 153 = .ok (.goto (-144), 3) := by decide +kernel
theorem dX12_compact_156 : decode cX12_compact 156 = .ok (.iload_n 1, 1) := by decide +kernel
theorem dX12_compact_157 : decode cX12_compact 157 = .ok (.ireturn, 1) := by decide +kernel
theorem s206_0 : aW d 206 0 L S h Q = aW d 206 1 L (.int (nI 0) :: S) h Q := ax_iconst mt206 dX12_compact_0 ic_0
theorem s206_1 : aW d 206 1 [l0, l1, l2, l3, l4, l5, l6] (.int a :: S) h Q = aW d 206 2 [l0, .int a, l2, l3, l4, l5, l6] S h Q := ax_istore_n mt206 dX12_compact_1 (Nat.le_of_ble_eq_true rfl) rfl
theorem s206_2 : aW d 206 2 L S h Q = aW d 206 3 L (.int (nI 0) :: S) h Q := ax_iconst mt206 dX12_compact_2 ic_0
theorem s206_3 : aW d 206 3 [l0, l1, l2, l3, l4, l5, l6] (.int a :: S) h Q = aW d 206 4 [l0, l1, .int a, l3, l4, l5, l6] S h Q := ax_istore_n mt206 dX12_compact_3 (Nat.le_of_ble_eq_true rfl) rfl
theorem s206_4 : aW d 206 4 L S h Q = aW d 206 5 L (.int (nI 0) :: S) h Q := ax_iconst mt206 dX12_compact_4 ic_0
theorem s206_5 : aW d 206 5 [l0, l1, l2, l3, l4, l5, l6] (.int a :: S) h Q = aW d 206 6 [l0, l1, l2, .int a, l4, l5, l6] S h Q := ax_istore_n mt206 dX12_compact_5 (Nat.le_of_ble_eq_true rfl) rfl
theorem s206_6 : aW d 206 6 L S h Q = aW d 206 7 L (.int (nI 0) :: S) h Q := ax_iconst mt206 dX12_compact_6 ic_0
theorem s206_7 : aW d 206 7 [l0, l1, l2, l3, l4, l5, l6] (.int a :: S) h Q = aW d 206 9 [l0, l1, l2, l3, .int a, l5, l6] S h Q := ax_istore mt206 dX12_compact_7 (Nat.le_of_ble_eq_true rfl) rfl
theorem s206_9 : aW d 206 9 [l0, l1, l2, l3, .int a, l5, l6] S h Q = aW d 206 11 [l0, l1, l2, l3, .int a, l5, l6] (.int a :: S) h Q := ax_iload mt206 dX12_compact_9 rfl
theorem s206_11 : aW d 206 11 L S h Q = aW d 206 13 L (.int (nI 12) :: S) h Q := ax_bipush mt206 dX12_compact_11 bp_12
theorem s206_13 : aW d 206 13 L (.int b :: .int a :: S) h Q = (if a < b then aW d 206 16 L S h Q else aW d 206 156 L S h Q) := ax_icmp_ge mt206 dX12_compact_13 (by decide)
theorem s206_16 : aW d 206 16 L S h Q = aW d 206 17 L (.int ((-1)) :: S) h Q := ax_iconst mt206 dX12_compact_16 ic_m1
theorem s206_17 : aW d 206 17 [l0, l1, l2, l3, l4, l5, l6] (.int a :: S) h Q = aW d 206 19 [l0, l1, l2, l3, l4, .int a, l6] S h Q := ax_istore mt206 dX12_compact_17 (Nat.le_of_ble_eq_true rfl) rfl
theorem s206_19 : aW d 206 19 L S h Q = aW d 206 20 L (.int (nI 0) :: S) h Q := ax_iconst mt206 dX12_compact_19 ic_0
theorem s206_20 : aW d 206 20 [l0, l1, l2, l3, l4, l5, l6] (.int a :: S) h Q = aW d 206 22 [l0, l1, l2, l3, l4, l5, .int a] S h Q := ax_istore mt206 dX12_compact_20 (Nat.le_of_ble_eq_true rfl) rfl
theorem s206_22 : aW d 206 22 [l0, l1, l2, l3, l4, l5, .int a] S h Q = aW d 206 24 [l0, l1, l2, l3, l4, l5, .int a] (.int a :: S) h Q := ax_iload mt206 dX12_compact_22 rfl
theorem s206_24 : aW d 206 24 L S h Q = aW d 206 26 L (.int (nI 12) :: S) h Q := ax_bipush mt206 dX12_compact_24 bp_12
theorem s206_26 : aW d 206 26 L (.int b :: .int a :: S) h Q = (if a < b then aW d 206 29 L S h Q else aW d 206 96 L S h Q) := ax_icmp_ge mt206 dX12_compact_26 (by decide)
theorem s206_29 : aW d 206 29 [.ref o, l1, l2, l3, l4, l5, l6] S h Q = aW d 206 30 [.ref o, l1, l2, l3, l4, l5, l6] (.ref o :: S) h Q := ax_aload_n mt206 dX12_compact_29 rfl
theorem s206_30 (hT : gT h o = some (14, 54)) : aW d 206 30 L (.ref o :: S) h Q = (isRf (gR h o 35) = true ∧ aW d 206 33 L (gR h o 35 :: S) h Q) := ax_geta mt206 dX12_compact_30 (by decide) ft_49238 fk_49238 hT
theorem s206_33 : aW d 206 33 [l0, l1, l2, l3, l4, l5, .int a] S h Q = aW d 206 35 [l0, l1, l2, l3, l4, l5, .int a] (.int a :: S) h Q := ax_iload mt206 dX12_compact_33 rfl
theorem s206_35 : aW d 206 35 L (.int a :: .ref o :: S) h Q = (inb a (aI h o) ∧ aW d 206 36 L (.int (gI h o a.toNatClampNeg) :: S) h Q) := ax_iald mt206 dX12_compact_35
theorem s206_36 : aW d 206 36 L S h Q = aW d 206 37 L (.int ((-1)) :: S) h Q := ax_iconst mt206 dX12_compact_36 ic_m1
theorem s206_37 : aW d 206 37 L (.int b :: .int a :: S) h Q = (if a = b then aW d 206 86 L S h Q else aW d 206 40 L S h Q) := ax_icmp_eq mt206 dX12_compact_37 (by decide)
theorem s206_40 : aW d 206 40 [l0, l1, l2, .int a, l4, l5, l6] S h Q = aW d 206 41 [l0, l1, l2, .int a, l4, l5, l6] (.int a :: S) h Q := ax_iload_n mt206 dX12_compact_40 rfl
theorem s206_41 : aW d 206 41 [l0, l1, l2, l3, l4, l5, .int a] S h Q = aW d 206 43 [l0, l1, l2, l3, l4, l5, .int a] (.int a :: S) h Q := ax_iload mt206 dX12_compact_41 rfl
theorem s206_43 : aW d 206 43 L (.int b :: .int a :: S) h Q = aW d 206 44 L (.int (a >>> (b &&& 31)) :: S) h Q := ax_ishr mt206 dX12_compact_43
theorem s206_44 : aW d 206 44 L S h Q = aW d 206 45 L (.int (nI 1) :: S) h Q := ax_iconst mt206 dX12_compact_44 ic_1
theorem s206_45 : aW d 206 45 L (.int b :: .int a :: S) h Q = aW d 206 46 L (.int (a &&& b) :: S) h Q := ax_iand mt206 dX12_compact_45
theorem s206_46 : aW d 206 46 L (.int a :: S) h Q = (if a = 0 then aW d 206 49 L S h Q else aW d 206 86 L S h Q) := ax_if_ne mt206 dX12_compact_46 (by decide)
theorem s206_49 : aW d 206 49 [l0, l1, l2, l3, l4, .int a, l6] S h Q = aW d 206 51 [l0, l1, l2, l3, l4, .int a, l6] (.int a :: S) h Q := ax_iload mt206 dX12_compact_49 rfl
theorem s206_51 : aW d 206 51 L S h Q = aW d 206 52 L (.int ((-1)) :: S) h Q := ax_iconst mt206 dX12_compact_51 ic_m1
theorem s206_52 : aW d 206 52 L (.int b :: .int a :: S) h Q = (if a = b then aW d 206 81 L S h Q else aW d 206 55 L S h Q) := ax_icmp_eq mt206 dX12_compact_52 (by decide)
theorem s206_55 : aW d 206 55 [.ref o, l1, l2, l3, l4, l5, l6] S h Q = aW d 206 56 [.ref o, l1, l2, l3, l4, l5, l6] (.ref o :: S) h Q := ax_aload_n mt206 dX12_compact_55 rfl
theorem s206_56 (hT : gT h o = some (14, 54)) : aW d 206 56 L (.ref o :: S) h Q = (isRf (gR h o 35) = true ∧ aW d 206 59 L (gR h o 35 :: S) h Q) := ax_geta mt206 dX12_compact_56 (by decide) ft_49238 fk_49238 hT
theorem s206_59 : aW d 206 59 [l0, l1, l2, l3, l4, l5, .int a] S h Q = aW d 206 61 [l0, l1, l2, l3, l4, l5, .int a] (.int a :: S) h Q := ax_iload mt206 dX12_compact_59 rfl
theorem s206_61 : aW d 206 61 L (.int a :: .ref o :: S) h Q = (inb a (aI h o) ∧ aW d 206 62 L (.int (gI h o a.toNatClampNeg) :: S) h Q) := ax_iald mt206 dX12_compact_61
theorem s206_62 : aW d 206 62 [.ref o, l1, l2, l3, l4, l5, l6] S h Q = aW d 206 63 [.ref o, l1, l2, l3, l4, l5, l6] (.ref o :: S) h Q := ax_aload_n mt206 dX12_compact_62 rfl
theorem s206_63 (hT : gT h o = some (14, 54)) : aW d 206 63 L (.ref o :: S) h Q = (isRf (gR h o 35) = true ∧ aW d 206 66 L (gR h o 35 :: S) h Q) := ax_geta mt206 dX12_compact_63 (by decide) ft_49238 fk_49238 hT
theorem s206_66 : aW d 206 66 [l0, l1, l2, l3, l4, .int a, l6] S h Q = aW d 206 68 [l0, l1, l2, l3, l4, .int a, l6] (.int a :: S) h Q := ax_iload mt206 dX12_compact_66 rfl
theorem s206_68 : aW d 206 68 L (.int a :: S) h Q = (if a < 0 then aW d 206 71 L S h Q else aW d 206 75 L S h Q) := ax_if_ge mt206 dX12_compact_68 (by decide)
theorem s206_71 : aW d 206 71 L S h Q = aW d 206 72 L (.int (nI 0) :: S) h Q := ax_iconst mt206 dX12_compact_71 ic_0
theorem s206_72 : aW d 206 72 L S h Q = aW d 206 77 L S h Q := ax_goto mt206 dX12_compact_72 (by decide)
theorem s206_77 : aW d 206 77 L (.int a :: .ref o :: S) h Q = (inb a (aI h o) ∧ aW d 206 78 L (.int (gI h o a.toNatClampNeg) :: S) h Q) := ax_iald mt206 dX12_compact_77
theorem s206_78 : aW d 206 78 L (.int b :: .int a :: S) h Q = (if a < b then aW d 206 81 L S h Q else aW d 206 86 L S h Q) := ax_icmp_ge mt206 dX12_compact_78 (by decide)
theorem s206_75 : aW d 206 75 [l0, l1, l2, l3, l4, .int a, l6] S h Q = aW d 206 77 [l0, l1, l2, l3, l4, .int a, l6] (.int a :: S) h Q := ax_iload mt206 dX12_compact_75 rfl
theorem s206_81 : aW d 206 81 [l0, l1, l2, l3, l4, l5, .int a] S h Q = aW d 206 83 [l0, l1, l2, l3, l4, l5, .int a] (.int a :: S) h Q := ax_iload mt206 dX12_compact_81 rfl
theorem s206_83 : aW d 206 83 L S h Q = aW d 206 88 L S h Q := ax_goto mt206 dX12_compact_83 (by decide)
theorem s206_88 : aW d 206 88 [l0, l1, l2, l3, l4, l5, l6] (.int a :: S) h Q = aW d 206 90 [l0, l1, l2, l3, l4, .int a, l6] S h Q := ax_istore mt206 dX12_compact_88 (Nat.le_of_ble_eq_true rfl) rfl
theorem s206_90 : aW d 206 90 [l0, l1, l2, l3, l4, l5, .int a] S h Q = aW d 206 93 [l0, l1, l2, l3, l4, l5, .int (a + nI 1)] S h Q := ax_iinc mt206 dX12_compact_90 rfl ic_1 rfl
theorem s206_93 : aW d 206 93 L S h Q = aW d 206 22 L S h Q := ax_goto mt206 dX12_compact_93 (by decide)
theorem s206_86 : aW d 206 86 [l0, l1, l2, l3, l4, .int a, l6] S h Q = aW d 206 88 [l0, l1, l2, l3, l4, .int a, l6] (.int a :: S) h Q := ax_iload mt206 dX12_compact_86 rfl
theorem s206_96 : aW d 206 96 [l0, l1, l2, l3, l4, .int a, l6] S h Q = aW d 206 98 [l0, l1, l2, l3, l4, .int a, l6] (.int a :: S) h Q := ax_iload mt206 dX12_compact_96 rfl
theorem s206_98 : aW d 206 98 L S h Q = aW d 206 99 L (.int ((-1)) :: S) h Q := ax_iconst mt206 dX12_compact_98 ic_m1
theorem s206_99 : aW d 206 99 L (.int b :: .int a :: S) h Q = (if a = b then aW d 206 150 L S h Q else aW d 206 102 L S h Q) := ax_icmp_eq mt206 dX12_compact_99 (by decide)
theorem s206_102 : aW d 206 102 [l0, l1, l2, .int a, l4, l5, l6] S h Q = aW d 206 103 [l0, l1, l2, .int a, l4, l5, l6] (.int a :: S) h Q := ax_iload_n mt206 dX12_compact_102 rfl
theorem s206_103 : aW d 206 103 L S h Q = aW d 206 104 L (.int (nI 1) :: S) h Q := ax_iconst mt206 dX12_compact_103 ic_1
theorem s206_104 : aW d 206 104 [l0, l1, l2, l3, l4, .int a, l6] S h Q = aW d 206 106 [l0, l1, l2, l3, l4, .int a, l6] (.int a :: S) h Q := ax_iload mt206 dX12_compact_104 rfl
theorem s206_106 : aW d 206 106 L (.int b :: .int a :: S) h Q = aW d 206 107 L (.int (a <<< (b &&& 31)) :: S) h Q := ax_ishl mt206 dX12_compact_106
theorem s206_107 : aW d 206 107 L (.int b :: .int a :: S) h Q = aW d 206 108 L (.int (a ||| b) :: S) h Q := ax_ior mt206 dX12_compact_107
theorem s206_108 : aW d 206 108 [l0, l1, l2, l3, l4, l5, l6] (.int a :: S) h Q = aW d 206 109 [l0, l1, l2, .int a, l4, l5, l6] S h Q := ax_istore_n mt206 dX12_compact_108 (Nat.le_of_ble_eq_true rfl) rfl
theorem s206_109 : aW d 206 109 [l0, .int a, l2, l3, l4, l5, l6] S h Q = aW d 206 110 [l0, .int a, l2, l3, l4, l5, l6] (.int a :: S) h Q := ax_iload_n mt206 dX12_compact_109 rfl
theorem s206_110 : aW d 206 110 [.ref o, l1, l2, l3, l4, l5, l6] S h Q = aW d 206 111 [.ref o, l1, l2, l3, l4, l5, l6] (.ref o :: S) h Q := ax_aload_n mt206 dX12_compact_110 rfl
theorem s206_111 (hT : gT h o = some (14, 54)) : aW d 206 111 L (.ref o :: S) h Q = (isRf (gR h o 35) = true ∧ aW d 206 114 L (gR h o 35 :: S) h Q) := ax_geta mt206 dX12_compact_111 (by decide) ft_49238 fk_49238 hT
theorem s206_114 : aW d 206 114 [l0, l1, l2, l3, l4, .int a, l6] S h Q = aW d 206 116 [l0, l1, l2, l3, l4, .int a, l6] (.int a :: S) h Q := ax_iload mt206 dX12_compact_114 rfl
theorem s206_116 : aW d 206 116 L (.int a :: .ref o :: S) h Q = (inb a (aI h o) ∧ aW d 206 117 L (.int (gI h o a.toNatClampNeg) :: S) h Q) := ax_iald mt206 dX12_compact_116
theorem s206_117 : aW d 206 117 [l0, l1, .int a, l3, l4, l5, l6] S h Q = aW d 206 118 [l0, l1, .int a, l3, l4, l5, l6] (.int a :: S) h Q := ax_iload_n mt206 dX12_compact_117 rfl
theorem s206_118 : aW d 206 118 L (.int b :: .int a :: S) h Q = (if a = b then aW d 206 130 L S h Q else aW d 206 121 L S h Q) := ax_icmp_eq mt206 dX12_compact_118 (by decide)
theorem s206_121 : aW d 206 121 [.ref o, l1, l2, l3, l4, l5, l6] S h Q = aW d 206 122 [.ref o, l1, l2, l3, l4, l5, l6] (.ref o :: S) h Q := ax_aload_n mt206 dX12_compact_121 rfl
theorem s206_122 : aW d 206 122 [l0, l1, l2, l3, l4, .int a, l6] S h Q = aW d 206 124 [l0, l1, l2, l3, l4, .int a, l6] (.int a :: S) h Q := ax_iload mt206 dX12_compact_122 rfl
theorem s206_124 (hT : gT h o = some (14, 54)) : aW (d + 1) 206 124 L (.int x0 :: .ref o :: [.int y0]) h Q = aM d 154 (.ref o :: [.int x0]) h (fun v h1 => aW (d + 1) 206 127 L (ab_ps v [.int y0]) h1 Q) := ax_invv mt206 dX12_compact_124 (by decide) ct_49356 (.inl rfl) mt154 ⟨⟨Nat.le_of_ble_eq_true rfl, Nat.le_of_ble_eq_true rfl, Nat.le_of_ble_eq_true rfl⟩, rfl, rfl, rfl⟩ hT
theorem s206_127 : aW d 206 127 L S h Q = aW d 206 131 L S h Q := ax_goto mt206 dX12_compact_127 (by decide)
theorem s206_131 : aW d 206 131 L (.int b :: .int a :: S) h Q = aW d 206 132 L (.int (a + b) :: S) h Q := ax_iadd mt206 dX12_compact_131
theorem s206_132 : aW d 206 132 [l0, l1, l2, l3, l4, l5, l6] (.int a :: S) h Q = aW d 206 133 [l0, .int a, l2, l3, l4, l5, l6] S h Q := ax_istore_n mt206 dX12_compact_132 (Nat.le_of_ble_eq_true rfl) rfl
theorem s206_133 : aW d 206 133 [.ref o, l1, l2, l3, l4, l5, l6] S h Q = aW d 206 134 [.ref o, l1, l2, l3, l4, l5, l6] (.ref o :: S) h Q := ax_aload_n mt206 dX12_compact_133 rfl
theorem s206_134 (hT : gT h o = some (14, 54)) : aW d 206 134 L (.ref o :: S) h Q = (isRf (gR h o 35) = true ∧ aW d 206 137 L (gR h o 35 :: S) h Q) := ax_geta mt206 dX12_compact_134 (by decide) ft_49238 fk_49238 hT
theorem s206_137 : aW d 206 137 [l0, l1, l2, l3, l4, .int a, l6] S h Q = aW d 206 139 [l0, l1, l2, l3, l4, .int a, l6] (.int a :: S) h Q := ax_iload mt206 dX12_compact_137 rfl
theorem s206_139 : aW d 206 139 [l0, l1, .int a, l3, l4, l5, l6] S h Q = aW d 206 140 [l0, l1, .int a, l3, l4, l5, l6] (.int a :: S) h Q := ax_iload_n mt206 dX12_compact_139 rfl
theorem s206_140 : aW d 206 140 L (.int b :: .int a :: .ref o :: S) h Q = (inb a (aJ h o) ∧ aW d 206 141 L S (pI h o a.toNatClampNeg b) Q) := ax_iast mt206 dX12_compact_140
theorem s206_141 : aW d 206 141 [l0, l1, .int a, l3, l4, l5, l6] S h Q = aW d 206 142 [l0, l1, .int a, l3, l4, l5, l6] (.int a :: S) h Q := ax_iload_n mt206 dX12_compact_141 rfl
theorem s206_142 : aW d 206 142 [.ref o, l1, l2, l3, l4, l5, l6] S h Q = aW d 206 143 [.ref o, l1, l2, l3, l4, l5, l6] (.ref o :: S) h Q := ax_aload_n mt206 dX12_compact_142 rfl
theorem s206_143 : aW d 206 143 [l0, l1, l2, l3, l4, .int a, l6] S h Q = aW d 206 145 [l0, l1, l2, l3, l4, .int a, l6] (.int a :: S) h Q := ax_iload mt206 dX12_compact_143 rfl
theorem s206_145 (hT : gT h o = some (14, 54)) : aW (d + 1) 206 145 L (.int x0 :: .ref o :: [.int y0]) h Q = aM d 154 (.ref o :: [.int x0]) h (fun v h1 => aW (d + 1) 206 148 L (ab_ps v [.int y0]) h1 Q) := ax_invv mt206 dX12_compact_145 (by decide) ct_49356 (.inl rfl) mt154 ⟨⟨Nat.le_of_ble_eq_true rfl, Nat.le_of_ble_eq_true rfl, Nat.le_of_ble_eq_true rfl⟩, rfl, rfl, rfl⟩ hT
theorem s206_148 : aW d 206 148 L (.int b :: .int a :: S) h Q = aW d 206 149 L (.int (a + b) :: S) h Q := ax_iadd mt206 dX12_compact_148
theorem s206_149 : aW d 206 149 [l0, l1, l2, l3, l4, l5, l6] (.int a :: S) h Q = aW d 206 150 [l0, l1, .int a, l3, l4, l5, l6] S h Q := ax_istore_n mt206 dX12_compact_149 (Nat.le_of_ble_eq_true rfl) rfl
theorem s206_130 : aW d 206 130 L S h Q = aW d 206 131 L (.int (nI 0) :: S) h Q := ax_iconst mt206 dX12_compact_130 ic_0
theorem s206_150 : aW d 206 150 [l0, l1, l2, l3, .int a, l5, l6] S h Q = aW d 206 153 [l0, l1, l2, l3, .int (a + nI 1), l5, l6] S h Q := ax_iinc mt206 dX12_compact_150 rfl ic_1 rfl
theorem s206_153 : aW d 206 153 L S h Q = aW d 206 9 L S h Q := ax_goto mt206 dX12_compact_153 (by decide)
theorem s206_156 : aW d 206 156 [l0, .int a, l2, l3, l4, l5, l6] S h Q = aW d 206 157 [l0, .int a, l2, l3, l4, l5, l6] (.int a :: S) h Q := ax_iload_n mt206 dX12_compact_156 rfl
theorem s206_157 : aW d 206 157 L [.int a] h Q = Q (some (.int a)) h := ax_reti mt206 dX12_compact_157 rfl
-- method 207: BufferRoomModel.roomTold(II)I
theorem dX12_roomTold_0 : decode cX12_roomTold 0 = .ok (.iload_n 1, 1) := by decide +kernel
theorem dX12_roomTold_1 : decode cX12_roomTold 1 = .ok (.tableswitch 75 0 4 #[35, 40, 45, 50, 70], 35) := by decide +kernel
theorem dX12_roomTold_36 : decode cX12_roomTold 36 = .ok (.aload_n 0, 1) := by decide +kernel
theorem dX12_roomTold_37 : decode cX12_roomTold 37 = .ok (.getfield 190, 3) := by decide +kernel
theorem dX12_roomTold_40 : decode cX12_roomTold 40 = .ok (.ireturn, 1) := by decide +kernel
theorem dX12_roomTold_41 : decode cX12_roomTold 41 = .ok (.aload_n 0, 1) := by decide +kernel
theorem dX12_roomTold_42 : decode cX12_roomTold 42 = .ok (.getfield 311, 3) := by decide +kernel
theorem dX12_roomTold_45 : decode cX12_roomTold 45 = .ok (.ireturn, 1) := by decide +kernel
theorem dX12_roomTold_46 : decode cX12_roomTold 46 = .ok (.aload_n 0, 1) := by decide +kernel
theorem dX12_roomTold_47 : decode cX12_roomTold 47 = .ok (.invokevirtual 308, 3) := by decide +kernel
theorem dX12_roomTold_50 : decode cX12_roomTold 50 = .ok (.ireturn, 1) := by decide +kernel
theorem dX12_roomTold_51 : decode cX12_roomTold 51 = .ok (.aload_n 0, 1) := by decide +kernel
theorem dX12_roomTold_52 : decode cX12_roomTold 52 = .ok (.iload_n 2, 1) := by decide +kernel
theorem dX12_roomTold_53 : decode cX12_roomTold 53 = .ok (.invokevirtual 240, 3) := by decide +kernel
theorem dX12_roomTold_56 : decode cX12_roomTold 56 = .ok (.ifCond .eq 12, 3) := by decide +kernel
theorem dX12_roomTold_59 : decode cX12_roomTold 59 = .ok (.aload_n 0, 1) := by decide +kernel
theorem dX12_roomTold_60 : decode cX12_roomTold 60 = .ok (.getfield 86, 3) := by decide +kernel
theorem dX12_roomTold_63 : decode cX12_roomTold 63 = .ok (.iload_n 2, 1) := by decide +kernel
theorem dX12_roomTold_64 : decode cX12_roomTold 64 = .ok (.iaload, 1) := by decide +kernel
theorem dX12_roomTold_65 : decode cX12_roomTold 65 = .ok (.goto 5, 3) := by decide +kernel
theorem dX12_roomTold_68 : decode cX12_roomTold 68 = .ok (.bipush (-5), 2) := by decide +kernel
theorem dX12_roomTold_70 : decode cX12_roomTold 70 = .ok (.ireturn, 1) := by decide +kernel
theorem dX12_roomTold_71 : decode cX12_roomTold 71 = .ok (.aload_n 0, 1) := by decide +kernel
theorem dX12_roomTold_72 : decode cX12_roomTold 72 = .ok (.getfield 296, 3) := by decide +kernel
theorem dX12_roomTold_75 : decode cX12_roomTold 75 = .ok (.ireturn, 1) := by decide +kernel
theorem dX12_roomTold_76 : decode cX12_roomTold 76 = .ok (.bipush (-7), 2) := by decide +kernel
theorem dX12_roomTold_78 : decode cX12_roomTold 78 = .ok (.ireturn, 1) := by decide +kernel
theorem s207_0 : aW d 207 0 [l0, .int a, l2] S h Q = aW d 207 1 [l0, .int a, l2] (.int a :: S) h Q := ax_iload_n mt207 dX12_roomTold_0 rfl
set_option maxRecDepth 100000 in
theorem s207_1 : aW d 207 1 L (.int a :: S) h Q = (if a = nI 0 then aW d 207 36 L S h Q else (if a = nI 1 then aW d 207 41 L S h Q else (if a = nI 2 then aW d 207 46 L S h Q else (if a = nI 3 then aW d 207 51 L S h Q else (if a = nI 4 then aW d 207 71 L S h Q else aW d 207 76 L S h Q))))) := by
  by_cases e0 : a = nI 0
  · rw [if_pos e0]
    subst e0
    exact ax_tabI (off := 35) mt207 dX12_roomTold_1 (by decide +kernel) (by decide +kernel) (by decide)
  rw [if_neg e0]
  have k0 := lv_neT e0 (show (nI 0 : Int32).toInt = 0 by decide +kernel)
  by_cases e1 : a = nI 1
  · rw [if_pos e1]
    subst e1
    exact ax_tabI (off := 40) mt207 dX12_roomTold_1 (by decide +kernel) (by decide +kernel) (by decide)
  rw [if_neg e1]
  have k1 := lv_neT e1 (show (nI 1 : Int32).toInt = 1 by decide +kernel)
  by_cases e2 : a = nI 2
  · rw [if_pos e2]
    subst e2
    exact ax_tabI (off := 45) mt207 dX12_roomTold_1 (by decide +kernel) (by decide +kernel) (by decide)
  rw [if_neg e2]
  have k2 := lv_neT e2 (show (nI 2 : Int32).toInt = 2 by decide +kernel)
  by_cases e3 : a = nI 3
  · rw [if_pos e3]
    subst e3
    exact ax_tabI (off := 50) mt207 dX12_roomTold_1 (by decide +kernel) (by decide +kernel) (by decide)
  rw [if_neg e3]
  have k3 := lv_neT e3 (show (nI 3 : Int32).toInt = 3 by decide +kernel)
  by_cases e4 : a = nI 4
  · rw [if_pos e4]
    subst e4
    exact ax_tabI (off := 70) mt207 dX12_roomTold_1 (by decide +kernel) (by decide +kernel) (by decide)
  rw [if_neg e4]
  have k4 := lv_neT e4 (show (nI 4 : Int32).toInt = 4 by decide +kernel)
  exact ax_tabO mt207 dX12_roomTold_1 (by omega) (by decide)
theorem s207_71 : aW d 207 71 [.ref o, l1, l2] S h Q = aW d 207 72 [.ref o, l1, l2] (.ref o :: S) h Q := ax_aload_n mt207 dX12_roomTold_71 rfl
theorem s207_72 (hT : gT h o = some (14, 54)) : aW d 207 72 L (.ref o :: S) h Q = aW d 207 75 L (.int (gI h o 34) :: S) h Q := ax_geti mt207 dX12_roomTold_72 (by decide) ft_49448 fk_49448 hT
theorem s207_75 : aW d 207 75 L [.int a] h Q = Q (some (.int a)) h := ax_reti mt207 dX12_roomTold_75 rfl
theorem s207_51 : aW d 207 51 [.ref o, l1, l2] S h Q = aW d 207 52 [.ref o, l1, l2] (.ref o :: S) h Q := ax_aload_n mt207 dX12_roomTold_51 rfl
theorem s207_52 : aW d 207 52 [l0, l1, .int a] S h Q = aW d 207 53 [l0, l1, .int a] (.int a :: S) h Q := ax_iload_n mt207 dX12_roomTold_52 rfl
theorem s207_53 (hT : gT h o = some (14, 54)) : aW (d + 1) 207 53 L (.int x0 :: .ref o :: []) h Q = aM d 153 (.ref o :: [.int x0]) h (fun v h1 => aW (d + 1) 207 56 L (ab_ps v []) h1 Q) := ax_invv mt207 dX12_roomTold_53 (by decide) ct_49392 (.inl rfl) mt153 ⟨⟨Nat.le_of_ble_eq_true rfl, Nat.le_of_ble_eq_true rfl, Nat.le_of_ble_eq_true rfl⟩, rfl, rfl, rfl⟩ hT
theorem s207_56 : aW d 207 56 L (.int a :: S) h Q = (if a = 0 then aW d 207 68 L S h Q else aW d 207 59 L S h Q) := ax_if_eq mt207 dX12_roomTold_56 (by decide)
theorem s207_59 : aW d 207 59 [.ref o, l1, l2] S h Q = aW d 207 60 [.ref o, l1, l2] (.ref o :: S) h Q := ax_aload_n mt207 dX12_roomTold_59 rfl
theorem s207_60 (hT : gT h o = some (14, 54)) : aW d 207 60 L (.ref o :: S) h Q = (isRf (gR h o 35) = true ∧ aW d 207 63 L (gR h o 35 :: S) h Q) := ax_geta mt207 dX12_roomTold_60 (by decide) ft_49238 fk_49238 hT
theorem s207_63 : aW d 207 63 [l0, l1, .int a] S h Q = aW d 207 64 [l0, l1, .int a] (.int a :: S) h Q := ax_iload_n mt207 dX12_roomTold_63 rfl
theorem s207_64 : aW d 207 64 L (.int a :: .ref o :: S) h Q = (inb a (aI h o) ∧ aW d 207 65 L (.int (gI h o a.toNatClampNeg) :: S) h Q) := ax_iald mt207 dX12_roomTold_64
theorem s207_65 : aW d 207 65 L S h Q = aW d 207 70 L S h Q := ax_goto mt207 dX12_roomTold_65 (by decide)
theorem s207_70 : aW d 207 70 L [.int a] h Q = Q (some (.int a)) h := ax_reti mt207 dX12_roomTold_70 rfl
theorem s207_68 : aW d 207 68 L S h Q = aW d 207 70 L (.int ((-5)) :: S) h Q := ax_bipush mt207 dX12_roomTold_68 bp_m5
theorem s207_46 : aW d 207 46 [.ref o, l1, l2] S h Q = aW d 207 47 [.ref o, l1, l2] (.ref o :: S) h Q := ax_aload_n mt207 dX12_roomTold_46 rfl
theorem s207_47 (hT : gT h o = some (14, 54)) : aW (d + 1) 207 47 L (.ref o :: []) h Q = aM d 200 (.ref o :: []) h (fun v h1 => aW (d + 1) 207 50 L (ab_ps v []) h1 Q) := ax_invv mt207 dX12_roomTold_47 (by decide) ct_49460 (.inl rfl) mt200 ⟨⟨Nat.le_of_ble_eq_true rfl, Nat.le_of_ble_eq_true rfl, Nat.le_of_ble_eq_true rfl⟩, rfl, rfl, rfl⟩ hT
theorem s207_50 : aW d 207 50 L [.int a] h Q = Q (some (.int a)) h := ax_reti mt207 dX12_roomTold_50 rfl
theorem s207_41 : aW d 207 41 [.ref o, l1, l2] S h Q = aW d 207 42 [.ref o, l1, l2] (.ref o :: S) h Q := ax_aload_n mt207 dX12_roomTold_41 rfl
theorem s207_42 (hT : gT h o = some (14, 54)) : aW d 207 42 L (.ref o :: S) h Q = aW d 207 45 L (.int (gI h o 33) :: S) h Q := ax_geti mt207 dX12_roomTold_42 (by decide) ft_49463 fk_49463 hT
theorem s207_45 : aW d 207 45 L [.int a] h Q = Q (some (.int a)) h := ax_reti mt207 dX12_roomTold_45 rfl
theorem s207_36 : aW d 207 36 [.ref o, l1, l2] S h Q = aW d 207 37 [.ref o, l1, l2] (.ref o :: S) h Q := ax_aload_n mt207 dX12_roomTold_36 rfl
theorem s207_37 (hT : gT h o = some (14, 54)) : aW d 207 37 L (.ref o :: S) h Q = aW d 207 40 L (.int (gI h o 32) :: S) h Q := ax_geti mt207 dX12_roomTold_37 (by decide) ft_49342 fk_49342 hT
theorem s207_40 : aW d 207 40 L [.int a] h Q = Q (some (.int a)) h := ax_reti mt207 dX12_roomTold_40 rfl
theorem s207_76 : aW d 207 76 L S h Q = aW d 207 78 L (.int ((-7)) :: S) h Q := ax_bipush mt207 dX12_roomTold_76 bp_m7
theorem s207_78 : aW d 207 78 L [.int a] h Q = Q (some (.int a)) h := ax_reti mt207 dX12_roomTold_78 rfl
-- method 208: BufferRoomModel.holder(I)I
theorem dX12_holder_0 : decode cX12_holder 0 = .ok (.iload_n 1, 1) := by decide +kernel
theorem dX12_holder_1 : decode cX12_holder 1 = .ok (.iconst 0, 1) := by decide +kernel
theorem dX12_holder_2 : decode cX12_holder 2 = .ok (.ldc_w 271, 3) := by decide +kernel
theorem dX12_holder_5 : decode cX12_holder 5 = .ok (.invokestatic 125, 3) := by decide +kernel
theorem dX12_holder_8 : decode cX12_holder 8 = .ok (.ifCond .ne 6, 3) := by decide +kernel
theorem dX12_holder_11 : decode cX12_holder 11 = .ok (.bipush (-2), 2) := by decide +kernel
theorem dX12_holder_13 : decode cX12_holder 13 = .ok (.ireturn, 1) := by decide +kernel
theorem dX12_holder_14 : decode cX12_holder 14 = .ok (.iconst 0, 1) := by decide +kernel
theorem dX12_holder_15 : decode cX12_holder 15 = .ok (.istore_n 2, 1) := by decide +kernel
theorem dX12_holder_16 : decode cX12_holder 16 = .ok (.iload_n 2, 1) := by decide +kernel
theorem dX12_holder_17 : decode cX12_holder 17 = .ok (.bipush 12, 2) := by decide +kernel
theorem dX12_holder_19 : decode cX12_holder 19 = .ok (.if_icmp .ge 47, 3) := by decide +kernel
theorem dX12_holder_22 : decode cX12_holder 22 = .ok (.aload_n 0, 1) := by decide +kernel
theorem dX12_holder_23 : decode cX12_holder 23 = .ok (.getfield 86, 3) := by decide +kernel
theorem dX12_holder_26 : decode cX12_holder 26 = .ok (.iload_n 2, 1) := by decide +kernel
theorem dX12_holder_27 : decode cX12_holder 27 = .ok (.iaload, 1) := by decide +kernel
theorem dX12_holder_28 : decode cX12_holder 28 = .ok (.iconst (-1), 1) := by decide +kernel
theorem dX12_holder_29 : decode cX12_holder 29 = .ok (.if_icmp .eq 31, 3) := by decide +kernel
theorem dX12_holder_32 : decode cX12_holder 32 = .ok (.iload_n 1, 1) := by decide +kernel
theorem dX12_holder_33 : decode cX12_holder 33 = .ok (.aload_n 0, 1) := by decide +kernel
theorem dX12_holder_34 : decode cX12_holder 34 = .ok (.getfield 86, 3) := by decide +kernel
theorem dX12_holder_37 : decode cX12_holder 37 = .ok (.iload_n 2, 1) := by decide +kernel
theorem dX12_holder_38 : decode cX12_holder 38 = .ok (.iaload, 1) := by decide +kernel
theorem dX12_holder_39 : decode cX12_holder 39 = .ok (.if_icmp .lt 21, 3) := by decide +kernel
theorem dX12_holder_42 : decode cX12_holder 42 = .ok (.iload_n 1, 1) := by decide +kernel
theorem dX12_holder_43 : decode cX12_holder 43 = .ok (.aload_n 0, 1) := by decide +kernel
theorem dX12_holder_44 : decode cX12_holder 44 = .ok (.getfield 86, 3) := by decide +kernel
theorem dX12_holder_47 : decode cX12_holder 47 = .ok (.iload_n 2, 1) := by decide +kernel
theorem dX12_holder_48 : decode cX12_holder 48 = .ok (.iaload, 1) := by decide +kernel
theorem dX12_holder_49 : decode cX12_holder 49 = .ok (.aload_n 0, 1) := by decide +kernel
theorem dX12_holder_50 : decode cX12_holder 50 = .ok (.iload_n 2, 1) := by decide +kernel
theorem dX12_holder_51 : decode cX12_holder 51 = .ok (.invokevirtual 204, 3) := by decide +kernel
theorem dX12_holder_54 : decode cX12_holder 54 = .ok (.iadd, 1) := by decide +kernel
theorem dX12_holder_55 : decode cX12_holder 55 = .ok (.if_icmp .ge 5, 3) := by decide +kernel
theorem dX12_holder_58 : decode cX12_holder 58 = .ok (.iload_n 2, 1) := by decide +kernel
theorem dX12_holder_59 : decode cX12_holder 59 = .ok (.ireturn, 1) := by decide +kernel
theorem dX12_holder_60 : decode cX12_holder 60 = .ok (.iinc 2 1, 3) := by decide +kernel
theorem dX12_holder_63 : decode cX12_holder 63 = .ok (.goto (-47), 3) := by decide +kernel
theorem dX12_holder_66 : decode cX12_holder 66 = .ok (.iconst (-1), 1) := by decide +kernel
theorem dX12_holder_67 : decode cX12_holder 67 = .ok (.ireturn, 1) := by decide +kernel
theorem s208_0 : aW d 208 0 [l0, .int a, l2] S h Q = aW d 208 1 [l0, .int a, l2] (.int a :: S) h Q := ax_iload_n mt208 dX12_holder_0 rfl
theorem s208_1 : aW d 208 1 L S h Q = aW d 208 2 L (.int (nI 0) :: S) h Q := ax_iconst mt208 dX12_holder_1 ic_0
theorem s208_2 : aW d 208 2 L S h Q = aW d 208 5 L (.int 99999 :: S) h Q := ax_ldc_w mt208 dX12_holder_2 (by decide) kt_49423
theorem s208_5 : aW (d + 1) 208 5 L (.int x2 :: .int x1 :: .int x0 :: []) h Q = aM d 139 [.int x0, .int x1, .int x2] h (fun v h1 => aW (d + 1) 208 8 L (ab_ps v []) h1 Q) := ax_invs mt208 dX12_holder_5 (by decide) ct_49277 (.inl rfl) mt139 ⟨⟨Nat.le_of_ble_eq_true rfl, Nat.le_of_ble_eq_true rfl, Nat.le_of_ble_eq_true rfl⟩, rfl, rfl⟩
theorem s208_8 : aW d 208 8 L (.int a :: S) h Q = (if a = 0 then aW d 208 11 L S h Q else aW d 208 14 L S h Q) := ax_if_ne mt208 dX12_holder_8 (by decide)
theorem s208_11 : aW d 208 11 L S h Q = aW d 208 13 L (.int ((-2)) :: S) h Q := ax_bipush mt208 dX12_holder_11 bp_m2
theorem s208_13 : aW d 208 13 L [.int a] h Q = Q (some (.int a)) h := ax_reti mt208 dX12_holder_13 rfl
theorem s208_14 : aW d 208 14 L S h Q = aW d 208 15 L (.int (nI 0) :: S) h Q := ax_iconst mt208 dX12_holder_14 ic_0
theorem s208_15 : aW d 208 15 [l0, l1, l2] (.int a :: S) h Q = aW d 208 16 [l0, l1, .int a] S h Q := ax_istore_n mt208 dX12_holder_15 (Nat.le_of_ble_eq_true rfl) rfl
theorem s208_16 : aW d 208 16 [l0, l1, .int a] S h Q = aW d 208 17 [l0, l1, .int a] (.int a :: S) h Q := ax_iload_n mt208 dX12_holder_16 rfl
theorem s208_17 : aW d 208 17 L S h Q = aW d 208 19 L (.int (nI 12) :: S) h Q := ax_bipush mt208 dX12_holder_17 bp_12
theorem s208_19 : aW d 208 19 L (.int b :: .int a :: S) h Q = (if a < b then aW d 208 22 L S h Q else aW d 208 66 L S h Q) := ax_icmp_ge mt208 dX12_holder_19 (by decide)
theorem s208_22 : aW d 208 22 [.ref o, l1, l2] S h Q = aW d 208 23 [.ref o, l1, l2] (.ref o :: S) h Q := ax_aload_n mt208 dX12_holder_22 rfl
theorem s208_23 (hT : gT h o = some (14, 54)) : aW d 208 23 L (.ref o :: S) h Q = (isRf (gR h o 35) = true ∧ aW d 208 26 L (gR h o 35 :: S) h Q) := ax_geta mt208 dX12_holder_23 (by decide) ft_49238 fk_49238 hT
theorem s208_26 : aW d 208 26 [l0, l1, .int a] S h Q = aW d 208 27 [l0, l1, .int a] (.int a :: S) h Q := ax_iload_n mt208 dX12_holder_26 rfl
theorem s208_27 : aW d 208 27 L (.int a :: .ref o :: S) h Q = (inb a (aI h o) ∧ aW d 208 28 L (.int (gI h o a.toNatClampNeg) :: S) h Q) := ax_iald mt208 dX12_holder_27
theorem s208_28 : aW d 208 28 L S h Q = aW d 208 29 L (.int ((-1)) :: S) h Q := ax_iconst mt208 dX12_holder_28 ic_m1
theorem s208_29 : aW d 208 29 L (.int b :: .int a :: S) h Q = (if a = b then aW d 208 60 L S h Q else aW d 208 32 L S h Q) := ax_icmp_eq mt208 dX12_holder_29 (by decide)
theorem s208_32 : aW d 208 32 [l0, .int a, l2] S h Q = aW d 208 33 [l0, .int a, l2] (.int a :: S) h Q := ax_iload_n mt208 dX12_holder_32 rfl
theorem s208_33 : aW d 208 33 [.ref o, l1, l2] S h Q = aW d 208 34 [.ref o, l1, l2] (.ref o :: S) h Q := ax_aload_n mt208 dX12_holder_33 rfl
theorem s208_34 (hT : gT h o = some (14, 54)) : aW d 208 34 L (.ref o :: S) h Q = (isRf (gR h o 35) = true ∧ aW d 208 37 L (gR h o 35 :: S) h Q) := ax_geta mt208 dX12_holder_34 (by decide) ft_49238 fk_49238 hT
theorem s208_37 : aW d 208 37 [l0, l1, .int a] S h Q = aW d 208 38 [l0, l1, .int a] (.int a :: S) h Q := ax_iload_n mt208 dX12_holder_37 rfl
theorem s208_38 : aW d 208 38 L (.int a :: .ref o :: S) h Q = (inb a (aI h o) ∧ aW d 208 39 L (.int (gI h o a.toNatClampNeg) :: S) h Q) := ax_iald mt208 dX12_holder_38
theorem s208_39 : aW d 208 39 L (.int b :: .int a :: S) h Q = (if a < b then aW d 208 60 L S h Q else aW d 208 42 L S h Q) := ax_icmp_lt mt208 dX12_holder_39 (by decide)
theorem s208_42 : aW d 208 42 [l0, .int a, l2] S h Q = aW d 208 43 [l0, .int a, l2] (.int a :: S) h Q := ax_iload_n mt208 dX12_holder_42 rfl
theorem s208_43 : aW d 208 43 [.ref o, l1, l2] S h Q = aW d 208 44 [.ref o, l1, l2] (.ref o :: S) h Q := ax_aload_n mt208 dX12_holder_43 rfl
theorem s208_44 (hT : gT h o = some (14, 54)) : aW d 208 44 L (.ref o :: S) h Q = (isRf (gR h o 35) = true ∧ aW d 208 47 L (gR h o 35 :: S) h Q) := ax_geta mt208 dX12_holder_44 (by decide) ft_49238 fk_49238 hT
theorem s208_47 : aW d 208 47 [l0, l1, .int a] S h Q = aW d 208 48 [l0, l1, .int a] (.int a :: S) h Q := ax_iload_n mt208 dX12_holder_47 rfl
theorem s208_48 : aW d 208 48 L (.int a :: .ref o :: S) h Q = (inb a (aI h o) ∧ aW d 208 49 L (.int (gI h o a.toNatClampNeg) :: S) h Q) := ax_iald mt208 dX12_holder_48
theorem s208_49 : aW d 208 49 [.ref o, l1, l2] S h Q = aW d 208 50 [.ref o, l1, l2] (.ref o :: S) h Q := ax_aload_n mt208 dX12_holder_49 rfl
theorem s208_50 : aW d 208 50 [l0, l1, .int a] S h Q = aW d 208 51 [l0, l1, .int a] (.int a :: S) h Q := ax_iload_n mt208 dX12_holder_50 rfl
theorem s208_51 (hT : gT h o = some (14, 54)) : aW (d + 1) 208 51 L (.int x0 :: .ref o :: [.int y0, .int y1]) h Q = aM d 154 (.ref o :: [.int x0]) h (fun v h1 => aW (d + 1) 208 54 L (ab_ps v [.int y0, .int y1]) h1 Q) := ax_invv mt208 dX12_holder_51 (by decide) ct_49356 (.inl rfl) mt154 ⟨⟨Nat.le_of_ble_eq_true rfl, Nat.le_of_ble_eq_true rfl, Nat.le_of_ble_eq_true rfl⟩, rfl, rfl, rfl⟩ hT
theorem s208_54 : aW d 208 54 L (.int b :: .int a :: S) h Q = aW d 208 55 L (.int (a + b) :: S) h Q := ax_iadd mt208 dX12_holder_54
theorem s208_55 : aW d 208 55 L (.int b :: .int a :: S) h Q = (if a < b then aW d 208 58 L S h Q else aW d 208 60 L S h Q) := ax_icmp_ge mt208 dX12_holder_55 (by decide)
theorem s208_58 : aW d 208 58 [l0, l1, .int a] S h Q = aW d 208 59 [l0, l1, .int a] (.int a :: S) h Q := ax_iload_n mt208 dX12_holder_58 rfl
theorem s208_59 : aW d 208 59 L [.int a] h Q = Q (some (.int a)) h := ax_reti mt208 dX12_holder_59 rfl
theorem s208_60 : aW d 208 60 [l0, l1, .int a] S h Q = aW d 208 63 [l0, l1, .int (a + nI 1)] S h Q := ax_iinc mt208 dX12_holder_60 rfl ic_1 rfl
theorem s208_63 : aW d 208 63 L S h Q = aW d 208 16 L S h Q := ax_goto mt208 dX12_holder_63 (by decide)
theorem s208_66 : aW d 208 66 L S h Q = aW d 208 67 L (.int ((-1)) :: S) h Q := ax_iconst mt208 dX12_holder_66 ic_m1
theorem s208_67 : aW d 208 67 L [.int a] h Q = Q (some (.int a)) h := ax_reti mt208 dX12_holder_67 rfl
-- method 209: BufferRoomModel.again()I
theorem dX12_again_0 : decode cX12_again 0 = .ok (.aload_n 0, 1) := by decide +kernel
theorem dX12_again_1 : decode cX12_again 1 = .ok (.getfield 190, 3) := by decide +kernel
theorem dX12_again_4 : decode cX12_again 4 = .ok (.istore_n 1, 1) := by decide +kernel
theorem dX12_again_5 : decode cX12_again 5 = .ok (.aload_n 0, 1) := by decide +kernel
theorem dX12_again_6 : decode cX12_again 6 = .ok (.iconst 0, 1) := by decide +kernel
theorem dX12_again_7 : decode cX12_again 7 = .ok (.putfield 190, 3) := by decide +kernel
theorem dX12_again_10 : decode cX12_again 10 = .ok (.aload_n 0, 1) := by decide +kernel
theorem dX12_again_11 : decode cX12_again 11 = .ok (.iconst 0, 1) := by decide +kernel
theorem dX12_again_12 : decode cX12_again 12 = .ok (.putfield 311, 3) := by decide +kernel
theorem dX12_again_15 : decode cX12_again 15 = .ok (.iconst 0, 1) := by decide +kernel
theorem dX12_again_16 : decode cX12_again 16 = .ok (.istore_n 2, 1) := by decide +kernel
theorem dX12_again_17 : decode cX12_again 17 = .ok (.iload_n 2, 1) := by decide +kernel
theorem dX12_again_18 : decode cX12_again 18 = .ok (.bipush 12, 2) := by decide +kernel
theorem dX12_again_20 : decode cX12_again 20 = .ok (.if_icmp .ge 16, 3) := by decide +kernel
theorem dX12_again_23 : decode cX12_again 23 = .ok (.aload_n 0, 1) := by decide +kernel
theorem dX12_again_24 : decode cX12_again 24 = .ok (.getfield 86, 3) := by decide +kernel
theorem dX12_again_27 : decode cX12_again 27 = .ok (.iload_n 2, 1) := by decide +kernel
theorem dX12_again_28 : decode cX12_again 28 = .ok (.iconst (-1), 1) := by decide +kernel
theorem dX12_again_29 : decode cX12_again 29 = .ok (.iastore, 1) := by decide +kernel
theorem dX12_again_30 : decode cX12_again 30 = .ok (.iinc 2 1, 3) := by decide +kernel
theorem dX12_again_33 : decode cX12_again 33 = .ok (.goto (-16), 3) := by decide +kernel
theorem dX12_again_36 : decode cX12_again 36 = .ok (.iload_n 1, 1) := by decide +kernel
theorem dX12_again_37 : decode cX12_again 37 = .ok (.ireturn, 1) := by decide +kernel
theorem s209_0 : aW d 209 0 [.ref o, l1, l2] S h Q = aW d 209 1 [.ref o, l1, l2] (.ref o :: S) h Q := ax_aload_n mt209 dX12_again_0 rfl
theorem s209_1 (hT : gT h o = some (14, 54)) : aW d 209 1 L (.ref o :: S) h Q = aW d 209 4 L (.int (gI h o 32) :: S) h Q := ax_geti mt209 dX12_again_1 (by decide) ft_49342 fk_49342 hT
theorem s209_4 : aW d 209 4 [l0, l1, l2] (.int a :: S) h Q = aW d 209 5 [l0, .int a, l2] S h Q := ax_istore_n mt209 dX12_again_4 (Nat.le_of_ble_eq_true rfl) rfl
theorem s209_5 : aW d 209 5 [.ref o, l1, l2] S h Q = aW d 209 6 [.ref o, l1, l2] (.ref o :: S) h Q := ax_aload_n mt209 dX12_again_5 rfl
theorem s209_6 : aW d 209 6 L S h Q = aW d 209 7 L (.int (nI 0) :: S) h Q := ax_iconst mt209 dX12_again_6 ic_0
theorem s209_7 (hT : gT h o = some (14, 54)) : aW d 209 7 L (.int a :: .ref o :: S) h Q = aW d 209 10 L S (pI h o 32 a) Q := ax_puti mt209 dX12_again_7 (by decide) ft_49342 (fun q => fn_49342 q.1) fp_49342 hT
theorem s209_10 : aW d 209 10 [.ref o, l1, l2] S h Q = aW d 209 11 [.ref o, l1, l2] (.ref o :: S) h Q := ax_aload_n mt209 dX12_again_10 rfl
theorem s209_11 : aW d 209 11 L S h Q = aW d 209 12 L (.int (nI 0) :: S) h Q := ax_iconst mt209 dX12_again_11 ic_0
theorem s209_12 (hT : gT h o = some (14, 54)) : aW d 209 12 L (.int a :: .ref o :: S) h Q = aW d 209 15 L S (pI h o 33 a) Q := ax_puti mt209 dX12_again_12 (by decide) ft_49463 (fun q => fn_49463 q.1) fp_49463 hT
theorem s209_15 : aW d 209 15 L S h Q = aW d 209 16 L (.int (nI 0) :: S) h Q := ax_iconst mt209 dX12_again_15 ic_0
theorem s209_16 : aW d 209 16 [l0, l1, l2] (.int a :: S) h Q = aW d 209 17 [l0, l1, .int a] S h Q := ax_istore_n mt209 dX12_again_16 (Nat.le_of_ble_eq_true rfl) rfl
theorem s209_17 : aW d 209 17 [l0, l1, .int a] S h Q = aW d 209 18 [l0, l1, .int a] (.int a :: S) h Q := ax_iload_n mt209 dX12_again_17 rfl
theorem s209_18 : aW d 209 18 L S h Q = aW d 209 20 L (.int (nI 12) :: S) h Q := ax_bipush mt209 dX12_again_18 bp_12
theorem s209_20 : aW d 209 20 L (.int b :: .int a :: S) h Q = (if a < b then aW d 209 23 L S h Q else aW d 209 36 L S h Q) := ax_icmp_ge mt209 dX12_again_20 (by decide)
theorem s209_23 : aW d 209 23 [.ref o, l1, l2] S h Q = aW d 209 24 [.ref o, l1, l2] (.ref o :: S) h Q := ax_aload_n mt209 dX12_again_23 rfl
theorem s209_24 (hT : gT h o = some (14, 54)) : aW d 209 24 L (.ref o :: S) h Q = (isRf (gR h o 35) = true ∧ aW d 209 27 L (gR h o 35 :: S) h Q) := ax_geta mt209 dX12_again_24 (by decide) ft_49238 fk_49238 hT
theorem s209_27 : aW d 209 27 [l0, l1, .int a] S h Q = aW d 209 28 [l0, l1, .int a] (.int a :: S) h Q := ax_iload_n mt209 dX12_again_27 rfl
theorem s209_28 : aW d 209 28 L S h Q = aW d 209 29 L (.int ((-1)) :: S) h Q := ax_iconst mt209 dX12_again_28 ic_m1
theorem s209_29 : aW d 209 29 L (.int b :: .int a :: .ref o :: S) h Q = (inb a (aJ h o) ∧ aW d 209 30 L S (pI h o a.toNatClampNeg b) Q) := ax_iast mt209 dX12_again_29
theorem s209_30 : aW d 209 30 [l0, l1, .int a] S h Q = aW d 209 33 [l0, l1, .int (a + nI 1)] S h Q := ax_iinc mt209 dX12_again_30 rfl ic_1 rfl
theorem s209_33 : aW d 209 33 L S h Q = aW d 209 17 L S h Q := ax_goto mt209 dX12_again_33 (by decide)
theorem s209_36 : aW d 209 36 [l0, .int a, l2] S h Q = aW d 209 37 [l0, .int a, l2] (.int a :: S) h Q := ax_iload_n mt209 dX12_again_36 rfl
theorem s209_37 : aW d 209 37 L [.int a] h Q = Q (some (.int a)) h := ax_reti mt209 dX12_again_37 rfl
-- method 210: BufferRoomModel.image()I
theorem dX12_image_0 : decode cX12_image 0 = .ok (.aload_n 0, 1) := by decide +kernel
theorem dX12_image_1 : decode cX12_image 1 = .ok (.iconst 1, 1) := by decide +kernel
theorem dX12_image_2 : decode cX12_image 2 = .ok (.putfield 184, 3) := by decide +kernel
theorem dX12_image_5 : decode cX12_image 5 = .ok (.aload_n 0, 1) := by decide +kernel
theorem dX12_image_6 : decode cX12_image 6 = .ok (.aload_n 0, 1) := by decide +kernel
theorem dX12_image_7 : decode cX12_image 7 = .ok (.getfield 190, 3) := by decide +kernel
theorem dX12_image_10 : decode cX12_image 10 = .ok (.putfield 317, 3) := by decide +kernel
theorem dX12_image_13 : decode cX12_image 13 = .ok (.aload_n 0, 1) := by decide +kernel
theorem dX12_image_14 : decode cX12_image 14 = .ok (.aload_n 0, 1) := by decide +kernel
theorem dX12_image_15 : decode cX12_image 15 = .ok (.getfield 311, 3) := by decide +kernel
theorem dX12_image_18 : decode cX12_image 18 = .ok (.putfield 320, 3) := by decide +kernel
theorem dX12_image_21 : decode cX12_image 21 = .ok (.aload_n 0, 1) := by decide +kernel
theorem dX12_image_22 : decode cX12_image 22 = .ok (.aload_n 0, 1) := by decide +kernel
theorem dX12_image_23 : decode cX12_image 23 = .ok (.getfield 296, 3) := by decide +kernel
theorem dX12_image_26 : decode cX12_image 26 = .ok (.putfield 323, 3) := by decide +kernel
theorem dX12_image_29 : decode cX12_image 29 = .ok (.iconst 0, 1) := by decide +kernel
theorem dX12_image_30 : decode cX12_image 30 = .ok (.istore_n 1, 1) := by decide +kernel
theorem dX12_image_31 : decode cX12_image 31 = .ok (.iload_n 1, 1) := by decide +kernel
theorem dX12_image_32 : decode cX12_image 32 = .ok (.iconst 4, 1) := by decide +kernel
theorem dX12_image_33 : decode cX12_image 33 = .ok (.if_icmp .ge 21, 3) := by decide +kernel
theorem dX12_image_36 : decode cX12_image 36 = .ok (.aload_n 0, 1) := by decide +kernel
theorem dX12_image_37 : decode cX12_image 37 = .ok (.getfield 92, 3) := by decide +kernel
theorem dX12_image_40 : decode cX12_image 40 = .ok (.iload_n 1, 1) := by decide +kernel
theorem dX12_image_41 : decode cX12_image 41 = .ok (.aload_n 0, 1) := by decide +kernel
theorem dX12_image_42 : decode cX12_image 42 = .ok (.getfield 13, 3) := by decide +kernel
theorem dX12_image_45 : decode cX12_image 45 = .ok (.iload_n 1, 1) := by decide +kernel
theorem dX12_image_46 : decode cX12_image 46 = .ok (.iaload, 1) := by decide +kernel
theorem dX12_image_47 : decode cX12_image 47 = .ok (.iastore, 1) := by decide +kernel
theorem dX12_image_48 : decode cX12_image 48 = .ok (.iinc 1 1, 3) := by decide +kernel
theorem dX12_image_51 : decode cX12_image 51 = .ok (.goto (-20), 3) := by decide +kernel
theorem dX12_image_54 : decode cX12_image 54 = .ok (.iconst 0, 1) := by decide +kernel
theorem dX12_image_55 : decode cX12_image 55 = .ok (.istore_n 1, 1) := by decide +kernel
theorem dX12_image_56 : decode cX12_image 56 = .ok (.iload_n 1, 1) := by decide +kernel
theorem dX12_image_57 : decode cX12_image 57 = .ok (.bipush 12, 2) := by decide +kernel
theorem dX12_image_59 : decode cX12_image 59 = .ok (.if_icmp .ge 21, 3) := by decide +kernel
theorem dX12_image_62 : decode cX12_image 62 = .ok (.aload_n 0, 1) := by decide +kernel
theorem dX12_image_63 : decode cX12_image 63 = .ok (.getfield 89, 3) := by decide +kernel
theorem dX12_image_66 : decode cX12_image 66 = .ok (.iload_n 1, 1) := by decide +kernel
theorem dX12_image_67 : decode cX12_image 67 = .ok (.aload_n 0, 1) := by decide +kernel
theorem dX12_image_68 : decode cX12_image 68 = .ok (.getfield 86, 3) := by decide +kernel
theorem dX12_image_71 : decode cX12_image 71 = .ok (.iload_n 1, 1) := by decide +kernel
theorem dX12_image_72 : decode cX12_image 72 = .ok (.iaload, 1) := by decide +kernel
theorem dX12_image_73 : decode cX12_image 73 = .ok (.iastore, 1) := by decide +kernel
theorem dX12_image_74 : decode cX12_image 74 = .ok (.iinc 1 1, 3) := by decide +kernel
theorem dX12_image_77 : decode cX12_image 77 = .ok (.goto (-21), 3) := by decide +kernel
theorem dX12_image_80 : decode cX12_image 80 = .ok (.aload_n 0, 1) := by decide +kernel
theorem dX12_image_81 : decode cX12_image 81 = .ok (.getfield 190, 3) := by decide +kernel
theorem dX12_image_84 : decode cX12_image 84 = .ok (.ireturn, 1) := by decide +kernel
theorem s210_0 : aW d 210 0 [.ref o, l1] S h Q = aW d 210 1 [.ref o, l1] (.ref o :: S) h Q := ax_aload_n mt210 dX12_image_0 rfl
theorem s210_1 : aW d 210 1 L S h Q = aW d 210 2 L (.int (nI 1) :: S) h Q := ax_iconst mt210 dX12_image_1 ic_1
theorem s210_2 (hT : gT h o = some (14, 54)) : aW d 210 2 L (.int a :: .ref o :: S) h Q = (b01 a ∧ aW d 210 5 L S (pI h o 36 a) Q) := ax_putz mt210 dX12_image_2 (by decide) ft_49336 (fun q => fn_49336 q.1) fp_49336 hT
theorem s210_5 : aW d 210 5 [.ref o, l1] S h Q = aW d 210 6 [.ref o, l1] (.ref o :: S) h Q := ax_aload_n mt210 dX12_image_5 rfl
theorem s210_6 : aW d 210 6 [.ref o, l1] S h Q = aW d 210 7 [.ref o, l1] (.ref o :: S) h Q := ax_aload_n mt210 dX12_image_6 rfl
theorem s210_7 (hT : gT h o = some (14, 54)) : aW d 210 7 L (.ref o :: S) h Q = aW d 210 10 L (.int (gI h o 32) :: S) h Q := ax_geti mt210 dX12_image_7 (by decide) ft_49342 fk_49342 hT
theorem s210_10 (hT : gT h o = some (14, 54)) : aW d 210 10 L (.int a :: .ref o :: S) h Q = aW d 210 13 L S (pI h o 37 a) Q := ax_puti mt210 dX12_image_10 (by decide) ft_49469 (fun q => fn_49469 q.1) fp_49469 hT
theorem s210_13 : aW d 210 13 [.ref o, l1] S h Q = aW d 210 14 [.ref o, l1] (.ref o :: S) h Q := ax_aload_n mt210 dX12_image_13 rfl
theorem s210_14 : aW d 210 14 [.ref o, l1] S h Q = aW d 210 15 [.ref o, l1] (.ref o :: S) h Q := ax_aload_n mt210 dX12_image_14 rfl
theorem s210_15 (hT : gT h o = some (14, 54)) : aW d 210 15 L (.ref o :: S) h Q = aW d 210 18 L (.int (gI h o 33) :: S) h Q := ax_geti mt210 dX12_image_15 (by decide) ft_49463 fk_49463 hT
theorem s210_18 (hT : gT h o = some (14, 54)) : aW d 210 18 L (.int a :: .ref o :: S) h Q = aW d 210 21 L S (pI h o 38 a) Q := ax_puti mt210 dX12_image_18 (by decide) ft_49472 (fun q => fn_49472 q.1) fp_49472 hT
theorem s210_21 : aW d 210 21 [.ref o, l1] S h Q = aW d 210 22 [.ref o, l1] (.ref o :: S) h Q := ax_aload_n mt210 dX12_image_21 rfl
theorem s210_22 : aW d 210 22 [.ref o, l1] S h Q = aW d 210 23 [.ref o, l1] (.ref o :: S) h Q := ax_aload_n mt210 dX12_image_22 rfl
theorem s210_23 (hT : gT h o = some (14, 54)) : aW d 210 23 L (.ref o :: S) h Q = aW d 210 26 L (.int (gI h o 34) :: S) h Q := ax_geti mt210 dX12_image_23 (by decide) ft_49448 fk_49448 hT
theorem s210_26 (hT : gT h o = some (14, 54)) : aW d 210 26 L (.int a :: .ref o :: S) h Q = aW d 210 29 L S (pI h o 39 a) Q := ax_puti mt210 dX12_image_26 (by decide) ft_49475 (fun q => fn_49475 q.1) fp_49475 hT
theorem s210_29 : aW d 210 29 L S h Q = aW d 210 30 L (.int (nI 0) :: S) h Q := ax_iconst mt210 dX12_image_29 ic_0
theorem s210_30 : aW d 210 30 [l0, l1] (.int a :: S) h Q = aW d 210 31 [l0, .int a] S h Q := ax_istore_n mt210 dX12_image_30 (Nat.le_of_ble_eq_true rfl) rfl
theorem s210_31 : aW d 210 31 [l0, .int a] S h Q = aW d 210 32 [l0, .int a] (.int a :: S) h Q := ax_iload_n mt210 dX12_image_31 rfl
theorem s210_32 : aW d 210 32 L S h Q = aW d 210 33 L (.int (nI 4) :: S) h Q := ax_iconst mt210 dX12_image_32 ic_4
theorem s210_33 : aW d 210 33 L (.int b :: .int a :: S) h Q = (if a < b then aW d 210 36 L S h Q else aW d 210 54 L S h Q) := ax_icmp_ge mt210 dX12_image_33 (by decide)
theorem s210_36 : aW d 210 36 [.ref o, l1] S h Q = aW d 210 37 [.ref o, l1] (.ref o :: S) h Q := ax_aload_n mt210 dX12_image_36 rfl
theorem s210_37 (hT : gT h o = some (14, 54)) : aW d 210 37 L (.ref o :: S) h Q = (isRf (gR h o 41) = true ∧ aW d 210 40 L (gR h o 41 :: S) h Q) := ax_geta mt210 dX12_image_37 (by decide) ft_49244 fk_49244 hT
theorem s210_40 : aW d 210 40 [l0, .int a] S h Q = aW d 210 41 [l0, .int a] (.int a :: S) h Q := ax_iload_n mt210 dX12_image_40 rfl
theorem s210_41 : aW d 210 41 [.ref o, l1] S h Q = aW d 210 42 [.ref o, l1] (.ref o :: S) h Q := ax_aload_n mt210 dX12_image_41 rfl
theorem s210_42 (hT : gT h o = some (14, 54)) : aW d 210 42 L (.ref o :: S) h Q = (isRf (gR h o 3) = true ∧ aW d 210 45 L (gR h o 3 :: S) h Q) := ax_geta mt210 dX12_image_42 (by decide) ft_49165 fk_49165 hT
theorem s210_45 : aW d 210 45 [l0, .int a] S h Q = aW d 210 46 [l0, .int a] (.int a :: S) h Q := ax_iload_n mt210 dX12_image_45 rfl
theorem s210_46 : aW d 210 46 L (.int a :: .ref o :: S) h Q = (inb a (aI h o) ∧ aW d 210 47 L (.int (gI h o a.toNatClampNeg) :: S) h Q) := ax_iald mt210 dX12_image_46
theorem s210_47 : aW d 210 47 L (.int b :: .int a :: .ref o :: S) h Q = (inb a (aJ h o) ∧ aW d 210 48 L S (pI h o a.toNatClampNeg b) Q) := ax_iast mt210 dX12_image_47
theorem s210_48 : aW d 210 48 [l0, .int a] S h Q = aW d 210 51 [l0, .int (a + nI 1)] S h Q := ax_iinc mt210 dX12_image_48 rfl ic_1 rfl
theorem s210_51 : aW d 210 51 L S h Q = aW d 210 31 L S h Q := ax_goto mt210 dX12_image_51 (by decide)
theorem s210_54 : aW d 210 54 L S h Q = aW d 210 55 L (.int (nI 0) :: S) h Q := ax_iconst mt210 dX12_image_54 ic_0
theorem s210_55 : aW d 210 55 [l0, l1] (.int a :: S) h Q = aW d 210 56 [l0, .int a] S h Q := ax_istore_n mt210 dX12_image_55 (Nat.le_of_ble_eq_true rfl) rfl
theorem s210_56 : aW d 210 56 [l0, .int a] S h Q = aW d 210 57 [l0, .int a] (.int a :: S) h Q := ax_iload_n mt210 dX12_image_56 rfl
theorem s210_57 : aW d 210 57 L S h Q = aW d 210 59 L (.int (nI 12) :: S) h Q := ax_bipush mt210 dX12_image_57 bp_12
theorem s210_59 : aW d 210 59 L (.int b :: .int a :: S) h Q = (if a < b then aW d 210 62 L S h Q else aW d 210 80 L S h Q) := ax_icmp_ge mt210 dX12_image_59 (by decide)
theorem s210_62 : aW d 210 62 [.ref o, l1] S h Q = aW d 210 63 [.ref o, l1] (.ref o :: S) h Q := ax_aload_n mt210 dX12_image_62 rfl
theorem s210_63 (hT : gT h o = some (14, 54)) : aW d 210 63 L (.ref o :: S) h Q = (isRf (gR h o 40) = true ∧ aW d 210 66 L (gR h o 40 :: S) h Q) := ax_geta mt210 dX12_image_63 (by decide) ft_49241 fk_49241 hT
theorem s210_66 : aW d 210 66 [l0, .int a] S h Q = aW d 210 67 [l0, .int a] (.int a :: S) h Q := ax_iload_n mt210 dX12_image_66 rfl
theorem s210_67 : aW d 210 67 [.ref o, l1] S h Q = aW d 210 68 [.ref o, l1] (.ref o :: S) h Q := ax_aload_n mt210 dX12_image_67 rfl
theorem s210_68 (hT : gT h o = some (14, 54)) : aW d 210 68 L (.ref o :: S) h Q = (isRf (gR h o 35) = true ∧ aW d 210 71 L (gR h o 35 :: S) h Q) := ax_geta mt210 dX12_image_68 (by decide) ft_49238 fk_49238 hT
theorem s210_71 : aW d 210 71 [l0, .int a] S h Q = aW d 210 72 [l0, .int a] (.int a :: S) h Q := ax_iload_n mt210 dX12_image_71 rfl
theorem s210_72 : aW d 210 72 L (.int a :: .ref o :: S) h Q = (inb a (aI h o) ∧ aW d 210 73 L (.int (gI h o a.toNatClampNeg) :: S) h Q) := ax_iald mt210 dX12_image_72
theorem s210_73 : aW d 210 73 L (.int b :: .int a :: .ref o :: S) h Q = (inb a (aJ h o) ∧ aW d 210 74 L S (pI h o a.toNatClampNeg b) Q) := ax_iast mt210 dX12_image_73
theorem s210_74 : aW d 210 74 [l0, .int a] S h Q = aW d 210 77 [l0, .int (a + nI 1)] S h Q := ax_iinc mt210 dX12_image_74 rfl ic_1 rfl
theorem s210_77 : aW d 210 77 L S h Q = aW d 210 56 L S h Q := ax_goto mt210 dX12_image_77 (by decide)
theorem s210_80 : aW d 210 80 [.ref o, l1] S h Q = aW d 210 81 [.ref o, l1] (.ref o :: S) h Q := ax_aload_n mt210 dX12_image_80 rfl
theorem s210_81 (hT : gT h o = some (14, 54)) : aW d 210 81 L (.ref o :: S) h Q = aW d 210 84 L (.int (gI h o 32) :: S) h Q := ax_geti mt210 dX12_image_81 (by decide) ft_49342 fk_49342 hT
theorem s210_84 : aW d 210 84 L [.int a] h Q = Q (some (.int a)) h := ax_reti mt210 dX12_image_84 rfl
-- method 211: BufferRoomModel.back()I
theorem dX12_back_0 : decode cX12_back 0 = .ok (.aload_n 0, 1) := by decide +kernel
theorem dX12_back_1 : decode cX12_back 1 = .ok (.getfield 184, 3) := by decide +kernel
theorem dX12_back_4 : decode cX12_back 4 = .ok (.ifCond .ne 6, 3) := by decide +kernel
theorem dX12_back_7 : decode cX12_back 7 = .ok (.bipush (-3), 2) := by decide +kernel
theorem dX12_back_9 : decode cX12_back 9 = .ok (.ireturn, 1) := by decide +kernel
theorem dX12_back_10 : decode cX12_back 10 = .ok (.aload_n 0, 1) := by decide +kernel
theorem dX12_back_11 : decode cX12_back 11 = .ok (.aload_n 0, 1) := by decide +kernel
theorem dX12_back_12 : decode cX12_back 12 = .ok (.getfield 317, 3) := by decide +kernel
theorem dX12_back_15 : decode cX12_back 15 = .ok (.putfield 190, 3) := by decide +kernel
theorem dX12_back_18 : decode cX12_back 18 = .ok (.aload_n 0, 1) := by decide +kernel
theorem dX12_back_19 : decode cX12_back 19 = .ok (.aload_n 0, 1) := by decide +kernel
theorem dX12_back_20 : decode cX12_back 20 = .ok (.getfield 320, 3) := by decide +kernel
theorem dX12_back_23 : decode cX12_back 23 = .ok (.putfield 311, 3) := by decide +kernel
theorem dX12_back_26 : decode cX12_back 26 = .ok (.aload_n 0, 1) := by decide +kernel
theorem dX12_back_27 : decode cX12_back 27 = .ok (.aload_n 0, 1) := by decide +kernel
theorem dX12_back_28 : decode cX12_back 28 = .ok (.getfield 323, 3) := by decide +kernel
theorem dX12_back_31 : decode cX12_back 31 = .ok (.putfield 296, 3) := by decide +kernel
theorem dX12_back_34 : decode cX12_back 34 = .ok (.iconst 0, 1) := by decide +kernel
theorem dX12_back_35 : decode cX12_back 35 = .ok (.istore_n 1, 1) := by decide +kernel
theorem dX12_back_36 : decode cX12_back 36 = .ok (.iload_n 1, 1) := by decide +kernel
theorem dX12_back_37 : decode cX12_back 37 = .ok (.iconst 4, 1) := by decide +kernel
theorem dX12_back_38 : decode cX12_back 38 = .ok (.if_icmp .ge 21, 3) := by decide +kernel
theorem dX12_back_41 : decode cX12_back 41 = .ok (.aload_n 0, 1) := by decide +kernel
theorem dX12_back_42 : decode cX12_back 42 = .ok (.getfield 13, 3) := by decide +kernel
theorem dX12_back_45 : decode cX12_back 45 = .ok (.iload_n 1, 1) := by decide +kernel
theorem dX12_back_46 : decode cX12_back 46 = .ok (.aload_n 0, 1) := by decide +kernel
theorem dX12_back_47 : decode cX12_back 47 = .ok (.getfield 92, 3) := by decide +kernel
theorem dX12_back_50 : decode cX12_back 50 = .ok (.iload_n 1, 1) := by decide +kernel
theorem dX12_back_51 : decode cX12_back 51 = .ok (.iaload, 1) := by decide +kernel
theorem dX12_back_52 : decode cX12_back 52 = .ok (.iastore, 1) := by decide +kernel
theorem dX12_back_53 : decode cX12_back 53 = .ok (.iinc 1 1, 3) := by decide +kernel
theorem dX12_back_56 : decode cX12_back 56 = .ok (.goto (-20), 3) := by decide +kernel
theorem dX12_back_59 : decode cX12_back 59 = .ok (.iconst 0, 1) := by decide +kernel
theorem dX12_back_60 : decode cX12_back 60 = .ok (.istore_n 1, 1) := by decide +kernel
theorem dX12_back_61 : decode cX12_back 61 = .ok (.iload_n 1, 1) := by decide +kernel
theorem dX12_back_62 : decode cX12_back 62 = .ok (.bipush 12, 2) := by decide +kernel
theorem dX12_back_64 : decode cX12_back 64 = .ok (.if_icmp .ge 21, 3) := by decide +kernel
theorem dX12_back_67 : decode cX12_back 67 = .ok (.aload_n 0, 1) := by decide +kernel
theorem dX12_back_68 : decode cX12_back 68 = .ok (.getfield 86, 3) := by decide +kernel
theorem dX12_back_71 : decode cX12_back 71 = .ok (.iload_n 1, 1) := by decide +kernel
theorem dX12_back_72 : decode cX12_back 72 = .ok (.aload_n 0, 1) := by decide +kernel
theorem dX12_back_73 : decode cX12_back 73 = .ok (.getfield 89, 3) := by decide +kernel
theorem dX12_back_76 : decode cX12_back 76 = .ok (.iload_n 1, 1) := by decide +kernel
theorem dX12_back_77 : decode cX12_back 77 = .ok (.iaload, 1) := by decide +kernel
theorem dX12_back_78 : decode cX12_back 78 = .ok (.iastore, 1) := by decide +kernel
theorem dX12_back_79 : decode cX12_back 79 = .ok (.iinc 1 1, 3) := by decide +kernel
theorem dX12_back_82 : decode cX12_back 82 = .ok (.goto (-21), 3) := by decide +kernel
theorem dX12_back_85 : decode cX12_back 85 = .ok (.aload_n 0, 1) := by decide +kernel
theorem dX12_back_86 : decode cX12_back 86 = .ok (.getfield 190, 3) := by decide +kernel
theorem dX12_back_89 : decode cX12_back 89 = .ok (.ireturn, 1) := by decide +kernel
theorem s211_0 : aW d 211 0 [.ref o, l1] S h Q = aW d 211 1 [.ref o, l1] (.ref o :: S) h Q := ax_aload_n mt211 dX12_back_0 rfl
theorem s211_1 (hT : gT h o = some (14, 54)) : aW d 211 1 L (.ref o :: S) h Q = aW d 211 4 L (.int (gI h o 36) :: S) h Q := ax_geti mt211 dX12_back_1 (by decide) ft_49336 fk_49336 hT
theorem s211_4 : aW d 211 4 L (.int a :: S) h Q = (if a = 0 then aW d 211 7 L S h Q else aW d 211 10 L S h Q) := ax_if_ne mt211 dX12_back_4 (by decide)
theorem s211_7 : aW d 211 7 L S h Q = aW d 211 9 L (.int ((-3)) :: S) h Q := ax_bipush mt211 dX12_back_7 bp_m3
theorem s211_9 : aW d 211 9 L [.int a] h Q = Q (some (.int a)) h := ax_reti mt211 dX12_back_9 rfl
theorem s211_10 : aW d 211 10 [.ref o, l1] S h Q = aW d 211 11 [.ref o, l1] (.ref o :: S) h Q := ax_aload_n mt211 dX12_back_10 rfl
theorem s211_11 : aW d 211 11 [.ref o, l1] S h Q = aW d 211 12 [.ref o, l1] (.ref o :: S) h Q := ax_aload_n mt211 dX12_back_11 rfl
theorem s211_12 (hT : gT h o = some (14, 54)) : aW d 211 12 L (.ref o :: S) h Q = aW d 211 15 L (.int (gI h o 37) :: S) h Q := ax_geti mt211 dX12_back_12 (by decide) ft_49469 fk_49469 hT
theorem s211_15 (hT : gT h o = some (14, 54)) : aW d 211 15 L (.int a :: .ref o :: S) h Q = aW d 211 18 L S (pI h o 32 a) Q := ax_puti mt211 dX12_back_15 (by decide) ft_49342 (fun q => fn_49342 q.1) fp_49342 hT
theorem s211_18 : aW d 211 18 [.ref o, l1] S h Q = aW d 211 19 [.ref o, l1] (.ref o :: S) h Q := ax_aload_n mt211 dX12_back_18 rfl
theorem s211_19 : aW d 211 19 [.ref o, l1] S h Q = aW d 211 20 [.ref o, l1] (.ref o :: S) h Q := ax_aload_n mt211 dX12_back_19 rfl
theorem s211_20 (hT : gT h o = some (14, 54)) : aW d 211 20 L (.ref o :: S) h Q = aW d 211 23 L (.int (gI h o 38) :: S) h Q := ax_geti mt211 dX12_back_20 (by decide) ft_49472 fk_49472 hT
theorem s211_23 (hT : gT h o = some (14, 54)) : aW d 211 23 L (.int a :: .ref o :: S) h Q = aW d 211 26 L S (pI h o 33 a) Q := ax_puti mt211 dX12_back_23 (by decide) ft_49463 (fun q => fn_49463 q.1) fp_49463 hT
theorem s211_26 : aW d 211 26 [.ref o, l1] S h Q = aW d 211 27 [.ref o, l1] (.ref o :: S) h Q := ax_aload_n mt211 dX12_back_26 rfl
theorem s211_27 : aW d 211 27 [.ref o, l1] S h Q = aW d 211 28 [.ref o, l1] (.ref o :: S) h Q := ax_aload_n mt211 dX12_back_27 rfl
theorem s211_28 (hT : gT h o = some (14, 54)) : aW d 211 28 L (.ref o :: S) h Q = aW d 211 31 L (.int (gI h o 39) :: S) h Q := ax_geti mt211 dX12_back_28 (by decide) ft_49475 fk_49475 hT
theorem s211_31 (hT : gT h o = some (14, 54)) : aW d 211 31 L (.int a :: .ref o :: S) h Q = aW d 211 34 L S (pI h o 34 a) Q := ax_puti mt211 dX12_back_31 (by decide) ft_49448 (fun q => fn_49448 q.1) fp_49448 hT
theorem s211_34 : aW d 211 34 L S h Q = aW d 211 35 L (.int (nI 0) :: S) h Q := ax_iconst mt211 dX12_back_34 ic_0
theorem s211_35 : aW d 211 35 [l0, l1] (.int a :: S) h Q = aW d 211 36 [l0, .int a] S h Q := ax_istore_n mt211 dX12_back_35 (Nat.le_of_ble_eq_true rfl) rfl
theorem s211_36 : aW d 211 36 [l0, .int a] S h Q = aW d 211 37 [l0, .int a] (.int a :: S) h Q := ax_iload_n mt211 dX12_back_36 rfl
theorem s211_37 : aW d 211 37 L S h Q = aW d 211 38 L (.int (nI 4) :: S) h Q := ax_iconst mt211 dX12_back_37 ic_4
theorem s211_38 : aW d 211 38 L (.int b :: .int a :: S) h Q = (if a < b then aW d 211 41 L S h Q else aW d 211 59 L S h Q) := ax_icmp_ge mt211 dX12_back_38 (by decide)
theorem s211_41 : aW d 211 41 [.ref o, l1] S h Q = aW d 211 42 [.ref o, l1] (.ref o :: S) h Q := ax_aload_n mt211 dX12_back_41 rfl
theorem s211_42 (hT : gT h o = some (14, 54)) : aW d 211 42 L (.ref o :: S) h Q = (isRf (gR h o 3) = true ∧ aW d 211 45 L (gR h o 3 :: S) h Q) := ax_geta mt211 dX12_back_42 (by decide) ft_49165 fk_49165 hT
theorem s211_45 : aW d 211 45 [l0, .int a] S h Q = aW d 211 46 [l0, .int a] (.int a :: S) h Q := ax_iload_n mt211 dX12_back_45 rfl
theorem s211_46 : aW d 211 46 [.ref o, l1] S h Q = aW d 211 47 [.ref o, l1] (.ref o :: S) h Q := ax_aload_n mt211 dX12_back_46 rfl
theorem s211_47 (hT : gT h o = some (14, 54)) : aW d 211 47 L (.ref o :: S) h Q = (isRf (gR h o 41) = true ∧ aW d 211 50 L (gR h o 41 :: S) h Q) := ax_geta mt211 dX12_back_47 (by decide) ft_49244 fk_49244 hT
theorem s211_50 : aW d 211 50 [l0, .int a] S h Q = aW d 211 51 [l0, .int a] (.int a :: S) h Q := ax_iload_n mt211 dX12_back_50 rfl
theorem s211_51 : aW d 211 51 L (.int a :: .ref o :: S) h Q = (inb a (aI h o) ∧ aW d 211 52 L (.int (gI h o a.toNatClampNeg) :: S) h Q) := ax_iald mt211 dX12_back_51
theorem s211_52 : aW d 211 52 L (.int b :: .int a :: .ref o :: S) h Q = (inb a (aJ h o) ∧ aW d 211 53 L S (pI h o a.toNatClampNeg b) Q) := ax_iast mt211 dX12_back_52
theorem s211_53 : aW d 211 53 [l0, .int a] S h Q = aW d 211 56 [l0, .int (a + nI 1)] S h Q := ax_iinc mt211 dX12_back_53 rfl ic_1 rfl
theorem s211_56 : aW d 211 56 L S h Q = aW d 211 36 L S h Q := ax_goto mt211 dX12_back_56 (by decide)
theorem s211_59 : aW d 211 59 L S h Q = aW d 211 60 L (.int (nI 0) :: S) h Q := ax_iconst mt211 dX12_back_59 ic_0
theorem s211_60 : aW d 211 60 [l0, l1] (.int a :: S) h Q = aW d 211 61 [l0, .int a] S h Q := ax_istore_n mt211 dX12_back_60 (Nat.le_of_ble_eq_true rfl) rfl
theorem s211_61 : aW d 211 61 [l0, .int a] S h Q = aW d 211 62 [l0, .int a] (.int a :: S) h Q := ax_iload_n mt211 dX12_back_61 rfl
theorem s211_62 : aW d 211 62 L S h Q = aW d 211 64 L (.int (nI 12) :: S) h Q := ax_bipush mt211 dX12_back_62 bp_12
theorem s211_64 : aW d 211 64 L (.int b :: .int a :: S) h Q = (if a < b then aW d 211 67 L S h Q else aW d 211 85 L S h Q) := ax_icmp_ge mt211 dX12_back_64 (by decide)
theorem s211_67 : aW d 211 67 [.ref o, l1] S h Q = aW d 211 68 [.ref o, l1] (.ref o :: S) h Q := ax_aload_n mt211 dX12_back_67 rfl
theorem s211_68 (hT : gT h o = some (14, 54)) : aW d 211 68 L (.ref o :: S) h Q = (isRf (gR h o 35) = true ∧ aW d 211 71 L (gR h o 35 :: S) h Q) := ax_geta mt211 dX12_back_68 (by decide) ft_49238 fk_49238 hT
theorem s211_71 : aW d 211 71 [l0, .int a] S h Q = aW d 211 72 [l0, .int a] (.int a :: S) h Q := ax_iload_n mt211 dX12_back_71 rfl
theorem s211_72 : aW d 211 72 [.ref o, l1] S h Q = aW d 211 73 [.ref o, l1] (.ref o :: S) h Q := ax_aload_n mt211 dX12_back_72 rfl
theorem s211_73 (hT : gT h o = some (14, 54)) : aW d 211 73 L (.ref o :: S) h Q = (isRf (gR h o 40) = true ∧ aW d 211 76 L (gR h o 40 :: S) h Q) := ax_geta mt211 dX12_back_73 (by decide) ft_49241 fk_49241 hT
theorem s211_76 : aW d 211 76 [l0, .int a] S h Q = aW d 211 77 [l0, .int a] (.int a :: S) h Q := ax_iload_n mt211 dX12_back_76 rfl
theorem s211_77 : aW d 211 77 L (.int a :: .ref o :: S) h Q = (inb a (aI h o) ∧ aW d 211 78 L (.int (gI h o a.toNatClampNeg) :: S) h Q) := ax_iald mt211 dX12_back_77
theorem s211_78 : aW d 211 78 L (.int b :: .int a :: .ref o :: S) h Q = (inb a (aJ h o) ∧ aW d 211 79 L S (pI h o a.toNatClampNeg b) Q) := ax_iast mt211 dX12_back_78
theorem s211_79 : aW d 211 79 [l0, .int a] S h Q = aW d 211 82 [l0, .int (a + nI 1)] S h Q := ax_iinc mt211 dX12_back_79 rfl ic_1 rfl
theorem s211_82 : aW d 211 82 L S h Q = aW d 211 61 L S h Q := ax_goto mt211 dX12_back_82 (by decide)
theorem s211_85 : aW d 211 85 [.ref o, l1] S h Q = aW d 211 86 [.ref o, l1] (.ref o :: S) h Q := ax_aload_n mt211 dX12_back_85 rfl
theorem s211_86 (hT : gT h o = some (14, 54)) : aW d 211 86 L (.ref o :: S) h Q = aW d 211 89 L (.int (gI h o 32) :: S) h Q := ax_geti mt211 dX12_back_86 (by decide) ft_49342 fk_49342 hT
theorem s211_89 : aW d 211 89 L [.int a] h Q = Q (some (.int a)) h := ax_reti mt211 dX12_back_89 rfl
-- method 212: BufferRoomModel.count(I)I
theorem dX12_count_0 : decode cX12_count 0 = .ok (.iload_n 1, 1) := by decide +kernel
theorem dX12_count_1 : decode cX12_count 1 = .ok (.tableswitch 59 0 3 #[31, 36, 41, 46], 31) := by decide +kernel
theorem dX12_count_32 : decode cX12_count 32 = .ok (.aload_n 0, 1) := by decide +kernel
theorem dX12_count_33 : decode cX12_count 33 = .ok (.getfield 165, 3) := by decide +kernel
theorem dX12_count_36 : decode cX12_count 36 = .ok (.ireturn, 1) := by decide +kernel
theorem dX12_count_37 : decode cX12_count 37 = .ok (.aload_n 0, 1) := by decide +kernel
theorem dX12_count_38 : decode cX12_count 38 = .ok (.getfield 129, 3) := by decide +kernel
theorem dX12_count_41 : decode cX12_count 41 = .ok (.ireturn, 1) := by decide +kernel
theorem dX12_count_42 : decode cX12_count 42 = .ok (.aload_n 0, 1) := by decide +kernel
theorem dX12_count_43 : decode cX12_count 43 = .ok (.getfield 177, 3) := by decide +kernel
theorem dX12_count_46 : decode cX12_count 46 = .ok (.ireturn, 1) := by decide +kernel
theorem dX12_count_47 : decode cX12_count 47 = .ok (.aload_n 0, 1) := by decide +kernel
theorem dX12_count_48 : decode cX12_count 48 = .ok (.getfield 180, 3) := by decide +kernel
theorem dX12_count_51 : decode cX12_count 51 = .ok (.ifCond .eq 7, 3) := by decide +kernel
theorem dX12_count_54 : decode cX12_count 54 = .ok (.iconst 1, 1) := by decide +kernel
theorem dX12_count_55 : decode cX12_count 55 = .ok (.goto 4, 3) := by decide +kernel
theorem dX12_count_58 : decode cX12_count 58 = .ok (.iconst 0, 1) := by decide +kernel
theorem dX12_count_59 : decode cX12_count 59 = .ok (.ireturn, 1) := by decide +kernel
theorem dX12_count_60 : decode cX12_count 60 = .ok (.iload_n 1, 1) := by decide +kernel
theorem dX12_count_61 : decode cX12_count 61 = .ok (.iconst 4, 1) := by decide +kernel
theorem dX12_count_62 : decode cX12_count 62 = .ok (.bipush 7, 2) := by decide +kernel
theorem dX12_count_64 : decode cX12_count 64 = .ok (.invokestatic 125, 3) := by decide +kernel
theorem dX12_count_67 : decode cX12_count 67 = .ok (.ifCond .eq 28, 3) := by decide +kernel
theorem dX12_count_70 : decode cX12_count 70 = .ok (.aload_n 0, 1) := by decide +kernel
theorem dX12_count_71 : decode cX12_count 71 = .ok (.getfield 13, 3) := by decide +kernel
theorem dX12_count_74 : decode cX12_count 74 = .ok (.iload_n 1, 1) := by decide +kernel
theorem dX12_count_75 : decode cX12_count 75 = .ok (.iconst 4, 1) := by decide +kernel
theorem dX12_count_76 : decode cX12_count 76 = .ok (.bipush 7, 2) := by decide +kernel
theorem dX12_count_78 : decode cX12_count 78 = .ok (.invokestatic 125, 3) := by decide +kernel
theorem dX12_count_81 : decode cX12_count 81 = .ok (.ifCond .eq 9, 3) := by decide +kernel
theorem dX12_count_84 : decode cX12_count 84 = .ok (.iload_n 1, 1) := by decide +kernel
theorem dX12_count_85 : decode cX12_count 85 = .ok (.iconst 4, 1) := by decide +kernel
theorem dX12_count_86 : decode cX12_count 86 = .ok (.isub, 1) := by decide +kernel
theorem dX12_count_87 : decode cX12_count 87 = .ok (.goto 4, 3) := by decide +kernel
theorem dX12_count_90 : decode cX12_count 90 = .ok (.iconst 0, 1) := by decide +kernel
theorem dX12_count_91 : decode cX12_count 91 = .ok (.iaload, 1) := by decide +kernel
theorem dX12_count_92 : decode cX12_count 92 = .ok (.goto 5, 3) := by decide +kernel
theorem dX12_count_95 : decode cX12_count 95 = .ok (.bipush (-2), 2) := by decide +kernel
theorem dX12_count_97 : decode cX12_count 97 = .ok (.ireturn, 1) := by decide +kernel
theorem s212_0 : aW d 212 0 [l0, .int a] S h Q = aW d 212 1 [l0, .int a] (.int a :: S) h Q := ax_iload_n mt212 dX12_count_0 rfl
set_option maxRecDepth 100000 in
theorem s212_1 : aW d 212 1 L (.int a :: S) h Q = (if a = nI 0 then aW d 212 32 L S h Q else (if a = nI 1 then aW d 212 37 L S h Q else (if a = nI 2 then aW d 212 42 L S h Q else (if a = nI 3 then aW d 212 47 L S h Q else aW d 212 60 L S h Q)))) := by
  by_cases e0 : a = nI 0
  · rw [if_pos e0]
    subst e0
    exact ax_tabI (off := 31) mt212 dX12_count_1 (by decide +kernel) (by decide +kernel) (by decide)
  rw [if_neg e0]
  have k0 := lv_neT e0 (show (nI 0 : Int32).toInt = 0 by decide +kernel)
  by_cases e1 : a = nI 1
  · rw [if_pos e1]
    subst e1
    exact ax_tabI (off := 36) mt212 dX12_count_1 (by decide +kernel) (by decide +kernel) (by decide)
  rw [if_neg e1]
  have k1 := lv_neT e1 (show (nI 1 : Int32).toInt = 1 by decide +kernel)
  by_cases e2 : a = nI 2
  · rw [if_pos e2]
    subst e2
    exact ax_tabI (off := 41) mt212 dX12_count_1 (by decide +kernel) (by decide +kernel) (by decide)
  rw [if_neg e2]
  have k2 := lv_neT e2 (show (nI 2 : Int32).toInt = 2 by decide +kernel)
  by_cases e3 : a = nI 3
  · rw [if_pos e3]
    subst e3
    exact ax_tabI (off := 46) mt212 dX12_count_1 (by decide +kernel) (by decide +kernel) (by decide)
  rw [if_neg e3]
  have k3 := lv_neT e3 (show (nI 3 : Int32).toInt = 3 by decide +kernel)
  exact ax_tabO mt212 dX12_count_1 (by omega) (by decide)
theorem s212_47 : aW d 212 47 [.ref o, l1] S h Q = aW d 212 48 [.ref o, l1] (.ref o :: S) h Q := ax_aload_n mt212 dX12_count_47 rfl
theorem s212_48 (hT : gT h o = some (14, 54)) : aW d 212 48 L (.ref o :: S) h Q = aW d 212 51 L (.int (gI h o 26) :: S) h Q := ax_geti mt212 dX12_count_48 (by decide) ft_49332 fk_49332 hT
theorem s212_51 : aW d 212 51 L (.int a :: S) h Q = (if a = 0 then aW d 212 58 L S h Q else aW d 212 54 L S h Q) := ax_if_eq mt212 dX12_count_51 (by decide)
theorem s212_54 : aW d 212 54 L S h Q = aW d 212 55 L (.int (nI 1) :: S) h Q := ax_iconst mt212 dX12_count_54 ic_1
theorem s212_55 : aW d 212 55 L S h Q = aW d 212 59 L S h Q := ax_goto mt212 dX12_count_55 (by decide)
theorem s212_59 : aW d 212 59 L [.int a] h Q = Q (some (.int a)) h := ax_reti mt212 dX12_count_59 rfl
theorem s212_58 : aW d 212 58 L S h Q = aW d 212 59 L (.int (nI 0) :: S) h Q := ax_iconst mt212 dX12_count_58 ic_0
theorem s212_42 : aW d 212 42 [.ref o, l1] S h Q = aW d 212 43 [.ref o, l1] (.ref o :: S) h Q := ax_aload_n mt212 dX12_count_42 rfl
theorem s212_43 (hT : gT h o = some (14, 54)) : aW d 212 43 L (.ref o :: S) h Q = aW d 212 46 L (.int (gI h o 2) :: S) h Q := ax_geti mt212 dX12_count_43 (by decide) ft_49329 fk_49329 hT
theorem s212_46 : aW d 212 46 L [.int a] h Q = Q (some (.int a)) h := ax_reti mt212 dX12_count_46 rfl
theorem s212_37 : aW d 212 37 [.ref o, l1] S h Q = aW d 212 38 [.ref o, l1] (.ref o :: S) h Q := ax_aload_n mt212 dX12_count_37 rfl
theorem s212_38 (hT : gT h o = some (14, 54)) : aW d 212 38 L (.ref o :: S) h Q = aW d 212 41 L (.int (gI h o 1) :: S) h Q := ax_geti mt212 dX12_count_38 (by decide) ft_49281 fk_49281 hT
theorem s212_41 : aW d 212 41 L [.int a] h Q = Q (some (.int a)) h := ax_reti mt212 dX12_count_41 rfl
theorem s212_32 : aW d 212 32 [.ref o, l1] S h Q = aW d 212 33 [.ref o, l1] (.ref o :: S) h Q := ax_aload_n mt212 dX12_count_32 rfl
theorem s212_33 (hT : gT h o = some (14, 54)) : aW d 212 33 L (.ref o :: S) h Q = aW d 212 36 L (.int (gI h o 4) :: S) h Q := ax_geti mt212 dX12_count_33 (by decide) ft_49317 fk_49317 hT
theorem s212_36 : aW d 212 36 L [.int a] h Q = Q (some (.int a)) h := ax_reti mt212 dX12_count_36 rfl
theorem s212_60 : aW d 212 60 [l0, .int a] S h Q = aW d 212 61 [l0, .int a] (.int a :: S) h Q := ax_iload_n mt212 dX12_count_60 rfl
theorem s212_61 : aW d 212 61 L S h Q = aW d 212 62 L (.int (nI 4) :: S) h Q := ax_iconst mt212 dX12_count_61 ic_4
theorem s212_62 : aW d 212 62 L S h Q = aW d 212 64 L (.int (nI 7) :: S) h Q := ax_bipush mt212 dX12_count_62 bp_7
theorem s212_64 : aW (d + 1) 212 64 L (.int x2 :: .int x1 :: .int x0 :: []) h Q = aM d 139 [.int x0, .int x1, .int x2] h (fun v h1 => aW (d + 1) 212 67 L (ab_ps v []) h1 Q) := ax_invs mt212 dX12_count_64 (by decide) ct_49277 (.inl rfl) mt139 ⟨⟨Nat.le_of_ble_eq_true rfl, Nat.le_of_ble_eq_true rfl, Nat.le_of_ble_eq_true rfl⟩, rfl, rfl⟩
theorem s212_67 : aW d 212 67 L (.int a :: S) h Q = (if a = 0 then aW d 212 95 L S h Q else aW d 212 70 L S h Q) := ax_if_eq mt212 dX12_count_67 (by decide)
theorem s212_70 : aW d 212 70 [.ref o, l1] S h Q = aW d 212 71 [.ref o, l1] (.ref o :: S) h Q := ax_aload_n mt212 dX12_count_70 rfl
theorem s212_71 (hT : gT h o = some (14, 54)) : aW d 212 71 L (.ref o :: S) h Q = (isRf (gR h o 3) = true ∧ aW d 212 74 L (gR h o 3 :: S) h Q) := ax_geta mt212 dX12_count_71 (by decide) ft_49165 fk_49165 hT
theorem s212_74 : aW d 212 74 [l0, .int a] S h Q = aW d 212 75 [l0, .int a] (.int a :: S) h Q := ax_iload_n mt212 dX12_count_74 rfl
theorem s212_75 : aW d 212 75 L S h Q = aW d 212 76 L (.int (nI 4) :: S) h Q := ax_iconst mt212 dX12_count_75 ic_4
theorem s212_76 : aW d 212 76 L S h Q = aW d 212 78 L (.int (nI 7) :: S) h Q := ax_bipush mt212 dX12_count_76 bp_7
theorem s212_78 : aW (d + 1) 212 78 L (.int x2 :: .int x1 :: .int x0 :: [.ref q0]) h Q = aM d 139 [.int x0, .int x1, .int x2] h (fun v h1 => aW (d + 1) 212 81 L (ab_ps v [.ref q0]) h1 Q) := ax_invs mt212 dX12_count_78 (by decide) ct_49277 (.inl rfl) mt139 ⟨⟨Nat.le_of_ble_eq_true rfl, Nat.le_of_ble_eq_true rfl, Nat.le_of_ble_eq_true rfl⟩, rfl, rfl⟩
theorem s212_81 : aW d 212 81 L (.int a :: S) h Q = (if a = 0 then aW d 212 90 L S h Q else aW d 212 84 L S h Q) := ax_if_eq mt212 dX12_count_81 (by decide)
theorem s212_84 : aW d 212 84 [l0, .int a] S h Q = aW d 212 85 [l0, .int a] (.int a :: S) h Q := ax_iload_n mt212 dX12_count_84 rfl
theorem s212_85 : aW d 212 85 L S h Q = aW d 212 86 L (.int (nI 4) :: S) h Q := ax_iconst mt212 dX12_count_85 ic_4
theorem s212_86 : aW d 212 86 L (.int b :: .int a :: S) h Q = aW d 212 87 L (.int (a - b) :: S) h Q := ax_isub mt212 dX12_count_86
theorem s212_87 : aW d 212 87 L S h Q = aW d 212 91 L S h Q := ax_goto mt212 dX12_count_87 (by decide)
theorem s212_91 : aW d 212 91 L (.int a :: .ref o :: S) h Q = (inb a (aI h o) ∧ aW d 212 92 L (.int (gI h o a.toNatClampNeg) :: S) h Q) := ax_iald mt212 dX12_count_91
theorem s212_92 : aW d 212 92 L S h Q = aW d 212 97 L S h Q := ax_goto mt212 dX12_count_92 (by decide)
theorem s212_97 : aW d 212 97 L [.int a] h Q = Q (some (.int a)) h := ax_reti mt212 dX12_count_97 rfl
theorem s212_90 : aW d 212 90 L S h Q = aW d 212 91 L (.int (nI 0) :: S) h Q := ax_iconst mt212 dX12_count_90 ic_0
theorem s212_95 : aW d 212 95 L S h Q = aW d 212 97 L (.int ((-2)) :: S) h Q := ax_bipush mt212 dX12_count_95 bp_m2
-- method 213: BufferRoomModel.sheet(III)I
theorem dX12_sheet_0 : decode cX12_sheet 0 = .ok (.iload_n 1, 1) := by decide +kernel
theorem dX12_sheet_1 : decode cX12_sheet 1 = .ok (.iconst 0, 1) := by decide +kernel
theorem dX12_sheet_2 : decode cX12_sheet 2 = .ok (.iconst 3, 1) := by decide +kernel
theorem dX12_sheet_3 : decode cX12_sheet 3 = .ok (.invokestatic 125, 3) := by decide +kernel
theorem dX12_sheet_6 : decode cX12_sheet 6 = .ok (.ifCond .eq 23, 3) := by decide +kernel
theorem dX12_sheet_9 : decode cX12_sheet 9 = .ok (.iload_n 2, 1) := by decide +kernel
theorem dX12_sheet_10 : decode cX12_sheet 10 = .ok (.iconst (-1), 1) := by decide +kernel
theorem dX12_sheet_11 : decode cX12_sheet 11 = .ok (.iconst 2, 1) := by decide +kernel
theorem dX12_sheet_12 : decode cX12_sheet 12 = .ok (.invokestatic 125, 3) := by decide +kernel
theorem dX12_sheet_15 : decode cX12_sheet 15 = .ok (.ifCond .eq 14, 3) := by decide +kernel
theorem dX12_sheet_18 : decode cX12_sheet 18 = .ok (.iload_n 2, 1) := by decide +kernel
theorem dX12_sheet_19 : decode cX12_sheet 19 = .ok (.iconst (-1), 1) := by decide +kernel
theorem dX12_sheet_20 : decode cX12_sheet 20 = .ok (.if_icmp .eq 12, 3) := by decide +kernel
theorem dX12_sheet_23 : decode cX12_sheet 23 = .ok (.iload_n 3, 1) := by decide +kernel
theorem dX12_sheet_24 : decode cX12_sheet 24 = .ok (.bipush 40, 2) := by decide +kernel
theorem dX12_sheet_26 : decode cX12_sheet 26 = .ok (.if_icmp .le 6, 3) := by decide +kernel
theorem dX12_sheet_29 : decode cX12_sheet 29 = .ok (.bipush (-2), 2) := by decide +kernel
theorem dX12_sheet_31 : decode cX12_sheet 31 = .ok (.ireturn, 1) := by decide +kernel
theorem dX12_sheet_32 : decode cX12_sheet 32 = .ok (.iload_n 2, 1) := by decide +kernel
theorem dX12_sheet_33 : decode cX12_sheet 33 = .ok (.iconst (-1), 1) := by decide +kernel
theorem dX12_sheet_34 : decode cX12_sheet 34 = .ok (.if_icmp .eq 10, 3) := by decide +kernel
theorem dX12_sheet_37 : decode cX12_sheet 37 = .ok (.iload_n 3, 1) := by decide +kernel
theorem dX12_sheet_38 : decode cX12_sheet 38 = .ok (.ifCond .ge 6, 3) := by decide +kernel
theorem dX12_sheet_41 : decode cX12_sheet 41 = .ok (.bipush (-14), 2) := by decide +kernel
theorem dX12_sheet_43 : decode cX12_sheet 43 = .ok (.ireturn, 1) := by decide +kernel
theorem dX12_sheet_44 : decode cX12_sheet 44 = .ok (.aload_n 0, 1) := by decide +kernel
theorem dX12_sheet_45 : decode cX12_sheet 45 = .ok (.getfield 95, 3) := by decide +kernel
theorem dX12_sheet_48 : decode cX12_sheet 48 = .ok (.iload_n 1, 1) := by decide +kernel
theorem dX12_sheet_49 : decode cX12_sheet 49 = .ok (.iload_n 2, 1) := by decide +kernel
theorem dX12_sheet_50 : decode cX12_sheet 50 = .ok (.iastore, 1) := by decide +kernel
theorem dX12_sheet_51 : decode cX12_sheet 51 = .ok (.aload_n 0, 1) := by decide +kernel
theorem dX12_sheet_52 : decode cX12_sheet 52 = .ok (.getfield 98, 3) := by decide +kernel
theorem dX12_sheet_55 : decode cX12_sheet 55 = .ok (.iload_n 1, 1) := by decide +kernel
theorem dX12_sheet_56 : decode cX12_sheet 56 = .ok (.iload_n 2, 1) := by decide +kernel
theorem dX12_sheet_57 : decode cX12_sheet 57 = .ok (.iconst (-1), 1) := by decide +kernel
theorem dX12_sheet_58 : decode cX12_sheet 58 = .ok (.if_icmp .ne 7, 3) := by decide +kernel
theorem dX12_sheet_61 : decode cX12_sheet 61 = .ok (.iconst 0, 1) := by decide +kernel
theorem dX12_sheet_62 : decode cX12_sheet 62 = .ok (.goto 4, 3) := by decide +kernel
theorem dX12_sheet_65 : decode cX12_sheet 65 = .ok (.iload_n 3, 1) := by decide +kernel
theorem dX12_sheet_66 : decode cX12_sheet 66 = .ok (.iastore, 1) := by decide +kernel
theorem dX12_sheet_67 : decode cX12_sheet 67 = .ok (.iconst 0, 1) := by decide +kernel
theorem dX12_sheet_68 : decode cX12_sheet 68 = .ok (.istore 4, 2) := by decide +kernel
theorem dX12_sheet_70 : decode cX12_sheet 70 = .ok (.iload 4, 2) := by decide +kernel
theorem dX12_sheet_72 : decode cX12_sheet 72 = .ok (.bipush 40, 2) := by decide +kernel
theorem dX12_sheet_74 : decode cX12_sheet 74 = .ok (.if_icmp .ge 22, 3) := by decide +kernel
theorem dX12_sheet_77 : decode cX12_sheet 77 = .ok (.aload_n 0, 1) := by decide +kernel
theorem dX12_sheet_78 : decode cX12_sheet 78 = .ok (.getfield 101, 3) := by decide +kernel
theorem dX12_sheet_81 : decode cX12_sheet 81 = .ok (.bipush 40, 2) := by decide +kernel
theorem dX12_sheet_83 : decode cX12_sheet 83 = .ok (.iload_n 1, 1) := by decide +kernel
theorem dX12_sheet_84 : decode cX12_sheet 84 = .ok (.imul, 1) := by decide +kernel
theorem dX12_sheet_85 : decode cX12_sheet 85 = .ok (.iload 4, 2) := by decide +kernel
theorem dX12_sheet_87 : decode cX12_sheet 87 = .ok (.iadd, 1) := by decide +kernel
theorem dX12_sheet_88 : decode cX12_sheet 88 = .ok (.iconst 0, 1) := by decide +kernel
theorem dX12_sheet_89 : decode cX12_sheet 89 = .ok (.iastore, 1) := by decide +kernel
theorem dX12_sheet_90 : decode cX12_sheet 90 = .ok (.iinc 4 1, 3) := by decide +kernel
theorem dX12_sheet_93 : decode cX12_sheet 93 = .ok (.goto (-23), 3) := by decide +kernel
theorem dX12_sheet_96 : decode cX12_sheet 96 = .ok (.iconst 1, 1) := by decide +kernel
theorem dX12_sheet_97 : decode cX12_sheet 97 = .ok (.ireturn, 1) := by decide +kernel
theorem s213_0 : aW d 213 0 [l0, .int a, l2, l3, l4] S h Q = aW d 213 1 [l0, .int a, l2, l3, l4] (.int a :: S) h Q := ax_iload_n mt213 dX12_sheet_0 rfl
theorem s213_1 : aW d 213 1 L S h Q = aW d 213 2 L (.int (nI 0) :: S) h Q := ax_iconst mt213 dX12_sheet_1 ic_0
theorem s213_2 : aW d 213 2 L S h Q = aW d 213 3 L (.int (nI 3) :: S) h Q := ax_iconst mt213 dX12_sheet_2 ic_3
theorem s213_3 : aW (d + 1) 213 3 L (.int x2 :: .int x1 :: .int x0 :: []) h Q = aM d 139 [.int x0, .int x1, .int x2] h (fun v h1 => aW (d + 1) 213 6 L (ab_ps v []) h1 Q) := ax_invs mt213 dX12_sheet_3 (by decide) ct_49277 (.inl rfl) mt139 ⟨⟨Nat.le_of_ble_eq_true rfl, Nat.le_of_ble_eq_true rfl, Nat.le_of_ble_eq_true rfl⟩, rfl, rfl⟩
theorem s213_6 : aW d 213 6 L (.int a :: S) h Q = (if a = 0 then aW d 213 29 L S h Q else aW d 213 9 L S h Q) := ax_if_eq mt213 dX12_sheet_6 (by decide)
theorem s213_9 : aW d 213 9 [l0, l1, .int a, l3, l4] S h Q = aW d 213 10 [l0, l1, .int a, l3, l4] (.int a :: S) h Q := ax_iload_n mt213 dX12_sheet_9 rfl
theorem s213_10 : aW d 213 10 L S h Q = aW d 213 11 L (.int ((-1)) :: S) h Q := ax_iconst mt213 dX12_sheet_10 ic_m1
theorem s213_11 : aW d 213 11 L S h Q = aW d 213 12 L (.int (nI 2) :: S) h Q := ax_iconst mt213 dX12_sheet_11 ic_2
theorem s213_12 : aW (d + 1) 213 12 L (.int x2 :: .int x1 :: .int x0 :: []) h Q = aM d 139 [.int x0, .int x1, .int x2] h (fun v h1 => aW (d + 1) 213 15 L (ab_ps v []) h1 Q) := ax_invs mt213 dX12_sheet_12 (by decide) ct_49277 (.inl rfl) mt139 ⟨⟨Nat.le_of_ble_eq_true rfl, Nat.le_of_ble_eq_true rfl, Nat.le_of_ble_eq_true rfl⟩, rfl, rfl⟩
theorem s213_15 : aW d 213 15 L (.int a :: S) h Q = (if a = 0 then aW d 213 29 L S h Q else aW d 213 18 L S h Q) := ax_if_eq mt213 dX12_sheet_15 (by decide)
theorem s213_18 : aW d 213 18 [l0, l1, .int a, l3, l4] S h Q = aW d 213 19 [l0, l1, .int a, l3, l4] (.int a :: S) h Q := ax_iload_n mt213 dX12_sheet_18 rfl
theorem s213_19 : aW d 213 19 L S h Q = aW d 213 20 L (.int ((-1)) :: S) h Q := ax_iconst mt213 dX12_sheet_19 ic_m1
theorem s213_20 : aW d 213 20 L (.int b :: .int a :: S) h Q = (if a = b then aW d 213 32 L S h Q else aW d 213 23 L S h Q) := ax_icmp_eq mt213 dX12_sheet_20 (by decide)
theorem s213_23 : aW d 213 23 [l0, l1, l2, .int a, l4] S h Q = aW d 213 24 [l0, l1, l2, .int a, l4] (.int a :: S) h Q := ax_iload_n mt213 dX12_sheet_23 rfl
theorem s213_24 : aW d 213 24 L S h Q = aW d 213 26 L (.int (nI 40) :: S) h Q := ax_bipush mt213 dX12_sheet_24 bp_40
theorem s213_26 : aW d 213 26 L (.int b :: .int a :: S) h Q = (if b < a then aW d 213 29 L S h Q else aW d 213 32 L S h Q) := ax_icmp_le mt213 dX12_sheet_26 (by decide)
theorem s213_32 : aW d 213 32 [l0, l1, .int a, l3, l4] S h Q = aW d 213 33 [l0, l1, .int a, l3, l4] (.int a :: S) h Q := ax_iload_n mt213 dX12_sheet_32 rfl
theorem s213_33 : aW d 213 33 L S h Q = aW d 213 34 L (.int ((-1)) :: S) h Q := ax_iconst mt213 dX12_sheet_33 ic_m1
theorem s213_34 : aW d 213 34 L (.int b :: .int a :: S) h Q = (if a = b then aW d 213 44 L S h Q else aW d 213 37 L S h Q) := ax_icmp_eq mt213 dX12_sheet_34 (by decide)
theorem s213_37 : aW d 213 37 [l0, l1, l2, .int a, l4] S h Q = aW d 213 38 [l0, l1, l2, .int a, l4] (.int a :: S) h Q := ax_iload_n mt213 dX12_sheet_37 rfl
theorem s213_38 : aW d 213 38 L (.int a :: S) h Q = (if a < 0 then aW d 213 41 L S h Q else aW d 213 44 L S h Q) := ax_if_ge mt213 dX12_sheet_38 (by decide)
theorem s213_41 : aW d 213 41 L S h Q = aW d 213 43 L (.int ((-14)) :: S) h Q := ax_bipush mt213 dX12_sheet_41 bp_m14
theorem s213_43 : aW d 213 43 L [.int a] h Q = Q (some (.int a)) h := ax_reti mt213 dX12_sheet_43 rfl
theorem s213_44 : aW d 213 44 [.ref o, l1, l2, l3, l4] S h Q = aW d 213 45 [.ref o, l1, l2, l3, l4] (.ref o :: S) h Q := ax_aload_n mt213 dX12_sheet_44 rfl
theorem s213_45 (hT : gT h o = some (14, 54)) : aW d 213 45 L (.ref o :: S) h Q = (isRf (gR h o 42) = true ∧ aW d 213 48 L (gR h o 42 :: S) h Q) := ax_geta mt213 dX12_sheet_45 (by decide) ft_49247 fk_49247 hT
theorem s213_48 : aW d 213 48 [l0, .int a, l2, l3, l4] S h Q = aW d 213 49 [l0, .int a, l2, l3, l4] (.int a :: S) h Q := ax_iload_n mt213 dX12_sheet_48 rfl
theorem s213_49 : aW d 213 49 [l0, l1, .int a, l3, l4] S h Q = aW d 213 50 [l0, l1, .int a, l3, l4] (.int a :: S) h Q := ax_iload_n mt213 dX12_sheet_49 rfl
theorem s213_50 : aW d 213 50 L (.int b :: .int a :: .ref o :: S) h Q = (inb a (aJ h o) ∧ aW d 213 51 L S (pI h o a.toNatClampNeg b) Q) := ax_iast mt213 dX12_sheet_50
theorem s213_51 : aW d 213 51 [.ref o, l1, l2, l3, l4] S h Q = aW d 213 52 [.ref o, l1, l2, l3, l4] (.ref o :: S) h Q := ax_aload_n mt213 dX12_sheet_51 rfl
theorem s213_52 (hT : gT h o = some (14, 54)) : aW d 213 52 L (.ref o :: S) h Q = (isRf (gR h o 43) = true ∧ aW d 213 55 L (gR h o 43 :: S) h Q) := ax_geta mt213 dX12_sheet_52 (by decide) ft_49250 fk_49250 hT
theorem s213_55 : aW d 213 55 [l0, .int a, l2, l3, l4] S h Q = aW d 213 56 [l0, .int a, l2, l3, l4] (.int a :: S) h Q := ax_iload_n mt213 dX12_sheet_55 rfl
theorem s213_56 : aW d 213 56 [l0, l1, .int a, l3, l4] S h Q = aW d 213 57 [l0, l1, .int a, l3, l4] (.int a :: S) h Q := ax_iload_n mt213 dX12_sheet_56 rfl
theorem s213_57 : aW d 213 57 L S h Q = aW d 213 58 L (.int ((-1)) :: S) h Q := ax_iconst mt213 dX12_sheet_57 ic_m1
theorem s213_58 : aW d 213 58 L (.int b :: .int a :: S) h Q = (if a = b then aW d 213 61 L S h Q else aW d 213 65 L S h Q) := ax_icmp_ne mt213 dX12_sheet_58 (by decide)
theorem s213_61 : aW d 213 61 L S h Q = aW d 213 62 L (.int (nI 0) :: S) h Q := ax_iconst mt213 dX12_sheet_61 ic_0
theorem s213_62 : aW d 213 62 L S h Q = aW d 213 66 L S h Q := ax_goto mt213 dX12_sheet_62 (by decide)
theorem s213_66 : aW d 213 66 L (.int b :: .int a :: .ref o :: S) h Q = (inb a (aJ h o) ∧ aW d 213 67 L S (pI h o a.toNatClampNeg b) Q) := ax_iast mt213 dX12_sheet_66
theorem s213_67 : aW d 213 67 L S h Q = aW d 213 68 L (.int (nI 0) :: S) h Q := ax_iconst mt213 dX12_sheet_67 ic_0
theorem s213_68 : aW d 213 68 [l0, l1, l2, l3, l4] (.int a :: S) h Q = aW d 213 70 [l0, l1, l2, l3, .int a] S h Q := ax_istore mt213 dX12_sheet_68 (Nat.le_of_ble_eq_true rfl) rfl
theorem s213_70 : aW d 213 70 [l0, l1, l2, l3, .int a] S h Q = aW d 213 72 [l0, l1, l2, l3, .int a] (.int a :: S) h Q := ax_iload mt213 dX12_sheet_70 rfl
theorem s213_72 : aW d 213 72 L S h Q = aW d 213 74 L (.int (nI 40) :: S) h Q := ax_bipush mt213 dX12_sheet_72 bp_40
theorem s213_74 : aW d 213 74 L (.int b :: .int a :: S) h Q = (if a < b then aW d 213 77 L S h Q else aW d 213 96 L S h Q) := ax_icmp_ge mt213 dX12_sheet_74 (by decide)
theorem s213_77 : aW d 213 77 [.ref o, l1, l2, l3, l4] S h Q = aW d 213 78 [.ref o, l1, l2, l3, l4] (.ref o :: S) h Q := ax_aload_n mt213 dX12_sheet_77 rfl
theorem s213_78 (hT : gT h o = some (14, 54)) : aW d 213 78 L (.ref o :: S) h Q = (isRf (gR h o 44) = true ∧ aW d 213 81 L (gR h o 44 :: S) h Q) := ax_geta mt213 dX12_sheet_78 (by decide) ft_49253 fk_49253 hT
theorem s213_81 : aW d 213 81 L S h Q = aW d 213 83 L (.int (nI 40) :: S) h Q := ax_bipush mt213 dX12_sheet_81 bp_40
theorem s213_83 : aW d 213 83 [l0, .int a, l2, l3, l4] S h Q = aW d 213 84 [l0, .int a, l2, l3, l4] (.int a :: S) h Q := ax_iload_n mt213 dX12_sheet_83 rfl
theorem s213_84 : aW d 213 84 L (.int b :: .int a :: S) h Q = aW d 213 85 L (.int (a * b) :: S) h Q := ax_imul mt213 dX12_sheet_84
theorem s213_85 : aW d 213 85 [l0, l1, l2, l3, .int a] S h Q = aW d 213 87 [l0, l1, l2, l3, .int a] (.int a :: S) h Q := ax_iload mt213 dX12_sheet_85 rfl
theorem s213_87 : aW d 213 87 L (.int b :: .int a :: S) h Q = aW d 213 88 L (.int (a + b) :: S) h Q := ax_iadd mt213 dX12_sheet_87
theorem s213_88 : aW d 213 88 L S h Q = aW d 213 89 L (.int (nI 0) :: S) h Q := ax_iconst mt213 dX12_sheet_88 ic_0
theorem s213_89 : aW d 213 89 L (.int b :: .int a :: .ref o :: S) h Q = (inb a (aJ h o) ∧ aW d 213 90 L S (pI h o a.toNatClampNeg b) Q) := ax_iast mt213 dX12_sheet_89
theorem s213_90 : aW d 213 90 [l0, l1, l2, l3, .int a] S h Q = aW d 213 93 [l0, l1, l2, l3, .int (a + nI 1)] S h Q := ax_iinc mt213 dX12_sheet_90 rfl ic_1 rfl
theorem s213_93 : aW d 213 93 L S h Q = aW d 213 70 L S h Q := ax_goto mt213 dX12_sheet_93 (by decide)
theorem s213_96 : aW d 213 96 L S h Q = aW d 213 97 L (.int (nI 1) :: S) h Q := ax_iconst mt213 dX12_sheet_96 ic_1
theorem s213_97 : aW d 213 97 L [.int a] h Q = Q (some (.int a)) h := ax_reti mt213 dX12_sheet_97 rfl
theorem s213_65 : aW d 213 65 [l0, l1, l2, .int a, l4] S h Q = aW d 213 66 [l0, l1, l2, .int a, l4] (.int a :: S) h Q := ax_iload_n mt213 dX12_sheet_65 rfl
theorem s213_29 : aW d 213 29 L S h Q = aW d 213 31 L (.int ((-2)) :: S) h Q := ax_bipush mt213 dX12_sheet_29 bp_m2
theorem s213_31 : aW d 213 31 L [.int a] h Q = Q (some (.int a)) h := ax_reti mt213 dX12_sheet_31 rfl
-- method 214: BufferRoomModel.cell(III)I
theorem dX12_cell_0 : decode cX12_cell 0 = .ok (.iload_n 1, 1) := by decide +kernel
theorem dX12_cell_1 : decode cX12_cell 1 = .ok (.iconst 0, 1) := by decide +kernel
theorem dX12_cell_2 : decode cX12_cell 2 = .ok (.iconst 3, 1) := by decide +kernel
theorem dX12_cell_3 : decode cX12_cell 3 = .ok (.invokestatic 125, 3) := by decide +kernel
theorem dX12_cell_6 : decode cX12_cell 6 = .ok (.ifCond .ne 6, 3) := by decide +kernel
theorem dX12_cell_9 : decode cX12_cell 9 = .ok (.bipush (-2), 2) := by decide +kernel
theorem dX12_cell_11 : decode cX12_cell 11 = .ok (.ireturn, 1) := by decide +kernel
theorem dX12_cell_12 : decode cX12_cell 12 = .ok (.aload_n 0, 1) := by decide +kernel
theorem dX12_cell_13 : decode cX12_cell 13 = .ok (.getfield 95, 3) := by decide +kernel
theorem dX12_cell_16 : decode cX12_cell 16 = .ok (.iload_n 1, 1) := by decide +kernel
theorem dX12_cell_17 : decode cX12_cell 17 = .ok (.iaload, 1) := by decide +kernel
theorem dX12_cell_18 : decode cX12_cell 18 = .ok (.iconst (-1), 1) := by decide +kernel
theorem dX12_cell_19 : decode cX12_cell 19 = .ok (.if_icmp .ne 6, 3) := by decide +kernel
theorem dX12_cell_22 : decode cX12_cell 22 = .ok (.bipush (-11), 2) := by decide +kernel
theorem dX12_cell_24 : decode cX12_cell 24 = .ok (.ireturn, 1) := by decide +kernel
theorem dX12_cell_25 : decode cX12_cell 25 = .ok (.iload_n 2, 1) := by decide +kernel
theorem dX12_cell_26 : decode cX12_cell 26 = .ok (.iconst 0, 1) := by decide +kernel
theorem dX12_cell_27 : decode cX12_cell 27 = .ok (.aload_n 0, 1) := by decide +kernel
theorem dX12_cell_28 : decode cX12_cell 28 = .ok (.getfield 98, 3) := by decide +kernel
theorem dX12_cell_31 : decode cX12_cell 31 = .ok (.iload_n 1, 1) := by decide +kernel
theorem dX12_cell_32 : decode cX12_cell 32 = .ok (.iaload, 1) := by decide +kernel
theorem dX12_cell_33 : decode cX12_cell 33 = .ok (.iconst 1, 1) := by decide +kernel
theorem dX12_cell_34 : decode cX12_cell 34 = .ok (.isub, 1) := by decide +kernel
theorem dX12_cell_35 : decode cX12_cell 35 = .ok (.invokestatic 125, 3) := by decide +kernel
theorem dX12_cell_38 : decode cX12_cell 38 = .ok (.ifCond .ne 6, 3) := by decide +kernel
theorem dX12_cell_41 : decode cX12_cell 41 = .ok (.bipush (-12), 2) := by decide +kernel
theorem dX12_cell_43 : decode cX12_cell 43 = .ok (.ireturn, 1) := by decide +kernel
theorem dX12_cell_44 : decode cX12_cell 44 = .ok (.aload_n 0, 1) := by decide +kernel
theorem dX12_cell_45 : decode cX12_cell 45 = .ok (.getfield 101, 3) := by decide +kernel
theorem dX12_cell_48 : decode cX12_cell 48 = .ok (.bipush 40, 2) := by decide +kernel
theorem dX12_cell_50 : decode cX12_cell 50 = .ok (.iload_n 1, 1) := by decide +kernel
theorem dX12_cell_51 : decode cX12_cell 51 = .ok (.imul, 1) := by decide +kernel
theorem dX12_cell_52 : decode cX12_cell 52 = .ok (.iload_n 2, 1) := by decide +kernel
theorem dX12_cell_53 : decode cX12_cell 53 = .ok (.iadd, 1) := by decide +kernel
theorem dX12_cell_54 : decode cX12_cell 54 = .ok (.aload_n 0, 1) := by decide +kernel
theorem dX12_cell_55 : decode cX12_cell 55 = .ok (.getfield 95, 3) := by decide +kernel
theorem dX12_cell_58 : decode cX12_cell 58 = .ok (.iload_n 1, 1) := by decide +kernel
theorem dX12_cell_59 : decode cX12_cell 59 = .ok (.iaload, 1) := by decide +kernel
theorem dX12_cell_60 : decode cX12_cell 60 = .ok (.ifCond .ne 8, 3) := by decide +kernel
theorem dX12_cell_63 : decode cX12_cell 63 = .ok (.iload_n 3, 1) := by decide +kernel
theorem dX12_cell_64 : decode cX12_cell 64 = .ok (.i2b, 1) := by decide +kernel
theorem dX12_cell_65 : decode cX12_cell 65 = .ok (.goto 19, 3) := by decide +kernel
theorem dX12_cell_68 : decode cX12_cell 68 = .ok (.aload_n 0, 1) := by decide +kernel
theorem dX12_cell_69 : decode cX12_cell 69 = .ok (.getfield 95, 3) := by decide +kernel
theorem dX12_cell_72 : decode cX12_cell 72 = .ok (.iload_n 1, 1) := by decide +kernel
theorem dX12_cell_73 : decode cX12_cell 73 = .ok (.iaload, 1) := by decide +kernel
theorem dX12_cell_74 : decode cX12_cell 74 = .ok (.iconst 1, 1) := by decide +kernel
theorem dX12_cell_75 : decode cX12_cell 75 = .ok (.if_icmp .ne 8, 3) := by decide +kernel
theorem dX12_cell_78 : decode cX12_cell 78 = .ok (.iload_n 3, 1) := by decide +kernel
theorem dX12_cell_79 : decode cX12_cell 79 = .ok (.i2s, 1) := by decide +kernel
theorem dX12_cell_80 : decode cX12_cell 80 = .ok (.goto 4, 3) := by decide +kernel
theorem dX12_cell_83 : decode cX12_cell 83 = .ok (.iload_n 3, 1) := by decide +kernel
theorem dX12_cell_84 : decode cX12_cell 84 = .ok (.iastore, 1) := by decide +kernel
theorem dX12_cell_85 : decode cX12_cell 85 = .ok (.iconst 1, 1) := by decide +kernel
theorem dX12_cell_86 : decode cX12_cell 86 = .ok (.ireturn, 1) := by decide +kernel
theorem s214_0 : aW d 214 0 [l0, .int a, l2, l3] S h Q = aW d 214 1 [l0, .int a, l2, l3] (.int a :: S) h Q := ax_iload_n mt214 dX12_cell_0 rfl
theorem s214_1 : aW d 214 1 L S h Q = aW d 214 2 L (.int (nI 0) :: S) h Q := ax_iconst mt214 dX12_cell_1 ic_0
theorem s214_2 : aW d 214 2 L S h Q = aW d 214 3 L (.int (nI 3) :: S) h Q := ax_iconst mt214 dX12_cell_2 ic_3
theorem s214_3 : aW (d + 1) 214 3 L (.int x2 :: .int x1 :: .int x0 :: []) h Q = aM d 139 [.int x0, .int x1, .int x2] h (fun v h1 => aW (d + 1) 214 6 L (ab_ps v []) h1 Q) := ax_invs mt214 dX12_cell_3 (by decide) ct_49277 (.inl rfl) mt139 ⟨⟨Nat.le_of_ble_eq_true rfl, Nat.le_of_ble_eq_true rfl, Nat.le_of_ble_eq_true rfl⟩, rfl, rfl⟩
theorem s214_6 : aW d 214 6 L (.int a :: S) h Q = (if a = 0 then aW d 214 9 L S h Q else aW d 214 12 L S h Q) := ax_if_ne mt214 dX12_cell_6 (by decide)
theorem s214_9 : aW d 214 9 L S h Q = aW d 214 11 L (.int ((-2)) :: S) h Q := ax_bipush mt214 dX12_cell_9 bp_m2
theorem s214_11 : aW d 214 11 L [.int a] h Q = Q (some (.int a)) h := ax_reti mt214 dX12_cell_11 rfl
theorem s214_12 : aW d 214 12 [.ref o, l1, l2, l3] S h Q = aW d 214 13 [.ref o, l1, l2, l3] (.ref o :: S) h Q := ax_aload_n mt214 dX12_cell_12 rfl
theorem s214_13 (hT : gT h o = some (14, 54)) : aW d 214 13 L (.ref o :: S) h Q = (isRf (gR h o 42) = true ∧ aW d 214 16 L (gR h o 42 :: S) h Q) := ax_geta mt214 dX12_cell_13 (by decide) ft_49247 fk_49247 hT
theorem s214_16 : aW d 214 16 [l0, .int a, l2, l3] S h Q = aW d 214 17 [l0, .int a, l2, l3] (.int a :: S) h Q := ax_iload_n mt214 dX12_cell_16 rfl
theorem s214_17 : aW d 214 17 L (.int a :: .ref o :: S) h Q = (inb a (aI h o) ∧ aW d 214 18 L (.int (gI h o a.toNatClampNeg) :: S) h Q) := ax_iald mt214 dX12_cell_17
theorem s214_18 : aW d 214 18 L S h Q = aW d 214 19 L (.int ((-1)) :: S) h Q := ax_iconst mt214 dX12_cell_18 ic_m1
theorem s214_19 : aW d 214 19 L (.int b :: .int a :: S) h Q = (if a = b then aW d 214 22 L S h Q else aW d 214 25 L S h Q) := ax_icmp_ne mt214 dX12_cell_19 (by decide)
theorem s214_22 : aW d 214 22 L S h Q = aW d 214 24 L (.int ((-11)) :: S) h Q := ax_bipush mt214 dX12_cell_22 bp_m11
theorem s214_24 : aW d 214 24 L [.int a] h Q = Q (some (.int a)) h := ax_reti mt214 dX12_cell_24 rfl
theorem s214_25 : aW d 214 25 [l0, l1, .int a, l3] S h Q = aW d 214 26 [l0, l1, .int a, l3] (.int a :: S) h Q := ax_iload_n mt214 dX12_cell_25 rfl
theorem s214_26 : aW d 214 26 L S h Q = aW d 214 27 L (.int (nI 0) :: S) h Q := ax_iconst mt214 dX12_cell_26 ic_0
theorem s214_27 : aW d 214 27 [.ref o, l1, l2, l3] S h Q = aW d 214 28 [.ref o, l1, l2, l3] (.ref o :: S) h Q := ax_aload_n mt214 dX12_cell_27 rfl
theorem s214_28 (hT : gT h o = some (14, 54)) : aW d 214 28 L (.ref o :: S) h Q = (isRf (gR h o 43) = true ∧ aW d 214 31 L (gR h o 43 :: S) h Q) := ax_geta mt214 dX12_cell_28 (by decide) ft_49250 fk_49250 hT
theorem s214_31 : aW d 214 31 [l0, .int a, l2, l3] S h Q = aW d 214 32 [l0, .int a, l2, l3] (.int a :: S) h Q := ax_iload_n mt214 dX12_cell_31 rfl
theorem s214_32 : aW d 214 32 L (.int a :: .ref o :: S) h Q = (inb a (aI h o) ∧ aW d 214 33 L (.int (gI h o a.toNatClampNeg) :: S) h Q) := ax_iald mt214 dX12_cell_32
theorem s214_33 : aW d 214 33 L S h Q = aW d 214 34 L (.int (nI 1) :: S) h Q := ax_iconst mt214 dX12_cell_33 ic_1
theorem s214_34 : aW d 214 34 L (.int b :: .int a :: S) h Q = aW d 214 35 L (.int (a - b) :: S) h Q := ax_isub mt214 dX12_cell_34
theorem s214_35 : aW (d + 1) 214 35 L (.int x2 :: .int x1 :: .int x0 :: []) h Q = aM d 139 [.int x0, .int x1, .int x2] h (fun v h1 => aW (d + 1) 214 38 L (ab_ps v []) h1 Q) := ax_invs mt214 dX12_cell_35 (by decide) ct_49277 (.inl rfl) mt139 ⟨⟨Nat.le_of_ble_eq_true rfl, Nat.le_of_ble_eq_true rfl, Nat.le_of_ble_eq_true rfl⟩, rfl, rfl⟩
theorem s214_38 : aW d 214 38 L (.int a :: S) h Q = (if a = 0 then aW d 214 41 L S h Q else aW d 214 44 L S h Q) := ax_if_ne mt214 dX12_cell_38 (by decide)
theorem s214_41 : aW d 214 41 L S h Q = aW d 214 43 L (.int ((-12)) :: S) h Q := ax_bipush mt214 dX12_cell_41 bp_m12
theorem s214_43 : aW d 214 43 L [.int a] h Q = Q (some (.int a)) h := ax_reti mt214 dX12_cell_43 rfl
theorem s214_44 : aW d 214 44 [.ref o, l1, l2, l3] S h Q = aW d 214 45 [.ref o, l1, l2, l3] (.ref o :: S) h Q := ax_aload_n mt214 dX12_cell_44 rfl
theorem s214_45 (hT : gT h o = some (14, 54)) : aW d 214 45 L (.ref o :: S) h Q = (isRf (gR h o 44) = true ∧ aW d 214 48 L (gR h o 44 :: S) h Q) := ax_geta mt214 dX12_cell_45 (by decide) ft_49253 fk_49253 hT
theorem s214_48 : aW d 214 48 L S h Q = aW d 214 50 L (.int (nI 40) :: S) h Q := ax_bipush mt214 dX12_cell_48 bp_40
theorem s214_50 : aW d 214 50 [l0, .int a, l2, l3] S h Q = aW d 214 51 [l0, .int a, l2, l3] (.int a :: S) h Q := ax_iload_n mt214 dX12_cell_50 rfl
theorem s214_51 : aW d 214 51 L (.int b :: .int a :: S) h Q = aW d 214 52 L (.int (a * b) :: S) h Q := ax_imul mt214 dX12_cell_51
theorem s214_52 : aW d 214 52 [l0, l1, .int a, l3] S h Q = aW d 214 53 [l0, l1, .int a, l3] (.int a :: S) h Q := ax_iload_n mt214 dX12_cell_52 rfl
theorem s214_53 : aW d 214 53 L (.int b :: .int a :: S) h Q = aW d 214 54 L (.int (a + b) :: S) h Q := ax_iadd mt214 dX12_cell_53
theorem s214_54 : aW d 214 54 [.ref o, l1, l2, l3] S h Q = aW d 214 55 [.ref o, l1, l2, l3] (.ref o :: S) h Q := ax_aload_n mt214 dX12_cell_54 rfl
theorem s214_55 (hT : gT h o = some (14, 54)) : aW d 214 55 L (.ref o :: S) h Q = (isRf (gR h o 42) = true ∧ aW d 214 58 L (gR h o 42 :: S) h Q) := ax_geta mt214 dX12_cell_55 (by decide) ft_49247 fk_49247 hT
theorem s214_58 : aW d 214 58 [l0, .int a, l2, l3] S h Q = aW d 214 59 [l0, .int a, l2, l3] (.int a :: S) h Q := ax_iload_n mt214 dX12_cell_58 rfl
theorem s214_59 : aW d 214 59 L (.int a :: .ref o :: S) h Q = (inb a (aI h o) ∧ aW d 214 60 L (.int (gI h o a.toNatClampNeg) :: S) h Q) := ax_iald mt214 dX12_cell_59
theorem s214_60 : aW d 214 60 L (.int a :: S) h Q = (if a = 0 then aW d 214 63 L S h Q else aW d 214 68 L S h Q) := ax_if_ne mt214 dX12_cell_60 (by decide)
theorem s214_63 : aW d 214 63 [l0, l1, l2, .int a] S h Q = aW d 214 64 [l0, l1, l2, .int a] (.int a :: S) h Q := ax_iload_n mt214 dX12_cell_63 rfl
theorem s214_64 : aW d 214 64 L (.int a :: S) h Q = aW d 214 65 L (.int a.toInt8.toInt32 :: S) h Q := ax_i2b mt214 dX12_cell_64
theorem s214_65 : aW d 214 65 L S h Q = aW d 214 84 L S h Q := ax_goto mt214 dX12_cell_65 (by decide)
theorem s214_84 : aW d 214 84 L (.int b :: .int a :: .ref o :: S) h Q = (inb a (aJ h o) ∧ aW d 214 85 L S (pI h o a.toNatClampNeg b) Q) := ax_iast mt214 dX12_cell_84
theorem s214_85 : aW d 214 85 L S h Q = aW d 214 86 L (.int (nI 1) :: S) h Q := ax_iconst mt214 dX12_cell_85 ic_1
theorem s214_86 : aW d 214 86 L [.int a] h Q = Q (some (.int a)) h := ax_reti mt214 dX12_cell_86 rfl
theorem s214_68 : aW d 214 68 [.ref o, l1, l2, l3] S h Q = aW d 214 69 [.ref o, l1, l2, l3] (.ref o :: S) h Q := ax_aload_n mt214 dX12_cell_68 rfl
theorem s214_69 (hT : gT h o = some (14, 54)) : aW d 214 69 L (.ref o :: S) h Q = (isRf (gR h o 42) = true ∧ aW d 214 72 L (gR h o 42 :: S) h Q) := ax_geta mt214 dX12_cell_69 (by decide) ft_49247 fk_49247 hT
theorem s214_72 : aW d 214 72 [l0, .int a, l2, l3] S h Q = aW d 214 73 [l0, .int a, l2, l3] (.int a :: S) h Q := ax_iload_n mt214 dX12_cell_72 rfl
theorem s214_73 : aW d 214 73 L (.int a :: .ref o :: S) h Q = (inb a (aI h o) ∧ aW d 214 74 L (.int (gI h o a.toNatClampNeg) :: S) h Q) := ax_iald mt214 dX12_cell_73
theorem s214_74 : aW d 214 74 L S h Q = aW d 214 75 L (.int (nI 1) :: S) h Q := ax_iconst mt214 dX12_cell_74 ic_1
theorem s214_75 : aW d 214 75 L (.int b :: .int a :: S) h Q = (if a = b then aW d 214 78 L S h Q else aW d 214 83 L S h Q) := ax_icmp_ne mt214 dX12_cell_75 (by decide)
theorem s214_78 : aW d 214 78 [l0, l1, l2, .int a] S h Q = aW d 214 79 [l0, l1, l2, .int a] (.int a :: S) h Q := ax_iload_n mt214 dX12_cell_78 rfl
theorem s214_79 : aW d 214 79 L (.int a :: S) h Q = aW d 214 80 L (.int a.toInt16.toInt32 :: S) h Q := ax_i2s mt214 dX12_cell_79
theorem s214_80 : aW d 214 80 L S h Q = aW d 214 84 L S h Q := ax_goto mt214 dX12_cell_80 (by decide)
theorem s214_83 : aW d 214 83 [l0, l1, l2, .int a] S h Q = aW d 214 84 [l0, l1, l2, .int a] (.int a :: S) h Q := ax_iload_n mt214 dX12_cell_83 rfl
-- method 215: BufferRoomModel.copy(IIIII)I
theorem dX12_copy_0 : decode cX12_copy 0 = .ok (.iload_n 1, 1) := by decide +kernel
theorem dX12_copy_1 : decode cX12_copy 1 = .ok (.iconst 0, 1) := by decide +kernel
theorem dX12_copy_2 : decode cX12_copy 2 = .ok (.iconst 3, 1) := by decide +kernel
theorem dX12_copy_3 : decode cX12_copy 3 = .ok (.invokestatic 125, 3) := by decide +kernel
theorem dX12_copy_6 : decode cX12_copy 6 = .ok (.ifCond .eq 12, 3) := by decide +kernel
theorem dX12_copy_9 : decode cX12_copy 9 = .ok (.iload_n 3, 1) := by decide +kernel
theorem dX12_copy_10 : decode cX12_copy 10 = .ok (.iconst 0, 1) := by decide +kernel
theorem dX12_copy_11 : decode cX12_copy 11 = .ok (.iconst 3, 1) := by decide +kernel
theorem dX12_copy_12 : decode cX12_copy 12 = .ok (.invokestatic 125, 3) := by decide +kernel
theorem dX12_copy_15 : decode cX12_copy 15 = .ok (.ifCond .ne 6, 3) := by decide +kernel
theorem dX12_copy_18 : decode cX12_copy 18 = .ok (.bipush (-2), 2) := by decide +kernel
theorem dX12_copy_20 : decode cX12_copy 20 = .ok (.ireturn, 1) := by decide +kernel
theorem dX12_copy_21 : decode cX12_copy 21 = .ok (.aload_n 0, 1) := by decide +kernel
theorem dX12_copy_22 : decode cX12_copy 22 = .ok (.getfield 95, 3) := by decide +kernel
theorem dX12_copy_25 : decode cX12_copy 25 = .ok (.iload_n 1, 1) := by decide +kernel
theorem dX12_copy_26 : decode cX12_copy 26 = .ok (.iaload, 1) := by decide +kernel
theorem dX12_copy_27 : decode cX12_copy 27 = .ok (.iconst (-1), 1) := by decide +kernel
theorem dX12_copy_28 : decode cX12_copy 28 = .ok (.if_icmp .eq 13, 3) := by decide +kernel
theorem dX12_copy_31 : decode cX12_copy 31 = .ok (.aload_n 0, 1) := by decide +kernel
theorem dX12_copy_32 : decode cX12_copy 32 = .ok (.getfield 95, 3) := by decide +kernel
theorem dX12_copy_35 : decode cX12_copy 35 = .ok (.iload_n 3, 1) := by decide +kernel
theorem dX12_copy_36 : decode cX12_copy 36 = .ok (.iaload, 1) := by decide +kernel
theorem dX12_copy_37 : decode cX12_copy 37 = .ok (.iconst (-1), 1) := by decide +kernel
theorem dX12_copy_38 : decode cX12_copy 38 = .ok (.if_icmp .ne 6, 3) := by decide +kernel
theorem dX12_copy_41 : decode cX12_copy 41 = .ok (.bipush (-11), 2) := by decide +kernel
theorem dX12_copy_43 : decode cX12_copy 43 = .ok (.ireturn, 1) := by decide +kernel
theorem dX12_copy_44 : decode cX12_copy 44 = .ok (.aload_n 0, 1) := by decide +kernel
theorem dX12_copy_45 : decode cX12_copy 45 = .ok (.getfield 95, 3) := by decide +kernel
theorem dX12_copy_48 : decode cX12_copy 48 = .ok (.iload_n 1, 1) := by decide +kernel
theorem dX12_copy_49 : decode cX12_copy 49 = .ok (.iaload, 1) := by decide +kernel
theorem dX12_copy_50 : decode cX12_copy 50 = .ok (.aload_n 0, 1) := by decide +kernel
theorem dX12_copy_51 : decode cX12_copy 51 = .ok (.getfield 95, 3) := by decide +kernel
theorem dX12_copy_54 : decode cX12_copy 54 = .ok (.iload_n 3, 1) := by decide +kernel
theorem dX12_copy_55 : decode cX12_copy 55 = .ok (.iaload, 1) := by decide +kernel
theorem dX12_copy_56 : decode cX12_copy 56 = .ok (.if_icmp .eq 6, 3) := by decide +kernel
theorem dX12_copy_59 : decode cX12_copy 59 = .ok (.bipush (-13), 2) := by decide +kernel
theorem dX12_copy_61 : decode cX12_copy 61 = .ok (.ireturn, 1) := by decide +kernel
theorem dX12_copy_62 : decode cX12_copy 62 = .ok (.iload 5, 2) := by decide +kernel
theorem dX12_copy_64 : decode cX12_copy 64 = .ok (.ifCond .lt 60, 3) := by decide +kernel
theorem dX12_copy_67 : decode cX12_copy 67 = .ok (.iload_n 2, 1) := by decide +kernel
theorem dX12_copy_68 : decode cX12_copy 68 = .ok (.ifCond .lt 56, 3) := by decide +kernel
theorem dX12_copy_71 : decode cX12_copy 71 = .ok (.iload 4, 2) := by decide +kernel
theorem dX12_copy_73 : decode cX12_copy 73 = .ok (.ifCond .lt 51, 3) := by decide +kernel
theorem dX12_copy_76 : decode cX12_copy 76 = .ok (.iload_n 2, 1) := by decide +kernel
theorem dX12_copy_77 : decode cX12_copy 77 = .ok (.aload_n 0, 1) := by decide +kernel
theorem dX12_copy_78 : decode cX12_copy 78 = .ok (.getfield 98, 3) := by decide +kernel
theorem dX12_copy_81 : decode cX12_copy 81 = .ok (.iload_n 1, 1) := by decide +kernel
theorem dX12_copy_82 : decode cX12_copy 82 = .ok (.iaload, 1) := by decide +kernel
theorem dX12_copy_83 : decode cX12_copy 83 = .ok (.if_icmp .gt 41, 3) := by decide +kernel
theorem dX12_copy_86 : decode cX12_copy 86 = .ok (.iload 4, 2) := by decide +kernel
theorem dX12_copy_88 : decode cX12_copy 88 = .ok (.aload_n 0, 1) := by decide +kernel
theorem dX12_copy_89 : decode cX12_copy 89 = .ok (.getfield 98, 3) := by decide +kernel
theorem dX12_copy_92 : decode cX12_copy 92 = .ok (.iload_n 3, 1) := by decide +kernel
theorem dX12_copy_93 : decode cX12_copy 93 = .ok (.iaload, 1) := by decide +kernel
theorem dX12_copy_94 : decode cX12_copy 94 = .ok (.if_icmp .gt 30, 3) := by decide +kernel
theorem dX12_copy_97 : decode cX12_copy 97 = .ok (.iload 5, 2) := by decide +kernel
theorem dX12_copy_99 : decode cX12_copy 99 = .ok (.aload_n 0, 1) := by decide +kernel
theorem dX12_copy_100 : decode cX12_copy 100 = .ok (.getfield 98, 3) := by decide +kernel
theorem dX12_copy_103 : decode cX12_copy 103 = .ok (.iload_n 1, 1) := by decide +kernel
theorem dX12_copy_104 : decode cX12_copy 104 = .ok (.iaload, 1) := by decide +kernel
theorem dX12_copy_105 : decode cX12_copy 105 = .ok (.iload_n 2, 1) := by decide +kernel
theorem dX12_copy_106 : decode cX12_copy 106 = .ok (.isub, 1) := by decide +kernel
theorem dX12_copy_107 : decode cX12_copy 107 = .ok (.if_icmp .gt 17, 3) := by decide +kernel
theorem dX12_copy_110 : decode cX12_copy 110 = .ok (.iload 5, 2) := by decide +kernel
theorem dX12_copy_112 : decode cX12_copy 112 = .ok (.aload_n 0, 1) := by decide +kernel
theorem dX12_copy_113 : decode cX12_copy 113 = .ok (.getfield 98, 3) := by decide +kernel
theorem dX12_copy_116 : decode cX12_copy 116 = .ok (.iload_n 3, 1) := by decide +kernel
theorem dX12_copy_117 : decode cX12_copy 117 = .ok (.iaload, 1) := by decide +kernel
theorem dX12_copy_118 : decode cX12_copy 118 = .ok (.iload 4, 2) := by decide +kernel
theorem dX12_copy_120 : decode cX12_copy 120 = .ok (.isub, 1) := by decide +kernel
theorem dX12_copy_121 : decode cX12_copy 121 = .ok (.if_icmp .le 6, 3) := by decide +kernel
theorem dX12_copy_124 : decode cX12_copy 124 = .ok (.bipush (-12), 2) := by decide +kernel
theorem dX12_copy_126 : decode cX12_copy 126 = .ok (.ireturn, 1) := by decide +kernel
theorem dX12_copy_127 : decode cX12_copy 127 = .ok (.bipush 40, 2) := by decide +kernel
theorem dX12_copy_129 : decode cX12_copy 129 = .ok (.iload_n 1, 1) := by decide +kernel
theorem dX12_copy_130 : decode cX12_copy 130 = .ok (.imul, 1) := by decide +kernel
theorem dX12_copy_131 : decode cX12_copy 131 = .ok (.iload_n 2, 1) := by decide +kernel
theorem dX12_copy_132 : decode cX12_copy 132 = .ok (.iadd, 1) := by decide +kernel
theorem dX12_copy_133 : decode cX12_copy 133 = .ok (.istore 6, 2) := by decide +kernel
theorem dX12_copy_135 : decode cX12_copy 135 = .ok (.bipush 40, 2) := by decide +kernel
theorem dX12_copy_137 : decode cX12_copy 137 = .ok (.iload_n 3, 1) := by decide +kernel
theorem dX12_copy_138 : decode cX12_copy 138 = .ok (.imul, 1) := by decide +kernel
theorem dX12_copy_139 : decode cX12_copy 139 = .ok (.iload 4, 2) := by decide +kernel
theorem dX12_copy_141 : decode cX12_copy 141 = .ok (.iadd, 1) := by decide +kernel
theorem dX12_copy_142 : decode cX12_copy 142 = .ok (.istore 7, 2) := by decide +kernel
theorem dX12_copy_144 : decode cX12_copy 144 = .ok (.iconst 0, 1) := by decide +kernel
theorem dX12_copy_145 : decode cX12_copy 145 = .ok (.istore 8, 2) := by decide +kernel
theorem dX12_copy_147 : decode cX12_copy 147 = .ok (.iload 8, 2) := by decide +kernel
theorem dX12_copy_149 : decode cX12_copy 149 = .ok (.iload 5, 2) := by decide +kernel
theorem dX12_copy_151 : decode cX12_copy 151 = .ok (.if_icmp .ge 50, 3) := by decide +kernel
theorem dX12_copy_154 : decode cX12_copy 154 = .ok (.iload 6, 2) := by decide +kernel
theorem dX12_copy_156 : decode cX12_copy 156 = .ok (.iload 7, 2) := by decide +kernel
theorem dX12_copy_158 : decode cX12_copy 158 = .ok (.if_icmp .ge 13, 3) := by decide +kernel
theorem dX12_copy_161 : decode cX12_copy 161 = .ok (.iload 5, 2) := by decide +kernel
theorem dX12_copy_163 : decode cX12_copy 163 = .ok (.iconst 1, 1) := by decide +kernel
theorem dX12_copy_164 : decode cX12_copy 164 = .ok (.isub, 1) := by decide +kernel
theorem dX12_copy_165 : decode cX12_copy 165 = .ok (.iload 8, 2) := by decide +kernel
theorem dX12_copy_167 : decode cX12_copy 167 = .ok (.isub, 1) := by decide +kernel
theorem dX12_copy_168 : decode cX12_copy 168 = .ok (.goto 5, 3) := by decide +kernel
theorem dX12_copy_171 : decode cX12_copy 171 = .ok (.iload 8, 2) := by decide +kernel
theorem dX12_copy_173 : decode cX12_copy 173 = .ok (.istore 9, 2) := by decide +kernel
theorem dX12_copy_175 : decode cX12_copy 175 = .ok (.aload_n 0, 1) := by decide +kernel
theorem dX12_copy_176 : decode cX12_copy 176 = .ok (.getfield 101, 3) := by decide +kernel
theorem dX12_copy_179 : decode cX12_copy 179 = .ok (.iload 7, 2) := by decide +kernel
theorem dX12_copy_181 : decode cX12_copy 181 = .ok (.iload 9, 2) := by decide +kernel
theorem dX12_copy_183 : decode cX12_copy 183 = .ok (.iadd, 1) := by decide +kernel
theorem dX12_copy_184 : decode cX12_copy 184 = .ok (.aload_n 0, 1) := by decide +kernel
theorem dX12_copy_185 : decode cX12_copy 185 = .ok (.getfield 101, 3) := by decide +kernel
theorem dX12_copy_188 : decode cX12_copy 188 = .ok (.iload 6, 2) := by decide +kernel
theorem dX12_copy_190 : decode cX12_copy 190 = .ok (.iload 9, 2) := by decide +kernel
theorem dX12_copy_192 : decode cX12_copy 192 = .ok (.iadd, 1) := by decide +kernel
theorem dX12_copy_193 : decode cX12_copy 193 = .ok (.iaload, 1) := by decide +kernel
theorem dX12_copy_194 : decode cX12_copy 194 = .ok (.iastore, 1) := by decide +kernel
theorem dX12_copy_195 : decode cX12_copy 195 = .ok (.iinc 8 1, 3) := by decide +kernel
theorem dX12_copy_198 : decode cX12_copy 198 = .ok (.goto (-51), 3) := by decide +kernel
theorem dX12_copy_201 : decode cX12_copy 201 = .ok (.iload 5, 2) := by decide +kernel
theorem dX12_copy_203 : decode cX12_copy 203 = .ok (.ireturn, 1) := by decide +kernel
theorem s215_0 : aW d 215 0 [l0, .int a, l2, l3, l4, l5, l6, l7, l8, l9] S h Q = aW d 215 1 [l0, .int a, l2, l3, l4, l5, l6, l7, l8, l9] (.int a :: S) h Q := ax_iload_n mt215 dX12_copy_0 rfl
theorem s215_1 : aW d 215 1 L S h Q = aW d 215 2 L (.int (nI 0) :: S) h Q := ax_iconst mt215 dX12_copy_1 ic_0
theorem s215_2 : aW d 215 2 L S h Q = aW d 215 3 L (.int (nI 3) :: S) h Q := ax_iconst mt215 dX12_copy_2 ic_3
theorem s215_3 : aW (d + 1) 215 3 L (.int x2 :: .int x1 :: .int x0 :: []) h Q = aM d 139 [.int x0, .int x1, .int x2] h (fun v h1 => aW (d + 1) 215 6 L (ab_ps v []) h1 Q) := ax_invs mt215 dX12_copy_3 (by decide) ct_49277 (.inl rfl) mt139 ⟨⟨Nat.le_of_ble_eq_true rfl, Nat.le_of_ble_eq_true rfl, Nat.le_of_ble_eq_true rfl⟩, rfl, rfl⟩
theorem s215_6 : aW d 215 6 L (.int a :: S) h Q = (if a = 0 then aW d 215 18 L S h Q else aW d 215 9 L S h Q) := ax_if_eq mt215 dX12_copy_6 (by decide)
theorem s215_9 : aW d 215 9 [l0, l1, l2, .int a, l4, l5, l6, l7, l8, l9] S h Q = aW d 215 10 [l0, l1, l2, .int a, l4, l5, l6, l7, l8, l9] (.int a :: S) h Q := ax_iload_n mt215 dX12_copy_9 rfl
theorem s215_10 : aW d 215 10 L S h Q = aW d 215 11 L (.int (nI 0) :: S) h Q := ax_iconst mt215 dX12_copy_10 ic_0
theorem s215_11 : aW d 215 11 L S h Q = aW d 215 12 L (.int (nI 3) :: S) h Q := ax_iconst mt215 dX12_copy_11 ic_3
theorem s215_12 : aW (d + 1) 215 12 L (.int x2 :: .int x1 :: .int x0 :: []) h Q = aM d 139 [.int x0, .int x1, .int x2] h (fun v h1 => aW (d + 1) 215 15 L (ab_ps v []) h1 Q) := ax_invs mt215 dX12_copy_12 (by decide) ct_49277 (.inl rfl) mt139 ⟨⟨Nat.le_of_ble_eq_true rfl, Nat.le_of_ble_eq_true rfl, Nat.le_of_ble_eq_true rfl⟩, rfl, rfl⟩
theorem s215_15 : aW d 215 15 L (.int a :: S) h Q = (if a = 0 then aW d 215 18 L S h Q else aW d 215 21 L S h Q) := ax_if_ne mt215 dX12_copy_15 (by decide)
theorem s215_21 : aW d 215 21 [.ref o, l1, l2, l3, l4, l5, l6, l7, l8, l9] S h Q = aW d 215 22 [.ref o, l1, l2, l3, l4, l5, l6, l7, l8, l9] (.ref o :: S) h Q := ax_aload_n mt215 dX12_copy_21 rfl
theorem s215_22 (hT : gT h o = some (14, 54)) : aW d 215 22 L (.ref o :: S) h Q = (isRf (gR h o 42) = true ∧ aW d 215 25 L (gR h o 42 :: S) h Q) := ax_geta mt215 dX12_copy_22 (by decide) ft_49247 fk_49247 hT
theorem s215_25 : aW d 215 25 [l0, .int a, l2, l3, l4, l5, l6, l7, l8, l9] S h Q = aW d 215 26 [l0, .int a, l2, l3, l4, l5, l6, l7, l8, l9] (.int a :: S) h Q := ax_iload_n mt215 dX12_copy_25 rfl
theorem s215_26 : aW d 215 26 L (.int a :: .ref o :: S) h Q = (inb a (aI h o) ∧ aW d 215 27 L (.int (gI h o a.toNatClampNeg) :: S) h Q) := ax_iald mt215 dX12_copy_26
theorem s215_27 : aW d 215 27 L S h Q = aW d 215 28 L (.int ((-1)) :: S) h Q := ax_iconst mt215 dX12_copy_27 ic_m1
theorem s215_28 : aW d 215 28 L (.int b :: .int a :: S) h Q = (if a = b then aW d 215 41 L S h Q else aW d 215 31 L S h Q) := ax_icmp_eq mt215 dX12_copy_28 (by decide)
theorem s215_31 : aW d 215 31 [.ref o, l1, l2, l3, l4, l5, l6, l7, l8, l9] S h Q = aW d 215 32 [.ref o, l1, l2, l3, l4, l5, l6, l7, l8, l9] (.ref o :: S) h Q := ax_aload_n mt215 dX12_copy_31 rfl
theorem s215_32 (hT : gT h o = some (14, 54)) : aW d 215 32 L (.ref o :: S) h Q = (isRf (gR h o 42) = true ∧ aW d 215 35 L (gR h o 42 :: S) h Q) := ax_geta mt215 dX12_copy_32 (by decide) ft_49247 fk_49247 hT
theorem s215_35 : aW d 215 35 [l0, l1, l2, .int a, l4, l5, l6, l7, l8, l9] S h Q = aW d 215 36 [l0, l1, l2, .int a, l4, l5, l6, l7, l8, l9] (.int a :: S) h Q := ax_iload_n mt215 dX12_copy_35 rfl
theorem s215_36 : aW d 215 36 L (.int a :: .ref o :: S) h Q = (inb a (aI h o) ∧ aW d 215 37 L (.int (gI h o a.toNatClampNeg) :: S) h Q) := ax_iald mt215 dX12_copy_36
theorem s215_37 : aW d 215 37 L S h Q = aW d 215 38 L (.int ((-1)) :: S) h Q := ax_iconst mt215 dX12_copy_37 ic_m1
theorem s215_38 : aW d 215 38 L (.int b :: .int a :: S) h Q = (if a = b then aW d 215 41 L S h Q else aW d 215 44 L S h Q) := ax_icmp_ne mt215 dX12_copy_38 (by decide)
theorem s215_44 : aW d 215 44 [.ref o, l1, l2, l3, l4, l5, l6, l7, l8, l9] S h Q = aW d 215 45 [.ref o, l1, l2, l3, l4, l5, l6, l7, l8, l9] (.ref o :: S) h Q := ax_aload_n mt215 dX12_copy_44 rfl
theorem s215_45 (hT : gT h o = some (14, 54)) : aW d 215 45 L (.ref o :: S) h Q = (isRf (gR h o 42) = true ∧ aW d 215 48 L (gR h o 42 :: S) h Q) := ax_geta mt215 dX12_copy_45 (by decide) ft_49247 fk_49247 hT
theorem s215_48 : aW d 215 48 [l0, .int a, l2, l3, l4, l5, l6, l7, l8, l9] S h Q = aW d 215 49 [l0, .int a, l2, l3, l4, l5, l6, l7, l8, l9] (.int a :: S) h Q := ax_iload_n mt215 dX12_copy_48 rfl
theorem s215_49 : aW d 215 49 L (.int a :: .ref o :: S) h Q = (inb a (aI h o) ∧ aW d 215 50 L (.int (gI h o a.toNatClampNeg) :: S) h Q) := ax_iald mt215 dX12_copy_49
theorem s215_50 : aW d 215 50 [.ref o, l1, l2, l3, l4, l5, l6, l7, l8, l9] S h Q = aW d 215 51 [.ref o, l1, l2, l3, l4, l5, l6, l7, l8, l9] (.ref o :: S) h Q := ax_aload_n mt215 dX12_copy_50 rfl
theorem s215_51 (hT : gT h o = some (14, 54)) : aW d 215 51 L (.ref o :: S) h Q = (isRf (gR h o 42) = true ∧ aW d 215 54 L (gR h o 42 :: S) h Q) := ax_geta mt215 dX12_copy_51 (by decide) ft_49247 fk_49247 hT
theorem s215_54 : aW d 215 54 [l0, l1, l2, .int a, l4, l5, l6, l7, l8, l9] S h Q = aW d 215 55 [l0, l1, l2, .int a, l4, l5, l6, l7, l8, l9] (.int a :: S) h Q := ax_iload_n mt215 dX12_copy_54 rfl
theorem s215_55 : aW d 215 55 L (.int a :: .ref o :: S) h Q = (inb a (aI h o) ∧ aW d 215 56 L (.int (gI h o a.toNatClampNeg) :: S) h Q) := ax_iald mt215 dX12_copy_55
theorem s215_56 : aW d 215 56 L (.int b :: .int a :: S) h Q = (if a = b then aW d 215 62 L S h Q else aW d 215 59 L S h Q) := ax_icmp_eq mt215 dX12_copy_56 (by decide)
theorem s215_59 : aW d 215 59 L S h Q = aW d 215 61 L (.int ((-13)) :: S) h Q := ax_bipush mt215 dX12_copy_59 bp_m13
theorem s215_61 : aW d 215 61 L [.int a] h Q = Q (some (.int a)) h := ax_reti mt215 dX12_copy_61 rfl
theorem s215_62 : aW d 215 62 [l0, l1, l2, l3, l4, .int a, l6, l7, l8, l9] S h Q = aW d 215 64 [l0, l1, l2, l3, l4, .int a, l6, l7, l8, l9] (.int a :: S) h Q := ax_iload mt215 dX12_copy_62 rfl
theorem s215_64 : aW d 215 64 L (.int a :: S) h Q = (if a < 0 then aW d 215 124 L S h Q else aW d 215 67 L S h Q) := ax_if_lt mt215 dX12_copy_64 (by decide)
theorem s215_67 : aW d 215 67 [l0, l1, .int a, l3, l4, l5, l6, l7, l8, l9] S h Q = aW d 215 68 [l0, l1, .int a, l3, l4, l5, l6, l7, l8, l9] (.int a :: S) h Q := ax_iload_n mt215 dX12_copy_67 rfl
theorem s215_68 : aW d 215 68 L (.int a :: S) h Q = (if a < 0 then aW d 215 124 L S h Q else aW d 215 71 L S h Q) := ax_if_lt mt215 dX12_copy_68 (by decide)
theorem s215_71 : aW d 215 71 [l0, l1, l2, l3, .int a, l5, l6, l7, l8, l9] S h Q = aW d 215 73 [l0, l1, l2, l3, .int a, l5, l6, l7, l8, l9] (.int a :: S) h Q := ax_iload mt215 dX12_copy_71 rfl
theorem s215_73 : aW d 215 73 L (.int a :: S) h Q = (if a < 0 then aW d 215 124 L S h Q else aW d 215 76 L S h Q) := ax_if_lt mt215 dX12_copy_73 (by decide)
theorem s215_76 : aW d 215 76 [l0, l1, .int a, l3, l4, l5, l6, l7, l8, l9] S h Q = aW d 215 77 [l0, l1, .int a, l3, l4, l5, l6, l7, l8, l9] (.int a :: S) h Q := ax_iload_n mt215 dX12_copy_76 rfl
theorem s215_77 : aW d 215 77 [.ref o, l1, l2, l3, l4, l5, l6, l7, l8, l9] S h Q = aW d 215 78 [.ref o, l1, l2, l3, l4, l5, l6, l7, l8, l9] (.ref o :: S) h Q := ax_aload_n mt215 dX12_copy_77 rfl
theorem s215_78 (hT : gT h o = some (14, 54)) : aW d 215 78 L (.ref o :: S) h Q = (isRf (gR h o 43) = true ∧ aW d 215 81 L (gR h o 43 :: S) h Q) := ax_geta mt215 dX12_copy_78 (by decide) ft_49250 fk_49250 hT
theorem s215_81 : aW d 215 81 [l0, .int a, l2, l3, l4, l5, l6, l7, l8, l9] S h Q = aW d 215 82 [l0, .int a, l2, l3, l4, l5, l6, l7, l8, l9] (.int a :: S) h Q := ax_iload_n mt215 dX12_copy_81 rfl
theorem s215_82 : aW d 215 82 L (.int a :: .ref o :: S) h Q = (inb a (aI h o) ∧ aW d 215 83 L (.int (gI h o a.toNatClampNeg) :: S) h Q) := ax_iald mt215 dX12_copy_82
theorem s215_83 : aW d 215 83 L (.int b :: .int a :: S) h Q = (if b < a then aW d 215 124 L S h Q else aW d 215 86 L S h Q) := ax_icmp_gt mt215 dX12_copy_83 (by decide)
theorem s215_86 : aW d 215 86 [l0, l1, l2, l3, .int a, l5, l6, l7, l8, l9] S h Q = aW d 215 88 [l0, l1, l2, l3, .int a, l5, l6, l7, l8, l9] (.int a :: S) h Q := ax_iload mt215 dX12_copy_86 rfl
theorem s215_88 : aW d 215 88 [.ref o, l1, l2, l3, l4, l5, l6, l7, l8, l9] S h Q = aW d 215 89 [.ref o, l1, l2, l3, l4, l5, l6, l7, l8, l9] (.ref o :: S) h Q := ax_aload_n mt215 dX12_copy_88 rfl
theorem s215_89 (hT : gT h o = some (14, 54)) : aW d 215 89 L (.ref o :: S) h Q = (isRf (gR h o 43) = true ∧ aW d 215 92 L (gR h o 43 :: S) h Q) := ax_geta mt215 dX12_copy_89 (by decide) ft_49250 fk_49250 hT
theorem s215_92 : aW d 215 92 [l0, l1, l2, .int a, l4, l5, l6, l7, l8, l9] S h Q = aW d 215 93 [l0, l1, l2, .int a, l4, l5, l6, l7, l8, l9] (.int a :: S) h Q := ax_iload_n mt215 dX12_copy_92 rfl
theorem s215_93 : aW d 215 93 L (.int a :: .ref o :: S) h Q = (inb a (aI h o) ∧ aW d 215 94 L (.int (gI h o a.toNatClampNeg) :: S) h Q) := ax_iald mt215 dX12_copy_93
theorem s215_94 : aW d 215 94 L (.int b :: .int a :: S) h Q = (if b < a then aW d 215 124 L S h Q else aW d 215 97 L S h Q) := ax_icmp_gt mt215 dX12_copy_94 (by decide)
theorem s215_97 : aW d 215 97 [l0, l1, l2, l3, l4, .int a, l6, l7, l8, l9] S h Q = aW d 215 99 [l0, l1, l2, l3, l4, .int a, l6, l7, l8, l9] (.int a :: S) h Q := ax_iload mt215 dX12_copy_97 rfl
theorem s215_99 : aW d 215 99 [.ref o, l1, l2, l3, l4, l5, l6, l7, l8, l9] S h Q = aW d 215 100 [.ref o, l1, l2, l3, l4, l5, l6, l7, l8, l9] (.ref o :: S) h Q := ax_aload_n mt215 dX12_copy_99 rfl
theorem s215_100 (hT : gT h o = some (14, 54)) : aW d 215 100 L (.ref o :: S) h Q = (isRf (gR h o 43) = true ∧ aW d 215 103 L (gR h o 43 :: S) h Q) := ax_geta mt215 dX12_copy_100 (by decide) ft_49250 fk_49250 hT
theorem s215_103 : aW d 215 103 [l0, .int a, l2, l3, l4, l5, l6, l7, l8, l9] S h Q = aW d 215 104 [l0, .int a, l2, l3, l4, l5, l6, l7, l8, l9] (.int a :: S) h Q := ax_iload_n mt215 dX12_copy_103 rfl
theorem s215_104 : aW d 215 104 L (.int a :: .ref o :: S) h Q = (inb a (aI h o) ∧ aW d 215 105 L (.int (gI h o a.toNatClampNeg) :: S) h Q) := ax_iald mt215 dX12_copy_104
theorem s215_105 : aW d 215 105 [l0, l1, .int a, l3, l4, l5, l6, l7, l8, l9] S h Q = aW d 215 106 [l0, l1, .int a, l3, l4, l5, l6, l7, l8, l9] (.int a :: S) h Q := ax_iload_n mt215 dX12_copy_105 rfl
theorem s215_106 : aW d 215 106 L (.int b :: .int a :: S) h Q = aW d 215 107 L (.int (a - b) :: S) h Q := ax_isub mt215 dX12_copy_106
theorem s215_107 : aW d 215 107 L (.int b :: .int a :: S) h Q = (if b < a then aW d 215 124 L S h Q else aW d 215 110 L S h Q) := ax_icmp_gt mt215 dX12_copy_107 (by decide)
theorem s215_110 : aW d 215 110 [l0, l1, l2, l3, l4, .int a, l6, l7, l8, l9] S h Q = aW d 215 112 [l0, l1, l2, l3, l4, .int a, l6, l7, l8, l9] (.int a :: S) h Q := ax_iload mt215 dX12_copy_110 rfl
theorem s215_112 : aW d 215 112 [.ref o, l1, l2, l3, l4, l5, l6, l7, l8, l9] S h Q = aW d 215 113 [.ref o, l1, l2, l3, l4, l5, l6, l7, l8, l9] (.ref o :: S) h Q := ax_aload_n mt215 dX12_copy_112 rfl
theorem s215_113 (hT : gT h o = some (14, 54)) : aW d 215 113 L (.ref o :: S) h Q = (isRf (gR h o 43) = true ∧ aW d 215 116 L (gR h o 43 :: S) h Q) := ax_geta mt215 dX12_copy_113 (by decide) ft_49250 fk_49250 hT
theorem s215_116 : aW d 215 116 [l0, l1, l2, .int a, l4, l5, l6, l7, l8, l9] S h Q = aW d 215 117 [l0, l1, l2, .int a, l4, l5, l6, l7, l8, l9] (.int a :: S) h Q := ax_iload_n mt215 dX12_copy_116 rfl
theorem s215_117 : aW d 215 117 L (.int a :: .ref o :: S) h Q = (inb a (aI h o) ∧ aW d 215 118 L (.int (gI h o a.toNatClampNeg) :: S) h Q) := ax_iald mt215 dX12_copy_117
theorem s215_118 : aW d 215 118 [l0, l1, l2, l3, .int a, l5, l6, l7, l8, l9] S h Q = aW d 215 120 [l0, l1, l2, l3, .int a, l5, l6, l7, l8, l9] (.int a :: S) h Q := ax_iload mt215 dX12_copy_118 rfl
theorem s215_120 : aW d 215 120 L (.int b :: .int a :: S) h Q = aW d 215 121 L (.int (a - b) :: S) h Q := ax_isub mt215 dX12_copy_120
theorem s215_121 : aW d 215 121 L (.int b :: .int a :: S) h Q = (if b < a then aW d 215 124 L S h Q else aW d 215 127 L S h Q) := ax_icmp_le mt215 dX12_copy_121 (by decide)
theorem s215_127 : aW d 215 127 L S h Q = aW d 215 129 L (.int (nI 40) :: S) h Q := ax_bipush mt215 dX12_copy_127 bp_40
theorem s215_129 : aW d 215 129 [l0, .int a, l2, l3, l4, l5, l6, l7, l8, l9] S h Q = aW d 215 130 [l0, .int a, l2, l3, l4, l5, l6, l7, l8, l9] (.int a :: S) h Q := ax_iload_n mt215 dX12_copy_129 rfl
theorem s215_130 : aW d 215 130 L (.int b :: .int a :: S) h Q = aW d 215 131 L (.int (a * b) :: S) h Q := ax_imul mt215 dX12_copy_130
theorem s215_131 : aW d 215 131 [l0, l1, .int a, l3, l4, l5, l6, l7, l8, l9] S h Q = aW d 215 132 [l0, l1, .int a, l3, l4, l5, l6, l7, l8, l9] (.int a :: S) h Q := ax_iload_n mt215 dX12_copy_131 rfl
theorem s215_132 : aW d 215 132 L (.int b :: .int a :: S) h Q = aW d 215 133 L (.int (a + b) :: S) h Q := ax_iadd mt215 dX12_copy_132
theorem s215_133 : aW d 215 133 [l0, l1, l2, l3, l4, l5, l6, l7, l8, l9] (.int a :: S) h Q = aW d 215 135 [l0, l1, l2, l3, l4, l5, .int a, l7, l8, l9] S h Q := ax_istore mt215 dX12_copy_133 (Nat.le_of_ble_eq_true rfl) rfl
theorem s215_135 : aW d 215 135 L S h Q = aW d 215 137 L (.int (nI 40) :: S) h Q := ax_bipush mt215 dX12_copy_135 bp_40
theorem s215_137 : aW d 215 137 [l0, l1, l2, .int a, l4, l5, l6, l7, l8, l9] S h Q = aW d 215 138 [l0, l1, l2, .int a, l4, l5, l6, l7, l8, l9] (.int a :: S) h Q := ax_iload_n mt215 dX12_copy_137 rfl
theorem s215_138 : aW d 215 138 L (.int b :: .int a :: S) h Q = aW d 215 139 L (.int (a * b) :: S) h Q := ax_imul mt215 dX12_copy_138
theorem s215_139 : aW d 215 139 [l0, l1, l2, l3, .int a, l5, l6, l7, l8, l9] S h Q = aW d 215 141 [l0, l1, l2, l3, .int a, l5, l6, l7, l8, l9] (.int a :: S) h Q := ax_iload mt215 dX12_copy_139 rfl
theorem s215_141 : aW d 215 141 L (.int b :: .int a :: S) h Q = aW d 215 142 L (.int (a + b) :: S) h Q := ax_iadd mt215 dX12_copy_141
theorem s215_142 : aW d 215 142 [l0, l1, l2, l3, l4, l5, l6, l7, l8, l9] (.int a :: S) h Q = aW d 215 144 [l0, l1, l2, l3, l4, l5, l6, .int a, l8, l9] S h Q := ax_istore mt215 dX12_copy_142 (Nat.le_of_ble_eq_true rfl) rfl
theorem s215_144 : aW d 215 144 L S h Q = aW d 215 145 L (.int (nI 0) :: S) h Q := ax_iconst mt215 dX12_copy_144 ic_0
theorem s215_145 : aW d 215 145 [l0, l1, l2, l3, l4, l5, l6, l7, l8, l9] (.int a :: S) h Q = aW d 215 147 [l0, l1, l2, l3, l4, l5, l6, l7, .int a, l9] S h Q := ax_istore mt215 dX12_copy_145 (Nat.le_of_ble_eq_true rfl) rfl
theorem s215_147 : aW d 215 147 [l0, l1, l2, l3, l4, l5, l6, l7, .int a, l9] S h Q = aW d 215 149 [l0, l1, l2, l3, l4, l5, l6, l7, .int a, l9] (.int a :: S) h Q := ax_iload mt215 dX12_copy_147 rfl
theorem s215_149 : aW d 215 149 [l0, l1, l2, l3, l4, .int a, l6, l7, l8, l9] S h Q = aW d 215 151 [l0, l1, l2, l3, l4, .int a, l6, l7, l8, l9] (.int a :: S) h Q := ax_iload mt215 dX12_copy_149 rfl
theorem s215_151 : aW d 215 151 L (.int b :: .int a :: S) h Q = (if a < b then aW d 215 154 L S h Q else aW d 215 201 L S h Q) := ax_icmp_ge mt215 dX12_copy_151 (by decide)
theorem s215_154 : aW d 215 154 [l0, l1, l2, l3, l4, l5, .int a, l7, l8, l9] S h Q = aW d 215 156 [l0, l1, l2, l3, l4, l5, .int a, l7, l8, l9] (.int a :: S) h Q := ax_iload mt215 dX12_copy_154 rfl
theorem s215_156 : aW d 215 156 [l0, l1, l2, l3, l4, l5, l6, .int a, l8, l9] S h Q = aW d 215 158 [l0, l1, l2, l3, l4, l5, l6, .int a, l8, l9] (.int a :: S) h Q := ax_iload mt215 dX12_copy_156 rfl
theorem s215_158 : aW d 215 158 L (.int b :: .int a :: S) h Q = (if a < b then aW d 215 161 L S h Q else aW d 215 171 L S h Q) := ax_icmp_ge mt215 dX12_copy_158 (by decide)
theorem s215_161 : aW d 215 161 [l0, l1, l2, l3, l4, .int a, l6, l7, l8, l9] S h Q = aW d 215 163 [l0, l1, l2, l3, l4, .int a, l6, l7, l8, l9] (.int a :: S) h Q := ax_iload mt215 dX12_copy_161 rfl
theorem s215_163 : aW d 215 163 L S h Q = aW d 215 164 L (.int (nI 1) :: S) h Q := ax_iconst mt215 dX12_copy_163 ic_1
theorem s215_164 : aW d 215 164 L (.int b :: .int a :: S) h Q = aW d 215 165 L (.int (a - b) :: S) h Q := ax_isub mt215 dX12_copy_164
theorem s215_165 : aW d 215 165 [l0, l1, l2, l3, l4, l5, l6, l7, .int a, l9] S h Q = aW d 215 167 [l0, l1, l2, l3, l4, l5, l6, l7, .int a, l9] (.int a :: S) h Q := ax_iload mt215 dX12_copy_165 rfl
theorem s215_167 : aW d 215 167 L (.int b :: .int a :: S) h Q = aW d 215 168 L (.int (a - b) :: S) h Q := ax_isub mt215 dX12_copy_167
theorem s215_168 : aW d 215 168 L S h Q = aW d 215 173 L S h Q := ax_goto mt215 dX12_copy_168 (by decide)
theorem s215_173 : aW d 215 173 [l0, l1, l2, l3, l4, l5, l6, l7, l8, l9] (.int a :: S) h Q = aW d 215 175 [l0, l1, l2, l3, l4, l5, l6, l7, l8, .int a] S h Q := ax_istore mt215 dX12_copy_173 (Nat.le_of_ble_eq_true rfl) rfl
theorem s215_175 : aW d 215 175 [.ref o, l1, l2, l3, l4, l5, l6, l7, l8, l9] S h Q = aW d 215 176 [.ref o, l1, l2, l3, l4, l5, l6, l7, l8, l9] (.ref o :: S) h Q := ax_aload_n mt215 dX12_copy_175 rfl
theorem s215_176 (hT : gT h o = some (14, 54)) : aW d 215 176 L (.ref o :: S) h Q = (isRf (gR h o 44) = true ∧ aW d 215 179 L (gR h o 44 :: S) h Q) := ax_geta mt215 dX12_copy_176 (by decide) ft_49253 fk_49253 hT
theorem s215_179 : aW d 215 179 [l0, l1, l2, l3, l4, l5, l6, .int a, l8, l9] S h Q = aW d 215 181 [l0, l1, l2, l3, l4, l5, l6, .int a, l8, l9] (.int a :: S) h Q := ax_iload mt215 dX12_copy_179 rfl
theorem s215_181 : aW d 215 181 [l0, l1, l2, l3, l4, l5, l6, l7, l8, .int a] S h Q = aW d 215 183 [l0, l1, l2, l3, l4, l5, l6, l7, l8, .int a] (.int a :: S) h Q := ax_iload mt215 dX12_copy_181 rfl
theorem s215_183 : aW d 215 183 L (.int b :: .int a :: S) h Q = aW d 215 184 L (.int (a + b) :: S) h Q := ax_iadd mt215 dX12_copy_183
theorem s215_184 : aW d 215 184 [.ref o, l1, l2, l3, l4, l5, l6, l7, l8, l9] S h Q = aW d 215 185 [.ref o, l1, l2, l3, l4, l5, l6, l7, l8, l9] (.ref o :: S) h Q := ax_aload_n mt215 dX12_copy_184 rfl
theorem s215_185 (hT : gT h o = some (14, 54)) : aW d 215 185 L (.ref o :: S) h Q = (isRf (gR h o 44) = true ∧ aW d 215 188 L (gR h o 44 :: S) h Q) := ax_geta mt215 dX12_copy_185 (by decide) ft_49253 fk_49253 hT
theorem s215_188 : aW d 215 188 [l0, l1, l2, l3, l4, l5, .int a, l7, l8, l9] S h Q = aW d 215 190 [l0, l1, l2, l3, l4, l5, .int a, l7, l8, l9] (.int a :: S) h Q := ax_iload mt215 dX12_copy_188 rfl
theorem s215_190 : aW d 215 190 [l0, l1, l2, l3, l4, l5, l6, l7, l8, .int a] S h Q = aW d 215 192 [l0, l1, l2, l3, l4, l5, l6, l7, l8, .int a] (.int a :: S) h Q := ax_iload mt215 dX12_copy_190 rfl
theorem s215_192 : aW d 215 192 L (.int b :: .int a :: S) h Q = aW d 215 193 L (.int (a + b) :: S) h Q := ax_iadd mt215 dX12_copy_192
theorem s215_193 : aW d 215 193 L (.int a :: .ref o :: S) h Q = (inb a (aI h o) ∧ aW d 215 194 L (.int (gI h o a.toNatClampNeg) :: S) h Q) := ax_iald mt215 dX12_copy_193
theorem s215_194 : aW d 215 194 L (.int b :: .int a :: .ref o :: S) h Q = (inb a (aJ h o) ∧ aW d 215 195 L S (pI h o a.toNatClampNeg b) Q) := ax_iast mt215 dX12_copy_194
theorem s215_195 : aW d 215 195 [l0, l1, l2, l3, l4, l5, l6, l7, .int a, l9] S h Q = aW d 215 198 [l0, l1, l2, l3, l4, l5, l6, l7, .int (a + nI 1), l9] S h Q := ax_iinc mt215 dX12_copy_195 rfl ic_1 rfl
theorem s215_198 : aW d 215 198 L S h Q = aW d 215 147 L S h Q := ax_goto mt215 dX12_copy_198 (by decide)
theorem s215_171 : aW d 215 171 [l0, l1, l2, l3, l4, l5, l6, l7, .int a, l9] S h Q = aW d 215 173 [l0, l1, l2, l3, l4, l5, l6, l7, .int a, l9] (.int a :: S) h Q := ax_iload mt215 dX12_copy_171 rfl
theorem s215_201 : aW d 215 201 [l0, l1, l2, l3, l4, .int a, l6, l7, l8, l9] S h Q = aW d 215 203 [l0, l1, l2, l3, l4, .int a, l6, l7, l8, l9] (.int a :: S) h Q := ax_iload mt215 dX12_copy_201 rfl
theorem s215_203 : aW d 215 203 L [.int a] h Q = Q (some (.int a)) h := ax_reti mt215 dX12_copy_203 rfl
theorem s215_124 : aW d 215 124 L S h Q = aW d 215 126 L (.int ((-12)) :: S) h Q := ax_bipush mt215 dX12_copy_124 bp_m12
theorem s215_126 : aW d 215 126 L [.int a] h Q = Q (some (.int a)) h := ax_reti mt215 dX12_copy_126 rfl
theorem s215_41 : aW d 215 41 L S h Q = aW d 215 43 L (.int ((-11)) :: S) h Q := ax_bipush mt215 dX12_copy_41 bp_m11
theorem s215_43 : aW d 215 43 L [.int a] h Q = Q (some (.int a)) h := ax_reti mt215 dX12_copy_43 rfl
theorem s215_18 : aW d 215 18 L S h Q = aW d 215 20 L (.int ((-2)) :: S) h Q := ax_bipush mt215 dX12_copy_18 bp_m2
theorem s215_20 : aW d 215 20 L [.int a] h Q = Q (some (.int a)) h := ax_reti mt215 dX12_copy_20 rfl
-- method 216: BufferRoomModel.lays(IIII)I
theorem dX12_lays_0 : decode cX12_lays 0 = .ok (.iload_n 1, 1) := by decide +kernel
theorem dX12_lays_1 : decode cX12_lays 1 = .ok (.iconst 0, 1) := by decide +kernel
theorem dX12_lays_2 : decode cX12_lays 2 = .ok (.iconst 3, 1) := by decide +kernel
theorem dX12_lays_3 : decode cX12_lays 3 = .ok (.invokestatic 125, 3) := by decide +kernel
theorem dX12_lays_6 : decode cX12_lays 6 = .ok (.ifCond .eq 23, 3) := by decide +kernel
theorem dX12_lays_9 : decode cX12_lays 9 = .ok (.iload_n 2, 1) := by decide +kernel
theorem dX12_lays_10 : decode cX12_lays 10 = .ok (.iconst 0, 1) := by decide +kernel
theorem dX12_lays_11 : decode cX12_lays 11 = .ok (.iconst 2, 1) := by decide +kernel
theorem dX12_lays_12 : decode cX12_lays 12 = .ok (.invokestatic 125, 3) := by decide +kernel
theorem dX12_lays_15 : decode cX12_lays 15 = .ok (.ifCond .eq 14, 3) := by decide +kernel
theorem dX12_lays_18 : decode cX12_lays 18 = .ok (.iload 4, 2) := by decide +kernel
theorem dX12_lays_20 : decode cX12_lays 20 = .ok (.iconst 0, 1) := by decide +kernel
theorem dX12_lays_21 : decode cX12_lays 21 = .ok (.bipush 20, 2) := by decide +kernel
theorem dX12_lays_23 : decode cX12_lays 23 = .ok (.invokestatic 125, 3) := by decide +kernel
theorem dX12_lays_26 : decode cX12_lays 26 = .ok (.ifCond .ne 6, 3) := by decide +kernel
theorem dX12_lays_29 : decode cX12_lays 29 = .ok (.bipush (-2), 2) := by decide +kernel
theorem dX12_lays_31 : decode cX12_lays 31 = .ok (.ireturn, 1) := by decide +kernel
theorem dX12_lays_32 : decode cX12_lays 32 = .ok (.aload_n 0, 1) := by decide +kernel
theorem dX12_lays_33 : decode cX12_lays 33 = .ok (.getfield 95, 3) := by decide +kernel
theorem dX12_lays_36 : decode cX12_lays 36 = .ok (.iload_n 1, 1) := by decide +kernel
theorem dX12_lays_37 : decode cX12_lays 37 = .ok (.iaload, 1) := by decide +kernel
theorem dX12_lays_38 : decode cX12_lays 38 = .ok (.iconst (-1), 1) := by decide +kernel
theorem dX12_lays_39 : decode cX12_lays 39 = .ok (.if_icmp .ne 6, 3) := by decide +kernel
theorem dX12_lays_42 : decode cX12_lays 42 = .ok (.bipush (-11), 2) := by decide +kernel
theorem dX12_lays_44 : decode cX12_lays 44 = .ok (.ireturn, 1) := by decide +kernel
theorem dX12_lays_45 : decode cX12_lays 45 = .ok (.aload_n 0, 1) := by decide +kernel
theorem dX12_lays_46 : decode cX12_lays 46 = .ok (.getfield 95, 3) := by decide +kernel
theorem dX12_lays_49 : decode cX12_lays 49 = .ok (.iload_n 1, 1) := by decide +kernel
theorem dX12_lays_50 : decode cX12_lays 50 = .ok (.iaload, 1) := by decide +kernel
theorem dX12_lays_51 : decode cX12_lays 51 = .ok (.iload_n 2, 1) := by decide +kernel
theorem dX12_lays_52 : decode cX12_lays 52 = .ok (.if_icmp .eq 6, 3) := by decide +kernel
theorem dX12_lays_55 : decode cX12_lays 55 = .ok (.bipush (-13), 2) := by decide +kernel
theorem dX12_lays_57 : decode cX12_lays 57 = .ok (.ireturn, 1) := by decide +kernel
theorem dX12_lays_58 : decode cX12_lays 58 = .ok (.iconst 0, 1) := by decide +kernel
theorem dX12_lays_59 : decode cX12_lays 59 = .ok (.istore 5, 2) := by decide +kernel
theorem dX12_lays_61 : decode cX12_lays 61 = .ok (.iconst 0, 1) := by decide +kernel
theorem dX12_lays_62 : decode cX12_lays 62 = .ok (.istore 6, 2) := by decide +kernel
theorem dX12_lays_64 : decode cX12_lays 64 = .ok (.iload 6, 2) := by decide +kernel
theorem dX12_lays_66 : decode cX12_lays 66 = .ok (.iload 4, 2) := by decide +kernel
theorem dX12_lays_68 : decode cX12_lays 68 = .ok (.if_icmp .ge 98, 3) := by decide +kernel
theorem dX12_lays_71 : decode cX12_lays 71 = .ok (.iload_n 3, 1) := by decide +kernel
theorem dX12_lays_72 : decode cX12_lays 72 = .ok (.iconst 2, 1) := by decide +kernel
theorem dX12_lays_73 : decode cX12_lays 73 = .ok (.iload 6, 2) := by decide +kernel
theorem dX12_lays_75 : decode cX12_lays 75 = .ok (.imul, 1) := by decide +kernel
theorem dX12_lays_76 : decode cX12_lays 76 = .ok (.iadd, 1) := by decide +kernel
theorem dX12_lays_77 : decode cX12_lays 77 = .ok (.istore 7, 2) := by decide +kernel
theorem dX12_lays_79 : decode cX12_lays 79 = .ok (.iload_n 3, 1) := by decide +kernel
theorem dX12_lays_80 : decode cX12_lays 80 = .ok (.ifCond .lt 22, 3) := by decide +kernel
theorem dX12_lays_83 : decode cX12_lays 83 = .ok (.iload 7, 2) := by decide +kernel
theorem dX12_lays_85 : decode cX12_lays 85 = .ok (.iload_n 3, 1) := by decide +kernel
theorem dX12_lays_86 : decode cX12_lays 86 = .ok (.if_icmp .lt 16, 3) := by decide +kernel
theorem dX12_lays_89 : decode cX12_lays 89 = .ok (.iload 7, 2) := by decide +kernel
theorem dX12_lays_91 : decode cX12_lays 91 = .ok (.aload_n 0, 1) := by decide +kernel
theorem dX12_lays_92 : decode cX12_lays 92 = .ok (.getfield 98, 3) := by decide +kernel
theorem dX12_lays_95 : decode cX12_lays 95 = .ok (.iload_n 1, 1) := by decide +kernel
theorem dX12_lays_96 : decode cX12_lays 96 = .ok (.iaload, 1) := by decide +kernel
theorem dX12_lays_97 : decode cX12_lays 97 = .ok (.iconst 2, 1) := by decide +kernel
theorem dX12_lays_98 : decode cX12_lays 98 = .ok (.isub, 1) := by decide +kernel
theorem dX12_lays_99 : decode cX12_lays 99 = .ok (.if_icmp .le 6, 3) := by decide +kernel
theorem dX12_lays_102 : decode cX12_lays 102 = .ok (.bipush (-12), 2) := by decide +kernel
theorem dX12_lays_104 : decode cX12_lays 104 = .ok (.ireturn, 1) := by decide +kernel
theorem dX12_lays_105 : decode cX12_lays 105 = .ok (.bipush 40, 2) := by decide +kernel
theorem dX12_lays_107 : decode cX12_lays 107 = .ok (.iload_n 1, 1) := by decide +kernel
theorem dX12_lays_108 : decode cX12_lays 108 = .ok (.imul, 1) := by decide +kernel
theorem dX12_lays_109 : decode cX12_lays 109 = .ok (.iload 7, 2) := by decide +kernel
theorem dX12_lays_111 : decode cX12_lays 111 = .ok (.iadd, 1) := by decide +kernel
theorem dX12_lays_112 : decode cX12_lays 112 = .ok (.istore 8, 2) := by decide +kernel
theorem dX12_lays_114 : decode cX12_lays 114 = .ok (.aload_n 0, 1) := by decide +kernel
theorem dX12_lays_115 : decode cX12_lays 115 = .ok (.aload_n 0, 1) := by decide +kernel
theorem dX12_lays_116 : decode cX12_lays 116 = .ok (.getfield 101, 3) := by decide +kernel
theorem dX12_lays_119 : decode cX12_lays 119 = .ok (.iload 8, 2) := by decide +kernel
theorem dX12_lays_121 : decode cX12_lays 121 = .ok (.iaload, 1) := by decide +kernel
theorem dX12_lays_122 : decode cX12_lays 122 = .ok (.aload_n 0, 1) := by decide +kernel
theorem dX12_lays_123 : decode cX12_lays 123 = .ok (.getfield 101, 3) := by decide +kernel
theorem dX12_lays_126 : decode cX12_lays 126 = .ok (.iload 8, 2) := by decide +kernel
theorem dX12_lays_128 : decode cX12_lays 128 = .ok (.iconst 1, 1) := by decide +kernel
theorem dX12_lays_129 : decode cX12_lays 129 = .ok (.iadd, 1) := by decide +kernel
theorem dX12_lays_130 : decode cX12_lays 130 = .ok (.iaload, 1) := by decide +kernel
theorem dX12_lays_131 : decode cX12_lays 131 = .ok (.invokevirtual 326, 3) := by decide +kernel
theorem dX12_lays_134 : decode cX12_lays 134 = .ok (.istore 9, 2) := by decide +kernel
theorem dX12_lays_136 : decode cX12_lays 136 = .ok (.iload 5, 2) := by decide +kernel
theorem dX12_lays_138 : decode cX12_lays 138 = .ok (.iload 9, 2) := by decide +kernel
theorem dX12_lays_140 : decode cX12_lays 140 = .ok (.bipush (-5), 2) := by decide +kernel
theorem dX12_lays_142 : decode cX12_lays 142 = .ok (.if_icmp .eq 14, 3) := by decide +kernel
theorem dX12_lays_145 : decode cX12_lays 145 = .ok (.iload 9, 2) := by decide +kernel
theorem dX12_lays_147 : decode cX12_lays 147 = .ok (.bipush (-2), 2) := by decide +kernel
theorem dX12_lays_149 : decode cX12_lays 149 = .ok (.if_icmp .eq 7, 3) := by decide +kernel
theorem dX12_lays_152 : decode cX12_lays 152 = .ok (.iconst 1, 1) := by decide +kernel
theorem dX12_lays_153 : decode cX12_lays 153 = .ok (.goto 4, 3) := by decide +kernel
theorem dX12_lays_156 : decode cX12_lays 156 = .ok (.iconst 0, 1) := by decide +kernel
theorem dX12_lays_157 : decode cX12_lays 157 = .ok (.iadd, 1) := by decide +kernel
theorem dX12_lays_158 : decode cX12_lays 158 = .ok (.istore 5, 2) := by decide +kernel
theorem dX12_lays_160 : decode cX12_lays 160 = .ok (.iinc 6 1, 3) := by decide +kernel
theorem dX12_lays_163 : decode cX12_lays 163 = .ok (.goto (-99), 3) := by decide +kernel
theorem dX12_lays_166 : decode cX12_lays 166 = .ok (.iload 5, 2) := by decide +kernel
theorem dX12_lays_168 : decode cX12_lays 168 = .ok (.ireturn, 1) := by decide +kernel
theorem s216_0 : aW d 216 0 [l0, .int a, l2, l3, l4, l5, l6, l7, l8, l9] S h Q = aW d 216 1 [l0, .int a, l2, l3, l4, l5, l6, l7, l8, l9] (.int a :: S) h Q := ax_iload_n mt216 dX12_lays_0 rfl
theorem s216_1 : aW d 216 1 L S h Q = aW d 216 2 L (.int (nI 0) :: S) h Q := ax_iconst mt216 dX12_lays_1 ic_0
theorem s216_2 : aW d 216 2 L S h Q = aW d 216 3 L (.int (nI 3) :: S) h Q := ax_iconst mt216 dX12_lays_2 ic_3
theorem s216_3 : aW (d + 1) 216 3 L (.int x2 :: .int x1 :: .int x0 :: []) h Q = aM d 139 [.int x0, .int x1, .int x2] h (fun v h1 => aW (d + 1) 216 6 L (ab_ps v []) h1 Q) := ax_invs mt216 dX12_lays_3 (by decide) ct_49277 (.inl rfl) mt139 ⟨⟨Nat.le_of_ble_eq_true rfl, Nat.le_of_ble_eq_true rfl, Nat.le_of_ble_eq_true rfl⟩, rfl, rfl⟩
theorem s216_6 : aW d 216 6 L (.int a :: S) h Q = (if a = 0 then aW d 216 29 L S h Q else aW d 216 9 L S h Q) := ax_if_eq mt216 dX12_lays_6 (by decide)
theorem s216_9 : aW d 216 9 [l0, l1, .int a, l3, l4, l5, l6, l7, l8, l9] S h Q = aW d 216 10 [l0, l1, .int a, l3, l4, l5, l6, l7, l8, l9] (.int a :: S) h Q := ax_iload_n mt216 dX12_lays_9 rfl
theorem s216_10 : aW d 216 10 L S h Q = aW d 216 11 L (.int (nI 0) :: S) h Q := ax_iconst mt216 dX12_lays_10 ic_0
theorem s216_11 : aW d 216 11 L S h Q = aW d 216 12 L (.int (nI 2) :: S) h Q := ax_iconst mt216 dX12_lays_11 ic_2
theorem s216_12 : aW (d + 1) 216 12 L (.int x2 :: .int x1 :: .int x0 :: []) h Q = aM d 139 [.int x0, .int x1, .int x2] h (fun v h1 => aW (d + 1) 216 15 L (ab_ps v []) h1 Q) := ax_invs mt216 dX12_lays_12 (by decide) ct_49277 (.inl rfl) mt139 ⟨⟨Nat.le_of_ble_eq_true rfl, Nat.le_of_ble_eq_true rfl, Nat.le_of_ble_eq_true rfl⟩, rfl, rfl⟩
theorem s216_15 : aW d 216 15 L (.int a :: S) h Q = (if a = 0 then aW d 216 29 L S h Q else aW d 216 18 L S h Q) := ax_if_eq mt216 dX12_lays_15 (by decide)
theorem s216_18 : aW d 216 18 [l0, l1, l2, l3, .int a, l5, l6, l7, l8, l9] S h Q = aW d 216 20 [l0, l1, l2, l3, .int a, l5, l6, l7, l8, l9] (.int a :: S) h Q := ax_iload mt216 dX12_lays_18 rfl
theorem s216_20 : aW d 216 20 L S h Q = aW d 216 21 L (.int (nI 0) :: S) h Q := ax_iconst mt216 dX12_lays_20 ic_0
theorem s216_21 : aW d 216 21 L S h Q = aW d 216 23 L (.int (nI 20) :: S) h Q := ax_bipush mt216 dX12_lays_21 bp_20
theorem s216_23 : aW (d + 1) 216 23 L (.int x2 :: .int x1 :: .int x0 :: []) h Q = aM d 139 [.int x0, .int x1, .int x2] h (fun v h1 => aW (d + 1) 216 26 L (ab_ps v []) h1 Q) := ax_invs mt216 dX12_lays_23 (by decide) ct_49277 (.inl rfl) mt139 ⟨⟨Nat.le_of_ble_eq_true rfl, Nat.le_of_ble_eq_true rfl, Nat.le_of_ble_eq_true rfl⟩, rfl, rfl⟩
theorem s216_26 : aW d 216 26 L (.int a :: S) h Q = (if a = 0 then aW d 216 29 L S h Q else aW d 216 32 L S h Q) := ax_if_ne mt216 dX12_lays_26 (by decide)
theorem s216_32 : aW d 216 32 [.ref o, l1, l2, l3, l4, l5, l6, l7, l8, l9] S h Q = aW d 216 33 [.ref o, l1, l2, l3, l4, l5, l6, l7, l8, l9] (.ref o :: S) h Q := ax_aload_n mt216 dX12_lays_32 rfl
theorem s216_33 (hT : gT h o = some (14, 54)) : aW d 216 33 L (.ref o :: S) h Q = (isRf (gR h o 42) = true ∧ aW d 216 36 L (gR h o 42 :: S) h Q) := ax_geta mt216 dX12_lays_33 (by decide) ft_49247 fk_49247 hT
theorem s216_36 : aW d 216 36 [l0, .int a, l2, l3, l4, l5, l6, l7, l8, l9] S h Q = aW d 216 37 [l0, .int a, l2, l3, l4, l5, l6, l7, l8, l9] (.int a :: S) h Q := ax_iload_n mt216 dX12_lays_36 rfl
theorem s216_37 : aW d 216 37 L (.int a :: .ref o :: S) h Q = (inb a (aI h o) ∧ aW d 216 38 L (.int (gI h o a.toNatClampNeg) :: S) h Q) := ax_iald mt216 dX12_lays_37
theorem s216_38 : aW d 216 38 L S h Q = aW d 216 39 L (.int ((-1)) :: S) h Q := ax_iconst mt216 dX12_lays_38 ic_m1
theorem s216_39 : aW d 216 39 L (.int b :: .int a :: S) h Q = (if a = b then aW d 216 42 L S h Q else aW d 216 45 L S h Q) := ax_icmp_ne mt216 dX12_lays_39 (by decide)
theorem s216_42 : aW d 216 42 L S h Q = aW d 216 44 L (.int ((-11)) :: S) h Q := ax_bipush mt216 dX12_lays_42 bp_m11
theorem s216_44 : aW d 216 44 L [.int a] h Q = Q (some (.int a)) h := ax_reti mt216 dX12_lays_44 rfl
theorem s216_45 : aW d 216 45 [.ref o, l1, l2, l3, l4, l5, l6, l7, l8, l9] S h Q = aW d 216 46 [.ref o, l1, l2, l3, l4, l5, l6, l7, l8, l9] (.ref o :: S) h Q := ax_aload_n mt216 dX12_lays_45 rfl
theorem s216_46 (hT : gT h o = some (14, 54)) : aW d 216 46 L (.ref o :: S) h Q = (isRf (gR h o 42) = true ∧ aW d 216 49 L (gR h o 42 :: S) h Q) := ax_geta mt216 dX12_lays_46 (by decide) ft_49247 fk_49247 hT
theorem s216_49 : aW d 216 49 [l0, .int a, l2, l3, l4, l5, l6, l7, l8, l9] S h Q = aW d 216 50 [l0, .int a, l2, l3, l4, l5, l6, l7, l8, l9] (.int a :: S) h Q := ax_iload_n mt216 dX12_lays_49 rfl
theorem s216_50 : aW d 216 50 L (.int a :: .ref o :: S) h Q = (inb a (aI h o) ∧ aW d 216 51 L (.int (gI h o a.toNatClampNeg) :: S) h Q) := ax_iald mt216 dX12_lays_50
theorem s216_51 : aW d 216 51 [l0, l1, .int a, l3, l4, l5, l6, l7, l8, l9] S h Q = aW d 216 52 [l0, l1, .int a, l3, l4, l5, l6, l7, l8, l9] (.int a :: S) h Q := ax_iload_n mt216 dX12_lays_51 rfl
theorem s216_52 : aW d 216 52 L (.int b :: .int a :: S) h Q = (if a = b then aW d 216 58 L S h Q else aW d 216 55 L S h Q) := ax_icmp_eq mt216 dX12_lays_52 (by decide)
theorem s216_55 : aW d 216 55 L S h Q = aW d 216 57 L (.int ((-13)) :: S) h Q := ax_bipush mt216 dX12_lays_55 bp_m13
theorem s216_57 : aW d 216 57 L [.int a] h Q = Q (some (.int a)) h := ax_reti mt216 dX12_lays_57 rfl
theorem s216_58 : aW d 216 58 L S h Q = aW d 216 59 L (.int (nI 0) :: S) h Q := ax_iconst mt216 dX12_lays_58 ic_0
theorem s216_59 : aW d 216 59 [l0, l1, l2, l3, l4, l5, l6, l7, l8, l9] (.int a :: S) h Q = aW d 216 61 [l0, l1, l2, l3, l4, .int a, l6, l7, l8, l9] S h Q := ax_istore mt216 dX12_lays_59 (Nat.le_of_ble_eq_true rfl) rfl
theorem s216_61 : aW d 216 61 L S h Q = aW d 216 62 L (.int (nI 0) :: S) h Q := ax_iconst mt216 dX12_lays_61 ic_0
theorem s216_62 : aW d 216 62 [l0, l1, l2, l3, l4, l5, l6, l7, l8, l9] (.int a :: S) h Q = aW d 216 64 [l0, l1, l2, l3, l4, l5, .int a, l7, l8, l9] S h Q := ax_istore mt216 dX12_lays_62 (Nat.le_of_ble_eq_true rfl) rfl
theorem s216_64 : aW d 216 64 [l0, l1, l2, l3, l4, l5, .int a, l7, l8, l9] S h Q = aW d 216 66 [l0, l1, l2, l3, l4, l5, .int a, l7, l8, l9] (.int a :: S) h Q := ax_iload mt216 dX12_lays_64 rfl
theorem s216_66 : aW d 216 66 [l0, l1, l2, l3, .int a, l5, l6, l7, l8, l9] S h Q = aW d 216 68 [l0, l1, l2, l3, .int a, l5, l6, l7, l8, l9] (.int a :: S) h Q := ax_iload mt216 dX12_lays_66 rfl
theorem s216_68 : aW d 216 68 L (.int b :: .int a :: S) h Q = (if a < b then aW d 216 71 L S h Q else aW d 216 166 L S h Q) := ax_icmp_ge mt216 dX12_lays_68 (by decide)
theorem s216_71 : aW d 216 71 [l0, l1, l2, .int a, l4, l5, l6, l7, l8, l9] S h Q = aW d 216 72 [l0, l1, l2, .int a, l4, l5, l6, l7, l8, l9] (.int a :: S) h Q := ax_iload_n mt216 dX12_lays_71 rfl
theorem s216_72 : aW d 216 72 L S h Q = aW d 216 73 L (.int (nI 2) :: S) h Q := ax_iconst mt216 dX12_lays_72 ic_2
theorem s216_73 : aW d 216 73 [l0, l1, l2, l3, l4, l5, .int a, l7, l8, l9] S h Q = aW d 216 75 [l0, l1, l2, l3, l4, l5, .int a, l7, l8, l9] (.int a :: S) h Q := ax_iload mt216 dX12_lays_73 rfl
theorem s216_75 : aW d 216 75 L (.int b :: .int a :: S) h Q = aW d 216 76 L (.int (a * b) :: S) h Q := ax_imul mt216 dX12_lays_75
theorem s216_76 : aW d 216 76 L (.int b :: .int a :: S) h Q = aW d 216 77 L (.int (a + b) :: S) h Q := ax_iadd mt216 dX12_lays_76
theorem s216_77 : aW d 216 77 [l0, l1, l2, l3, l4, l5, l6, l7, l8, l9] (.int a :: S) h Q = aW d 216 79 [l0, l1, l2, l3, l4, l5, l6, .int a, l8, l9] S h Q := ax_istore mt216 dX12_lays_77 (Nat.le_of_ble_eq_true rfl) rfl
theorem s216_79 : aW d 216 79 [l0, l1, l2, .int a, l4, l5, l6, l7, l8, l9] S h Q = aW d 216 80 [l0, l1, l2, .int a, l4, l5, l6, l7, l8, l9] (.int a :: S) h Q := ax_iload_n mt216 dX12_lays_79 rfl
theorem s216_80 : aW d 216 80 L (.int a :: S) h Q = (if a < 0 then aW d 216 102 L S h Q else aW d 216 83 L S h Q) := ax_if_lt mt216 dX12_lays_80 (by decide)
theorem s216_83 : aW d 216 83 [l0, l1, l2, l3, l4, l5, l6, .int a, l8, l9] S h Q = aW d 216 85 [l0, l1, l2, l3, l4, l5, l6, .int a, l8, l9] (.int a :: S) h Q := ax_iload mt216 dX12_lays_83 rfl
theorem s216_85 : aW d 216 85 [l0, l1, l2, .int a, l4, l5, l6, l7, l8, l9] S h Q = aW d 216 86 [l0, l1, l2, .int a, l4, l5, l6, l7, l8, l9] (.int a :: S) h Q := ax_iload_n mt216 dX12_lays_85 rfl
theorem s216_86 : aW d 216 86 L (.int b :: .int a :: S) h Q = (if a < b then aW d 216 102 L S h Q else aW d 216 89 L S h Q) := ax_icmp_lt mt216 dX12_lays_86 (by decide)
theorem s216_89 : aW d 216 89 [l0, l1, l2, l3, l4, l5, l6, .int a, l8, l9] S h Q = aW d 216 91 [l0, l1, l2, l3, l4, l5, l6, .int a, l8, l9] (.int a :: S) h Q := ax_iload mt216 dX12_lays_89 rfl
theorem s216_91 : aW d 216 91 [.ref o, l1, l2, l3, l4, l5, l6, l7, l8, l9] S h Q = aW d 216 92 [.ref o, l1, l2, l3, l4, l5, l6, l7, l8, l9] (.ref o :: S) h Q := ax_aload_n mt216 dX12_lays_91 rfl
theorem s216_92 (hT : gT h o = some (14, 54)) : aW d 216 92 L (.ref o :: S) h Q = (isRf (gR h o 43) = true ∧ aW d 216 95 L (gR h o 43 :: S) h Q) := ax_geta mt216 dX12_lays_92 (by decide) ft_49250 fk_49250 hT
theorem s216_95 : aW d 216 95 [l0, .int a, l2, l3, l4, l5, l6, l7, l8, l9] S h Q = aW d 216 96 [l0, .int a, l2, l3, l4, l5, l6, l7, l8, l9] (.int a :: S) h Q := ax_iload_n mt216 dX12_lays_95 rfl
theorem s216_96 : aW d 216 96 L (.int a :: .ref o :: S) h Q = (inb a (aI h o) ∧ aW d 216 97 L (.int (gI h o a.toNatClampNeg) :: S) h Q) := ax_iald mt216 dX12_lays_96
theorem s216_97 : aW d 216 97 L S h Q = aW d 216 98 L (.int (nI 2) :: S) h Q := ax_iconst mt216 dX12_lays_97 ic_2
theorem s216_98 : aW d 216 98 L (.int b :: .int a :: S) h Q = aW d 216 99 L (.int (a - b) :: S) h Q := ax_isub mt216 dX12_lays_98
theorem s216_99 : aW d 216 99 L (.int b :: .int a :: S) h Q = (if b < a then aW d 216 102 L S h Q else aW d 216 105 L S h Q) := ax_icmp_le mt216 dX12_lays_99 (by decide)
theorem s216_105 : aW d 216 105 L S h Q = aW d 216 107 L (.int (nI 40) :: S) h Q := ax_bipush mt216 dX12_lays_105 bp_40
theorem s216_107 : aW d 216 107 [l0, .int a, l2, l3, l4, l5, l6, l7, l8, l9] S h Q = aW d 216 108 [l0, .int a, l2, l3, l4, l5, l6, l7, l8, l9] (.int a :: S) h Q := ax_iload_n mt216 dX12_lays_107 rfl
theorem s216_108 : aW d 216 108 L (.int b :: .int a :: S) h Q = aW d 216 109 L (.int (a * b) :: S) h Q := ax_imul mt216 dX12_lays_108
theorem s216_109 : aW d 216 109 [l0, l1, l2, l3, l4, l5, l6, .int a, l8, l9] S h Q = aW d 216 111 [l0, l1, l2, l3, l4, l5, l6, .int a, l8, l9] (.int a :: S) h Q := ax_iload mt216 dX12_lays_109 rfl
theorem s216_111 : aW d 216 111 L (.int b :: .int a :: S) h Q = aW d 216 112 L (.int (a + b) :: S) h Q := ax_iadd mt216 dX12_lays_111
theorem s216_112 : aW d 216 112 [l0, l1, l2, l3, l4, l5, l6, l7, l8, l9] (.int a :: S) h Q = aW d 216 114 [l0, l1, l2, l3, l4, l5, l6, l7, .int a, l9] S h Q := ax_istore mt216 dX12_lays_112 (Nat.le_of_ble_eq_true rfl) rfl
theorem s216_114 : aW d 216 114 [.ref o, l1, l2, l3, l4, l5, l6, l7, l8, l9] S h Q = aW d 216 115 [.ref o, l1, l2, l3, l4, l5, l6, l7, l8, l9] (.ref o :: S) h Q := ax_aload_n mt216 dX12_lays_114 rfl
theorem s216_115 : aW d 216 115 [.ref o, l1, l2, l3, l4, l5, l6, l7, l8, l9] S h Q = aW d 216 116 [.ref o, l1, l2, l3, l4, l5, l6, l7, l8, l9] (.ref o :: S) h Q := ax_aload_n mt216 dX12_lays_115 rfl
theorem s216_116 (hT : gT h o = some (14, 54)) : aW d 216 116 L (.ref o :: S) h Q = (isRf (gR h o 44) = true ∧ aW d 216 119 L (gR h o 44 :: S) h Q) := ax_geta mt216 dX12_lays_116 (by decide) ft_49253 fk_49253 hT
theorem s216_119 : aW d 216 119 [l0, l1, l2, l3, l4, l5, l6, l7, .int a, l9] S h Q = aW d 216 121 [l0, l1, l2, l3, l4, l5, l6, l7, .int a, l9] (.int a :: S) h Q := ax_iload mt216 dX12_lays_119 rfl
theorem s216_121 : aW d 216 121 L (.int a :: .ref o :: S) h Q = (inb a (aI h o) ∧ aW d 216 122 L (.int (gI h o a.toNatClampNeg) :: S) h Q) := ax_iald mt216 dX12_lays_121
theorem s216_122 : aW d 216 122 [.ref o, l1, l2, l3, l4, l5, l6, l7, l8, l9] S h Q = aW d 216 123 [.ref o, l1, l2, l3, l4, l5, l6, l7, l8, l9] (.ref o :: S) h Q := ax_aload_n mt216 dX12_lays_122 rfl
theorem s216_123 (hT : gT h o = some (14, 54)) : aW d 216 123 L (.ref o :: S) h Q = (isRf (gR h o 44) = true ∧ aW d 216 126 L (gR h o 44 :: S) h Q) := ax_geta mt216 dX12_lays_123 (by decide) ft_49253 fk_49253 hT
theorem s216_126 : aW d 216 126 [l0, l1, l2, l3, l4, l5, l6, l7, .int a, l9] S h Q = aW d 216 128 [l0, l1, l2, l3, l4, l5, l6, l7, .int a, l9] (.int a :: S) h Q := ax_iload mt216 dX12_lays_126 rfl
theorem s216_128 : aW d 216 128 L S h Q = aW d 216 129 L (.int (nI 1) :: S) h Q := ax_iconst mt216 dX12_lays_128 ic_1
theorem s216_129 : aW d 216 129 L (.int b :: .int a :: S) h Q = aW d 216 130 L (.int (a + b) :: S) h Q := ax_iadd mt216 dX12_lays_129
theorem s216_130 : aW d 216 130 L (.int a :: .ref o :: S) h Q = (inb a (aI h o) ∧ aW d 216 131 L (.int (gI h o a.toNatClampNeg) :: S) h Q) := ax_iald mt216 dX12_lays_130
theorem s216_131 (hT : gT h o = some (14, 54)) : aW (d + 1) 216 131 L (.int x1 :: .int x0 :: .ref o :: []) h Q = aM d 187 (.ref o :: [.int x0, .int x1]) h (fun v h1 => aW (d + 1) 216 134 L (ab_ps v []) h1 Q) := ax_invv mt216 dX12_lays_131 (by decide) ct_49478 (.inl rfl) mt187 ⟨⟨Nat.le_of_ble_eq_true rfl, Nat.le_of_ble_eq_true rfl, Nat.le_of_ble_eq_true rfl⟩, rfl, rfl, rfl⟩ hT
theorem s216_134 : aW d 216 134 [l0, l1, l2, l3, l4, l5, l6, l7, l8, l9] (.int a :: S) h Q = aW d 216 136 [l0, l1, l2, l3, l4, l5, l6, l7, l8, .int a] S h Q := ax_istore mt216 dX12_lays_134 (Nat.le_of_ble_eq_true rfl) rfl
theorem s216_136 : aW d 216 136 [l0, l1, l2, l3, l4, .int a, l6, l7, l8, l9] S h Q = aW d 216 138 [l0, l1, l2, l3, l4, .int a, l6, l7, l8, l9] (.int a :: S) h Q := ax_iload mt216 dX12_lays_136 rfl
theorem s216_138 : aW d 216 138 [l0, l1, l2, l3, l4, l5, l6, l7, l8, .int a] S h Q = aW d 216 140 [l0, l1, l2, l3, l4, l5, l6, l7, l8, .int a] (.int a :: S) h Q := ax_iload mt216 dX12_lays_138 rfl
theorem s216_140 : aW d 216 140 L S h Q = aW d 216 142 L (.int ((-5)) :: S) h Q := ax_bipush mt216 dX12_lays_140 bp_m5
theorem s216_142 : aW d 216 142 L (.int b :: .int a :: S) h Q = (if a = b then aW d 216 156 L S h Q else aW d 216 145 L S h Q) := ax_icmp_eq mt216 dX12_lays_142 (by decide)
theorem s216_145 : aW d 216 145 [l0, l1, l2, l3, l4, l5, l6, l7, l8, .int a] S h Q = aW d 216 147 [l0, l1, l2, l3, l4, l5, l6, l7, l8, .int a] (.int a :: S) h Q := ax_iload mt216 dX12_lays_145 rfl
theorem s216_147 : aW d 216 147 L S h Q = aW d 216 149 L (.int ((-2)) :: S) h Q := ax_bipush mt216 dX12_lays_147 bp_m2
theorem s216_149 : aW d 216 149 L (.int b :: .int a :: S) h Q = (if a = b then aW d 216 156 L S h Q else aW d 216 152 L S h Q) := ax_icmp_eq mt216 dX12_lays_149 (by decide)
theorem s216_152 : aW d 216 152 L S h Q = aW d 216 153 L (.int (nI 1) :: S) h Q := ax_iconst mt216 dX12_lays_152 ic_1
theorem s216_153 : aW d 216 153 L S h Q = aW d 216 157 L S h Q := ax_goto mt216 dX12_lays_153 (by decide)
theorem s216_157 : aW d 216 157 L (.int b :: .int a :: S) h Q = aW d 216 158 L (.int (a + b) :: S) h Q := ax_iadd mt216 dX12_lays_157
theorem s216_158 : aW d 216 158 [l0, l1, l2, l3, l4, l5, l6, l7, l8, l9] (.int a :: S) h Q = aW d 216 160 [l0, l1, l2, l3, l4, .int a, l6, l7, l8, l9] S h Q := ax_istore mt216 dX12_lays_158 (Nat.le_of_ble_eq_true rfl) rfl
theorem s216_160 : aW d 216 160 [l0, l1, l2, l3, l4, l5, .int a, l7, l8, l9] S h Q = aW d 216 163 [l0, l1, l2, l3, l4, l5, .int (a + nI 1), l7, l8, l9] S h Q := ax_iinc mt216 dX12_lays_160 rfl ic_1 rfl
theorem s216_163 : aW d 216 163 L S h Q = aW d 216 64 L S h Q := ax_goto mt216 dX12_lays_163 (by decide)
theorem s216_156 : aW d 216 156 L S h Q = aW d 216 157 L (.int (nI 0) :: S) h Q := ax_iconst mt216 dX12_lays_156 ic_0
theorem s216_102 : aW d 216 102 L S h Q = aW d 216 104 L (.int ((-12)) :: S) h Q := ax_bipush mt216 dX12_lays_102 bp_m12
theorem s216_104 : aW d 216 104 L [.int a] h Q = Q (some (.int a)) h := ax_reti mt216 dX12_lays_104 rfl
theorem s216_166 : aW d 216 166 [l0, l1, l2, l3, l4, .int a, l6, l7, l8, l9] S h Q = aW d 216 168 [l0, l1, l2, l3, l4, .int a, l6, l7, l8, l9] (.int a :: S) h Q := ax_iload mt216 dX12_lays_166 rfl
theorem s216_168 : aW d 216 168 L [.int a] h Q = Q (some (.int a)) h := ax_reti mt216 dX12_lays_168 rfl
theorem s216_29 : aW d 216 29 L S h Q = aW d 216 31 L (.int ((-2)) :: S) h Q := ax_bipush mt216 dX12_lays_29 bp_m2
theorem s216_31 : aW d 216 31 L [.int a] h Q = Q (some (.int a)) h := ax_reti mt216 dX12_lays_31 rfl
-- method 217: BufferRoomModel.isUnder(II)Z
theorem dX12_isUnder_0 : decode cX12_isUnder 0 = .ok (.iload_n 1, 1) := by decide +kernel
theorem dX12_isUnder_1 : decode cX12_isUnder 1 = .ok (.ifCond .eq 28, 3) := by decide +kernel
theorem dX12_isUnder_4 : decode cX12_isUnder 4 = .ok (.iload_n 0, 1) := by decide +kernel
theorem dX12_isUnder_5 : decode cX12_isUnder 5 = .ok (.iload_n 1, 1) := by decide +kernel
theorem dX12_isUnder_6 : decode cX12_isUnder 6 = .ok (.if_icmp .eq 23, 3) := by decide +kernel
theorem dX12_isUnder_9 : decode cX12_isUnder 9 = .ok (.iload_n 1, 1) := by decide +kernel
theorem dX12_isUnder_10 : decode cX12_isUnder 10 = .ok (.iconst 1, 1) := by decide +kernel
theorem dX12_isUnder_11 : decode cX12_isUnder 11 = .ok (.if_icmp .ne 8, 3) := by decide +kernel
theorem dX12_isUnder_14 : decode cX12_isUnder 14 = .ok (.iload_n 0, 1) := by decide +kernel
theorem dX12_isUnder_15 : decode cX12_isUnder 15 = .ok (.iconst 3, 1) := by decide +kernel
theorem dX12_isUnder_16 : decode cX12_isUnder 16 = .ok (.if_icmp .eq 13, 3) := by decide +kernel
theorem dX12_isUnder_19 : decode cX12_isUnder 19 = .ok (.iload_n 1, 1) := by decide +kernel
theorem dX12_isUnder_20 : decode cX12_isUnder 20 = .ok (.iconst 2, 1) := by decide +kernel
theorem dX12_isUnder_21 : decode cX12_isUnder 21 = .ok (.if_icmp .ne 12, 3) := by decide +kernel
theorem dX12_isUnder_24 : decode cX12_isUnder 24 = .ok (.iload_n 0, 1) := by decide +kernel
theorem dX12_isUnder_25 : decode cX12_isUnder 25 = .ok (.iconst 4, 1) := by decide +kernel
theorem dX12_isUnder_26 : decode cX12_isUnder 26 = .ok (.if_icmp .lt 7, 3) := by decide +kernel
theorem dX12_isUnder_29 : decode cX12_isUnder 29 = .ok (.iconst 1, 1) := by decide +kernel
theorem dX12_isUnder_30 : decode cX12_isUnder 30 = .ok (.goto 4, 3) := by decide +kernel
theorem dX12_isUnder_33 : decode cX12_isUnder 33 = .ok (.iconst 0, 1) := by decide +kernel
theorem dX12_isUnder_34 : decode cX12_isUnder 34 = .ok (.ireturn, 1) := by decide +kernel
theorem s217_0 : aW d 217 0 [l0, .int a] S h Q = aW d 217 1 [l0, .int a] (.int a :: S) h Q := ax_iload_n mt217 dX12_isUnder_0 rfl
theorem s217_1 : aW d 217 1 L (.int a :: S) h Q = (if a = 0 then aW d 217 29 L S h Q else aW d 217 4 L S h Q) := ax_if_eq mt217 dX12_isUnder_1 (by decide)
theorem s217_4 : aW d 217 4 [.int a, l1] S h Q = aW d 217 5 [.int a, l1] (.int a :: S) h Q := ax_iload_n mt217 dX12_isUnder_4 rfl
theorem s217_5 : aW d 217 5 [l0, .int a] S h Q = aW d 217 6 [l0, .int a] (.int a :: S) h Q := ax_iload_n mt217 dX12_isUnder_5 rfl
theorem s217_6 : aW d 217 6 L (.int b :: .int a :: S) h Q = (if a = b then aW d 217 29 L S h Q else aW d 217 9 L S h Q) := ax_icmp_eq mt217 dX12_isUnder_6 (by decide)
theorem s217_9 : aW d 217 9 [l0, .int a] S h Q = aW d 217 10 [l0, .int a] (.int a :: S) h Q := ax_iload_n mt217 dX12_isUnder_9 rfl
theorem s217_10 : aW d 217 10 L S h Q = aW d 217 11 L (.int (nI 1) :: S) h Q := ax_iconst mt217 dX12_isUnder_10 ic_1
theorem s217_11 : aW d 217 11 L (.int b :: .int a :: S) h Q = (if a = b then aW d 217 14 L S h Q else aW d 217 19 L S h Q) := ax_icmp_ne mt217 dX12_isUnder_11 (by decide)
theorem s217_14 : aW d 217 14 [.int a, l1] S h Q = aW d 217 15 [.int a, l1] (.int a :: S) h Q := ax_iload_n mt217 dX12_isUnder_14 rfl
theorem s217_15 : aW d 217 15 L S h Q = aW d 217 16 L (.int (nI 3) :: S) h Q := ax_iconst mt217 dX12_isUnder_15 ic_3
theorem s217_16 : aW d 217 16 L (.int b :: .int a :: S) h Q = (if a = b then aW d 217 29 L S h Q else aW d 217 19 L S h Q) := ax_icmp_eq mt217 dX12_isUnder_16 (by decide)
theorem s217_19 : aW d 217 19 [l0, .int a] S h Q = aW d 217 20 [l0, .int a] (.int a :: S) h Q := ax_iload_n mt217 dX12_isUnder_19 rfl
theorem s217_20 : aW d 217 20 L S h Q = aW d 217 21 L (.int (nI 2) :: S) h Q := ax_iconst mt217 dX12_isUnder_20 ic_2
theorem s217_21 : aW d 217 21 L (.int b :: .int a :: S) h Q = (if a = b then aW d 217 24 L S h Q else aW d 217 33 L S h Q) := ax_icmp_ne mt217 dX12_isUnder_21 (by decide)
theorem s217_24 : aW d 217 24 [.int a, l1] S h Q = aW d 217 25 [.int a, l1] (.int a :: S) h Q := ax_iload_n mt217 dX12_isUnder_24 rfl
theorem s217_25 : aW d 217 25 L S h Q = aW d 217 26 L (.int (nI 4) :: S) h Q := ax_iconst mt217 dX12_isUnder_25 ic_4
theorem s217_26 : aW d 217 26 L (.int b :: .int a :: S) h Q = (if a < b then aW d 217 33 L S h Q else aW d 217 29 L S h Q) := ax_icmp_lt mt217 dX12_isUnder_26 (by decide)
theorem s217_33 : aW d 217 33 L S h Q = aW d 217 34 L (.int (nI 0) :: S) h Q := ax_iconst mt217 dX12_isUnder_33 ic_0
theorem s217_34 : aW d 217 34 L [.int a] h Q = (b01 a ∧ Q (some (.int a)) h) := ax_retz mt217 dX12_isUnder_34 rfl
theorem s217_29 : aW d 217 29 L S h Q = aW d 217 30 L (.int (nI 1) :: S) h Q := ax_iconst mt217 dX12_isUnder_29 ic_1
theorem s217_30 : aW d 217 30 L S h Q = aW d 217 34 L S h Q := ax_goto mt217 dX12_isUnder_30 (by decide)
-- method 218: BufferRoomModel.taken(III)I
theorem dX12_taken_0 : decode cX12_taken 0 = .ok (.iload_n 1, 1) := by decide +kernel
theorem dX12_taken_1 : decode cX12_taken 1 = .ok (.iconst 0, 1) := by decide +kernel
theorem dX12_taken_2 : decode cX12_taken 2 = .ok (.iconst 1, 1) := by decide +kernel
theorem dX12_taken_3 : decode cX12_taken 3 = .ok (.invokestatic 125, 3) := by decide +kernel
theorem dX12_taken_6 : decode cX12_taken 6 = .ok (.ifCond .eq 13, 3) := by decide +kernel
theorem dX12_taken_9 : decode cX12_taken 9 = .ok (.iload_n 3, 1) := by decide +kernel
theorem dX12_taken_10 : decode cX12_taken 10 = .ok (.iconst 0, 1) := by decide +kernel
theorem dX12_taken_11 : decode cX12_taken 11 = .ok (.bipush 6, 2) := by decide +kernel
theorem dX12_taken_13 : decode cX12_taken 13 = .ok (.invokestatic 125, 3) := by decide +kernel
theorem dX12_taken_16 : decode cX12_taken 16 = .ok (.ifCond .ne 6, 3) := by decide +kernel
theorem dX12_taken_19 : decode cX12_taken 19 = .ok (.bipush (-2), 2) := by decide +kernel
theorem dX12_taken_21 : decode cX12_taken 21 = .ok (.ireturn, 1) := by decide +kernel
theorem dX12_taken_22 : decode cX12_taken 22 = .ok (.iload_n 1, 1) := by decide +kernel
theorem dX12_taken_23 : decode cX12_taken 23 = .ok (.ifCond .ne 20, 3) := by decide +kernel
theorem dX12_taken_26 : decode cX12_taken 26 = .ok (.iload_n 2, 1) := by decide +kernel
theorem dX12_taken_27 : decode cX12_taken 27 = .ok (.iconst 0, 1) := by decide +kernel
theorem dX12_taken_28 : decode cX12_taken 28 = .ok (.aload_n 0, 1) := by decide +kernel
theorem dX12_taken_29 : decode cX12_taken 29 = .ok (.getfield 165, 3) := by decide +kernel
theorem dX12_taken_32 : decode cX12_taken 32 = .ok (.iconst 1, 1) := by decide +kernel
theorem dX12_taken_33 : decode cX12_taken 33 = .ok (.isub, 1) := by decide +kernel
theorem dX12_taken_34 : decode cX12_taken 34 = .ok (.invokestatic 125, 3) := by decide +kernel
theorem dX12_taken_37 : decode cX12_taken 37 = .ok (.ifCond .ne 17, 3) := by decide +kernel
theorem dX12_taken_40 : decode cX12_taken 40 = .ok (.goto 11, 3) := by decide +kernel
theorem dX12_taken_43 : decode cX12_taken 43 = .ok (.aload_n 0, 1) := by decide +kernel
theorem dX12_taken_44 : decode cX12_taken 44 = .ok (.iload_n 2, 1) := by decide +kernel
theorem dX12_taken_45 : decode cX12_taken 45 = .ok (.invokevirtual 240, 3) := by decide +kernel
theorem dX12_taken_48 : decode cX12_taken 48 = .ok (.ifCond .ne 6, 3) := by decide +kernel
theorem dX12_taken_51 : decode cX12_taken 51 = .ok (.bipush (-11), 2) := by decide +kernel
theorem dX12_taken_53 : decode cX12_taken 53 = .ok (.ireturn, 1) := by decide +kernel
theorem dX12_taken_54 : decode cX12_taken 54 = .ok (.iload_n 1, 1) := by decide +kernel
theorem dX12_taken_55 : decode cX12_taken 55 = .ok (.iconst 1, 1) := by decide +kernel
theorem dX12_taken_56 : decode cX12_taken 56 = .ok (.if_icmp .ne 21, 3) := by decide +kernel
theorem dX12_taken_59 : decode cX12_taken 59 = .ok (.iload_n 3, 1) := by decide +kernel
theorem dX12_taken_60 : decode cX12_taken 60 = .ok (.bipush 6, 2) := by decide +kernel
theorem dX12_taken_62 : decode cX12_taken 62 = .ok (.if_icmp .ne 12, 3) := by decide +kernel
theorem dX12_taken_65 : decode cX12_taken 65 = .ok (.aload_n 0, 1) := by decide +kernel
theorem dX12_taken_66 : decode cX12_taken 66 = .ok (.getfield 20, 3) := by decide +kernel
theorem dX12_taken_69 : decode cX12_taken 69 = .ok (.iload_n 2, 1) := by decide +kernel
theorem dX12_taken_70 : decode cX12_taken 70 = .ok (.iaload, 1) := by decide +kernel
theorem dX12_taken_71 : decode cX12_taken 71 = .ok (.goto 5, 3) := by decide +kernel
theorem dX12_taken_74 : decode cX12_taken 74 = .ok (.bipush (-13), 2) := by decide +kernel
theorem dX12_taken_76 : decode cX12_taken 76 = .ok (.ireturn, 1) := by decide +kernel
theorem dX12_taken_77 : decode cX12_taken 77 = .ok (.iload_n 3, 1) := by decide +kernel
theorem dX12_taken_78 : decode cX12_taken 78 = .ok (.bipush 6, 2) := by decide +kernel
theorem dX12_taken_80 : decode cX12_taken 80 = .ok (.if_icmp .ge 20, 3) := by decide +kernel
theorem dX12_taken_83 : decode cX12_taken 83 = .ok (.aload_n 0, 1) := by decide +kernel
theorem dX12_taken_84 : decode cX12_taken 84 = .ok (.getfield 32, 3) := by decide +kernel
theorem dX12_taken_87 : decode cX12_taken 87 = .ok (.iload_n 2, 1) := by decide +kernel
theorem dX12_taken_88 : decode cX12_taken 88 = .ok (.iaload, 1) := by decide +kernel
theorem dX12_taken_89 : decode cX12_taken 89 = .ok (.iload_n 3, 1) := by decide +kernel
theorem dX12_taken_90 : decode cX12_taken 90 = .ok (.invokestatic 329, 3) := by decide +kernel
theorem dX12_taken_93 : decode cX12_taken 93 = .ok (.ifCond .eq 7, 3) := by decide +kernel
theorem dX12_taken_96 : decode cX12_taken 96 = .ok (.iload_n 2, 1) := by decide +kernel
theorem dX12_taken_97 : decode cX12_taken 97 = .ok (.goto 5, 3) := by decide +kernel
theorem dX12_taken_100 : decode cX12_taken 100 = .ok (.bipush (-13), 2) := by decide +kernel
theorem dX12_taken_102 : decode cX12_taken 102 = .ok (.ireturn, 1) := by decide +kernel
theorem s218_0 : aW d 218 0 [l0, .int a, l2, l3] S h Q = aW d 218 1 [l0, .int a, l2, l3] (.int a :: S) h Q := ax_iload_n mt218 dX12_taken_0 rfl
theorem s218_1 : aW d 218 1 L S h Q = aW d 218 2 L (.int (nI 0) :: S) h Q := ax_iconst mt218 dX12_taken_1 ic_0
theorem s218_2 : aW d 218 2 L S h Q = aW d 218 3 L (.int (nI 1) :: S) h Q := ax_iconst mt218 dX12_taken_2 ic_1
theorem s218_3 : aW (d + 1) 218 3 L (.int x2 :: .int x1 :: .int x0 :: []) h Q = aM d 139 [.int x0, .int x1, .int x2] h (fun v h1 => aW (d + 1) 218 6 L (ab_ps v []) h1 Q) := ax_invs mt218 dX12_taken_3 (by decide) ct_49277 (.inl rfl) mt139 ⟨⟨Nat.le_of_ble_eq_true rfl, Nat.le_of_ble_eq_true rfl, Nat.le_of_ble_eq_true rfl⟩, rfl, rfl⟩
theorem s218_6 : aW d 218 6 L (.int a :: S) h Q = (if a = 0 then aW d 218 19 L S h Q else aW d 218 9 L S h Q) := ax_if_eq mt218 dX12_taken_6 (by decide)
theorem s218_9 : aW d 218 9 [l0, l1, l2, .int a] S h Q = aW d 218 10 [l0, l1, l2, .int a] (.int a :: S) h Q := ax_iload_n mt218 dX12_taken_9 rfl
theorem s218_10 : aW d 218 10 L S h Q = aW d 218 11 L (.int (nI 0) :: S) h Q := ax_iconst mt218 dX12_taken_10 ic_0
theorem s218_11 : aW d 218 11 L S h Q = aW d 218 13 L (.int (nI 6) :: S) h Q := ax_bipush mt218 dX12_taken_11 bp_6
theorem s218_13 : aW (d + 1) 218 13 L (.int x2 :: .int x1 :: .int x0 :: []) h Q = aM d 139 [.int x0, .int x1, .int x2] h (fun v h1 => aW (d + 1) 218 16 L (ab_ps v []) h1 Q) := ax_invs mt218 dX12_taken_13 (by decide) ct_49277 (.inl rfl) mt139 ⟨⟨Nat.le_of_ble_eq_true rfl, Nat.le_of_ble_eq_true rfl, Nat.le_of_ble_eq_true rfl⟩, rfl, rfl⟩
theorem s218_16 : aW d 218 16 L (.int a :: S) h Q = (if a = 0 then aW d 218 19 L S h Q else aW d 218 22 L S h Q) := ax_if_ne mt218 dX12_taken_16 (by decide)
theorem s218_22 : aW d 218 22 [l0, .int a, l2, l3] S h Q = aW d 218 23 [l0, .int a, l2, l3] (.int a :: S) h Q := ax_iload_n mt218 dX12_taken_22 rfl
theorem s218_23 : aW d 218 23 L (.int a :: S) h Q = (if a = 0 then aW d 218 26 L S h Q else aW d 218 43 L S h Q) := ax_if_ne mt218 dX12_taken_23 (by decide)
theorem s218_26 : aW d 218 26 [l0, l1, .int a, l3] S h Q = aW d 218 27 [l0, l1, .int a, l3] (.int a :: S) h Q := ax_iload_n mt218 dX12_taken_26 rfl
theorem s218_27 : aW d 218 27 L S h Q = aW d 218 28 L (.int (nI 0) :: S) h Q := ax_iconst mt218 dX12_taken_27 ic_0
theorem s218_28 : aW d 218 28 [.ref o, l1, l2, l3] S h Q = aW d 218 29 [.ref o, l1, l2, l3] (.ref o :: S) h Q := ax_aload_n mt218 dX12_taken_28 rfl
theorem s218_29 (hT : gT h o = some (14, 54)) : aW d 218 29 L (.ref o :: S) h Q = aW d 218 32 L (.int (gI h o 4) :: S) h Q := ax_geti mt218 dX12_taken_29 (by decide) ft_49317 fk_49317 hT
theorem s218_32 : aW d 218 32 L S h Q = aW d 218 33 L (.int (nI 1) :: S) h Q := ax_iconst mt218 dX12_taken_32 ic_1
theorem s218_33 : aW d 218 33 L (.int b :: .int a :: S) h Q = aW d 218 34 L (.int (a - b) :: S) h Q := ax_isub mt218 dX12_taken_33
theorem s218_34 : aW (d + 1) 218 34 L (.int x2 :: .int x1 :: .int x0 :: []) h Q = aM d 139 [.int x0, .int x1, .int x2] h (fun v h1 => aW (d + 1) 218 37 L (ab_ps v []) h1 Q) := ax_invs mt218 dX12_taken_34 (by decide) ct_49277 (.inl rfl) mt139 ⟨⟨Nat.le_of_ble_eq_true rfl, Nat.le_of_ble_eq_true rfl, Nat.le_of_ble_eq_true rfl⟩, rfl, rfl⟩
theorem s218_37 : aW d 218 37 L (.int a :: S) h Q = (if a = 0 then aW d 218 40 L S h Q else aW d 218 54 L S h Q) := ax_if_ne mt218 dX12_taken_37 (by decide)
theorem s218_40 : aW d 218 40 L S h Q = aW d 218 51 L S h Q := ax_goto mt218 dX12_taken_40 (by decide)
theorem s218_51 : aW d 218 51 L S h Q = aW d 218 53 L (.int ((-11)) :: S) h Q := ax_bipush mt218 dX12_taken_51 bp_m11
theorem s218_53 : aW d 218 53 L [.int a] h Q = Q (some (.int a)) h := ax_reti mt218 dX12_taken_53 rfl
theorem s218_54 : aW d 218 54 [l0, .int a, l2, l3] S h Q = aW d 218 55 [l0, .int a, l2, l3] (.int a :: S) h Q := ax_iload_n mt218 dX12_taken_54 rfl
theorem s218_55 : aW d 218 55 L S h Q = aW d 218 56 L (.int (nI 1) :: S) h Q := ax_iconst mt218 dX12_taken_55 ic_1
theorem s218_56 : aW d 218 56 L (.int b :: .int a :: S) h Q = (if a = b then aW d 218 59 L S h Q else aW d 218 77 L S h Q) := ax_icmp_ne mt218 dX12_taken_56 (by decide)
theorem s218_59 : aW d 218 59 [l0, l1, l2, .int a] S h Q = aW d 218 60 [l0, l1, l2, .int a] (.int a :: S) h Q := ax_iload_n mt218 dX12_taken_59 rfl
theorem s218_60 : aW d 218 60 L S h Q = aW d 218 62 L (.int (nI 6) :: S) h Q := ax_bipush mt218 dX12_taken_60 bp_6
theorem s218_62 : aW d 218 62 L (.int b :: .int a :: S) h Q = (if a = b then aW d 218 65 L S h Q else aW d 218 74 L S h Q) := ax_icmp_ne mt218 dX12_taken_62 (by decide)
theorem s218_65 : aW d 218 65 [.ref o, l1, l2, l3] S h Q = aW d 218 66 [.ref o, l1, l2, l3] (.ref o :: S) h Q := ax_aload_n mt218 dX12_taken_65 rfl
theorem s218_66 (hT : gT h o = some (14, 54)) : aW d 218 66 L (.ref o :: S) h Q = (isRf (gR h o 6) = true ∧ aW d 218 69 L (gR h o 6 :: S) h Q) := ax_geta mt218 dX12_taken_66 (by decide) ft_49172 fk_49172 hT
theorem s218_69 : aW d 218 69 [l0, l1, .int a, l3] S h Q = aW d 218 70 [l0, l1, .int a, l3] (.int a :: S) h Q := ax_iload_n mt218 dX12_taken_69 rfl
theorem s218_70 : aW d 218 70 L (.int a :: .ref o :: S) h Q = (inb a (aI h o) ∧ aW d 218 71 L (.int (gI h o a.toNatClampNeg) :: S) h Q) := ax_iald mt218 dX12_taken_70
theorem s218_71 : aW d 218 71 L S h Q = aW d 218 76 L S h Q := ax_goto mt218 dX12_taken_71 (by decide)
theorem s218_76 : aW d 218 76 L [.int a] h Q = Q (some (.int a)) h := ax_reti mt218 dX12_taken_76 rfl
theorem s218_74 : aW d 218 74 L S h Q = aW d 218 76 L (.int ((-13)) :: S) h Q := ax_bipush mt218 dX12_taken_74 bp_m13
theorem s218_77 : aW d 218 77 [l0, l1, l2, .int a] S h Q = aW d 218 78 [l0, l1, l2, .int a] (.int a :: S) h Q := ax_iload_n mt218 dX12_taken_77 rfl
theorem s218_78 : aW d 218 78 L S h Q = aW d 218 80 L (.int (nI 6) :: S) h Q := ax_bipush mt218 dX12_taken_78 bp_6
theorem s218_80 : aW d 218 80 L (.int b :: .int a :: S) h Q = (if a < b then aW d 218 83 L S h Q else aW d 218 100 L S h Q) := ax_icmp_ge mt218 dX12_taken_80 (by decide)
theorem s218_83 : aW d 218 83 [.ref o, l1, l2, l3] S h Q = aW d 218 84 [.ref o, l1, l2, l3] (.ref o :: S) h Q := ax_aload_n mt218 dX12_taken_83 rfl
theorem s218_84 (hT : gT h o = some (14, 54)) : aW d 218 84 L (.ref o :: S) h Q = (isRf (gR h o 10) = true ∧ aW d 218 87 L (gR h o 10 :: S) h Q) := ax_geta mt218 dX12_taken_84 (by decide) ft_49184 fk_49184 hT
theorem s218_87 : aW d 218 87 [l0, l1, .int a, l3] S h Q = aW d 218 88 [l0, l1, .int a, l3] (.int a :: S) h Q := ax_iload_n mt218 dX12_taken_87 rfl
theorem s218_88 : aW d 218 88 L (.int a :: .ref o :: S) h Q = (inb a (aI h o) ∧ aW d 218 89 L (.int (gI h o a.toNatClampNeg) :: S) h Q) := ax_iald mt218 dX12_taken_88
theorem s218_89 : aW d 218 89 [l0, l1, l2, .int a] S h Q = aW d 218 90 [l0, l1, l2, .int a] (.int a :: S) h Q := ax_iload_n mt218 dX12_taken_89 rfl
theorem s218_90 : aW (d + 1) 218 90 L (.int x1 :: .int x0 :: []) h Q = aM d 217 [.int x0, .int x1] h (fun v h1 => aW (d + 1) 218 93 L (ab_ps v []) h1 Q) := ax_invs mt218 dX12_taken_90 (by decide) ct_49481 (.inl rfl) mt217 ⟨⟨Nat.le_of_ble_eq_true rfl, Nat.le_of_ble_eq_true rfl, Nat.le_of_ble_eq_true rfl⟩, rfl, rfl⟩
theorem s218_93 : aW d 218 93 L (.int a :: S) h Q = (if a = 0 then aW d 218 100 L S h Q else aW d 218 96 L S h Q) := ax_if_eq mt218 dX12_taken_93 (by decide)
theorem s218_96 : aW d 218 96 [l0, l1, .int a, l3] S h Q = aW d 218 97 [l0, l1, .int a, l3] (.int a :: S) h Q := ax_iload_n mt218 dX12_taken_96 rfl
theorem s218_97 : aW d 218 97 L S h Q = aW d 218 102 L S h Q := ax_goto mt218 dX12_taken_97 (by decide)
theorem s218_102 : aW d 218 102 L [.int a] h Q = Q (some (.int a)) h := ax_reti mt218 dX12_taken_102 rfl
theorem s218_100 : aW d 218 100 L S h Q = aW d 218 102 L (.int ((-13)) :: S) h Q := ax_bipush mt218 dX12_taken_100 bp_m13
theorem s218_43 : aW d 218 43 [.ref o, l1, l2, l3] S h Q = aW d 218 44 [.ref o, l1, l2, l3] (.ref o :: S) h Q := ax_aload_n mt218 dX12_taken_43 rfl
theorem s218_44 : aW d 218 44 [l0, l1, .int a, l3] S h Q = aW d 218 45 [l0, l1, .int a, l3] (.int a :: S) h Q := ax_iload_n mt218 dX12_taken_44 rfl
theorem s218_45 (hT : gT h o = some (14, 54)) : aW (d + 1) 218 45 L (.int x0 :: .ref o :: []) h Q = aM d 153 (.ref o :: [.int x0]) h (fun v h1 => aW (d + 1) 218 48 L (ab_ps v []) h1 Q) := ax_invv mt218 dX12_taken_45 (by decide) ct_49392 (.inl rfl) mt153 ⟨⟨Nat.le_of_ble_eq_true rfl, Nat.le_of_ble_eq_true rfl, Nat.le_of_ble_eq_true rfl⟩, rfl, rfl, rfl⟩ hT
theorem s218_48 : aW d 218 48 L (.int a :: S) h Q = (if a = 0 then aW d 218 51 L S h Q else aW d 218 54 L S h Q) := ax_if_ne mt218 dX12_taken_48 (by decide)
theorem s218_19 : aW d 218 19 L S h Q = aW d 218 21 L (.int ((-2)) :: S) h Q := ax_bipush mt218 dX12_taken_19 bp_m2
theorem s218_21 : aW d 218 21 L [.int a] h Q = Q (some (.int a)) h := ax_reti mt218 dX12_taken_21 rfl
end S
